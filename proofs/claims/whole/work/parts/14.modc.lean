/-! ===== functions over the memory and their contracts: printed by wip/whole/lay.py ===== -/
-- GateBoxModel.explained(II)I
def zX12_explained_B57 (KK13 : Nat → Int32 → Int32 → Int32 → Int32 → Int32 → Mem → Option (Int32 × Mem)) (this : Nat) (x1 : Int32) (x2 : Int32) (x3 : Int32) (x5 : Int32) (s0 : Int32) (s1 : Int32) (M : Mem) : Option (Int32 × Mem) :=
  lt (s0 ||| s1) fun v1 =>
  KK13 this x1 x2 x3 v1 (x5 + 1) M
def zX12_explained_B13 (KK13 : Nat → Int32 → Int32 → Int32 → Int32 → Int32 → Mem → Option (Int32 × Mem)) (this : Nat) (x1 : Int32) (x2 : Int32) (x3 : Int32) (x4 : Int32) (x5 : Int32) (M : Mem) : Option (Int32 × Mem) :=
  if mR M this 3 ≠ 0 then
  if (K0 (mR M this 3)).1 = 1 ∧ inb x1 (K0 (mR M this 3)).2 = true then
  if (mI M (mR M this 3) (Int32.toNatClampNeg x1)) ≤ x5 then
    some (x4, M)
  else
    bnd (zX12_gift this x1 x5 x3 M) fun v4 M5 =>
    if mR M5 this 14 ≠ 0 then
    if (K0 (mR M5 this 14)).1 = 1 ∧ inb ((200 * x1) + x2) (K0 (mR M5 this 14)).2 = true then
    if v4 = (mI M5 (mR M5 this 14) (Int32.toNatClampNeg ((200 * x1) + x2))) then
      zX12_explained_B57 KK13 this x1 x2 x3 x5 x4 (1 <<< (x5 &&& 31)) M5
    else
      zX12_explained_B57 KK13 this x1 x2 x3 x5 x4 0 M5
    else none
    else none
  else none
  else none
def zX12_explained_L13 : Nat → Nat → Int32 → Int32 → Int32 → Int32 → Int32 → Mem → Option (Int32 × Mem)
  | 0 => fun _ _ _ _ _ _ _ => none
  | k + 1 => zX12_explained_B13 (zX12_explained_L13 k)
def zX12_explained (this : Nat) (x1 : Int32) (x2 : Int32) (M : Mem) : Option (Int32 × Mem) :=
  if K0 this = (0, 12) then
  bnd (zX12_stateAhead this x1 x2 M) fun v1 M2 =>
  zX12_explained_L13 FU this x1 x2 v1 0 0 M2
  else none
set_option maxRecDepth 20000 in
set_option maxHeartbeats 4000000 in
theorem kX12_explained_B57 (l : Launch) (E : Ev) (n : Nat) (hn : 10 ≤ n) (ct : Nat) (hct : 111 ≤ ct) (ex : Bool) (KK13 : Nat → Int32 → Int32 → Int32 → Int32 → Int32 → Mem → Option (Int32 × Mem)) (hKK13 : ∀ (this : Nat) (x1 : Int32) (x2 : Int32) (x3 : Int32) (x4 : Int32) (x5 : Int32) (M : Mem) (_ : K0 this = (0, 12)), AW l E fX12_explained (fun _ => rmN n 0 0) (PQr E 0 0 ct ex enI) ct ex 0 0 13 [(0, .ref (ad E this)), (1, .int x1), (2, .int x2), (3, .int x3), (4, .int x4), (5, .int x5)] [] M (KK13 this x1 x2 x3 x4 x5 M)) (this : Nat) (x1 : Int32) (x2 : Int32) (x3 : Int32) (x5 : Int32) (s0 : Int32) (s1 : Int32) (M : Mem) (hthis : K0 this = (0, 12)) : AW l E fX12_explained (fun _ => rmN n 0 0) (PQr E 0 0 ct ex enI) ct ex 0 0 57 [(0, .ref (ad E this)), (1, .int x1), (2, .int x2), (3, .int x3), (5, .int x5)] [.int s1, .int s0] M (zX12_explained_B57 KK13 this x1 x2 x3 x5 s0 s1 M) := by
  unfold zX12_explained_B57
  refine AW.ior (pc := 57) dX12_explained_57 ?_
  refine AW.genI (fun v1 => ?_)
  refine AW.istore (pc := 58) [1, 2, 3, 4, 0, 5] [(0, .ref (ad E this)), (1, .int x1), (2, .int x2), (3, .int x3), (4, .int v1), (5, .int x5)] dX12_explained_58 (by decide) rfl ?_
  refine AW.iinc (pc := 60) (w := 5) [1, 2, 3, 4, 5, 0] [(0, .ref (ad E this)), (1, .int x1), (2, .int x2), (3, .int x3), (4, .int v1), (5, .int (x5 + 1))] dX12_explained_60 rfl (inc_1 _) (by decide) rfl ?_
  refine AW.goto (pc := 63) 13 dX12_explained_63 (by decide) ?_
  exact hKK13 this x1 x2 x3 v1 (x5 + 1) M hthis
set_option maxRecDepth 20000 in
set_option maxHeartbeats 4000000 in
theorem kX12_explained_B13 (l : Launch) (E : Ev) (n : Nat) (hn : 10 ≤ n) (ct : Nat) (hct : 111 ≤ ct) (ex : Bool) (KK13 : Nat → Int32 → Int32 → Int32 → Int32 → Int32 → Mem → Option (Int32 × Mem)) (hKK13 : ∀ (this : Nat) (x1 : Int32) (x2 : Int32) (x3 : Int32) (x4 : Int32) (x5 : Int32) (M : Mem) (_ : K0 this = (0, 12)), AW l E fX12_explained (fun _ => rmN n 0 0) (PQr E 0 0 ct ex enI) ct ex 0 0 13 [(0, .ref (ad E this)), (1, .int x1), (2, .int x2), (3, .int x3), (4, .int x4), (5, .int x5)] [] M (KK13 this x1 x2 x3 x4 x5 M)) (this : Nat) (x1 : Int32) (x2 : Int32) (x3 : Int32) (x4 : Int32) (x5 : Int32) (M : Mem) (hthis : K0 this = (0, 12)) : AW l E fX12_explained (fun _ => rmN n 0 0) (PQr E 0 0 ct ex enI) ct ex 0 0 13 [(0, .ref (ad E this)), (1, .int x1), (2, .int x2), (3, .int x3), (4, .int x4), (5, .int x5)] [] M (zX12_explained_B13 KK13 this x1 x2 x3 x4 x5 M) := by
  unfold zX12_explained_B13
  refine AW.iload (pc := 13) dX12_explained_13 5 rfl ?_
  refine AW.aload_n (pc := 15) dX12_explained_15 rfl 0 rfl ?_
  refine AW.chk (fun g1 => ?_)
  refine AW.getR (pc := 16) dX12_explained_16 flX12_42 hthis (kct hthis rfl hct) g1 ?_
  refine AW.iload_n (pc := 19) dX12_explained_19 rfl 1 rfl ?_
  refine AW.chk (fun g2 => ?_)
  refine AW.iald (pc := 20) dX12_explained_20 (k0e g2.1) (kct (k0e g2.1) rfl hct) g2.2 ?_
  refine AW.icmp_ge (pc := 21) 66 dX12_explained_21 (by decide) (fun h3 => ?_) (fun h3 => ?_)
  · refine AW.iload (pc := 66) dX12_explained_66 4 rfl ?_
    exact AW.iret (pc := 68) dX12_explained_68 rfl (fun _ _ _ => rfl) (Nat.le_refl _) (Nat.le_refl _)
  · refine AW.iload (pc := 24) dX12_explained_24 4 rfl ?_
    refine AW.aload_n (pc := 26) dX12_explained_26 rfl 0 rfl ?_
    refine AW.iload_n (pc := 27) dX12_explained_27 rfl 1 rfl ?_
    refine AW.iload (pc := 28) dX12_explained_28 5 rfl ?_
    refine AW.iload_n (pc := 30) dX12_explained_30 rfl 3 rfl ?_
    refine AW.cV3i (pc := 31) dX12_explained_31 mlX12_330 mbX12_gift rfl hthis (kct hthis rfl hct) (fun _ => okR_N (by omega)) (kX12_gift l E (n - 1) (by omega) ct hct ex this x1 x5 x3 M) (Nat.le_of_ble_eq_true rfl) (fun v4 M5 => ?_)
    refine AW.aload_n (pc := 34) dX12_explained_34 rfl 0 rfl ?_
    refine AW.chk (fun g6 => ?_)
    refine AW.getR (pc := 35) dX12_explained_35 flX12_74 hthis (kct hthis rfl hct) g6 ?_
    refine AW.sipush (pc := 38) dX12_explained_38 cs_200 ?_
    refine AW.iload_n (pc := 41) dX12_explained_41 rfl 1 rfl ?_
    refine AW.imul (pc := 42) dX12_explained_42 ?_
    refine AW.iload_n (pc := 43) dX12_explained_43 rfl 2 rfl ?_
    refine AW.iadd (pc := 44) dX12_explained_44 ?_
    refine AW.chk (fun g7 => ?_)
    refine AW.iald (pc := 45) dX12_explained_45 (k0e g7.1) (kct (k0e g7.1) rfl hct) g7.2 ?_
    refine AW.icmp_ne (pc := 46) 56 dX12_explained_46 (by decide) (fun h8 => ?_) (fun h8 => ?_)
    · refine AW.iconst (pc := 49) dX12_explained_49 ci_1 ?_
      refine AW.iload (pc := 50) dX12_explained_50 5 rfl ?_
      refine AW.ishl (pc := 52) dX12_explained_52 ?_
      refine AW.goto (pc := 53) 57 dX12_explained_53 (by decide) ?_
      exact AW.sub [0, 1, 2, 3, 5] rfl (kX12_explained_B57 l E n hn ct hct ex KK13 hKK13 this x1 x2 x3 x5 x4 (1 <<< (x5 &&& 31)) M5 hthis)
    · refine AW.iconst (pc := 56) dX12_explained_56 ci_0 ?_
      exact AW.sub [0, 1, 2, 3, 5] rfl (kX12_explained_B57 l E n hn ct hct ex KK13 hKK13 this x1 x2 x3 x5 x4 0 M5 hthis)
set_option maxRecDepth 20000 in
set_option maxHeartbeats 4000000 in
theorem kX12_explained_L13 (l : Launch) (E : Ev) (n : Nat) (hn : 10 ≤ n) (ct : Nat) (hct : 111 ≤ ct) (ex : Bool) (k : Nat) : ∀ (this : Nat) (x1 : Int32) (x2 : Int32) (x3 : Int32) (x4 : Int32) (x5 : Int32) (M : Mem) (_ : K0 this = (0, 12)), AW l E fX12_explained (fun _ => rmN n 0 0) (PQr E 0 0 ct ex enI) ct ex 0 0 13 [(0, .ref (ad E this)), (1, .int x1), (2, .int x2), (3, .int x3), (4, .int x4), (5, .int x5)] [] M (zX12_explained_L13 k this x1 x2 x3 x4 x5 M) := by
  induction k with
  | zero => intro this x1 x2 x3 x4 x5 M _; exact AW.none
  | succ k ih =>
    intro this x1 x2 x3 x4 x5 M hthis
    exact kX12_explained_B13 l E n hn ct hct ex (zX12_explained_L13 k) ih this x1 x2 x3 x4 x5 M hthis
set_option maxRecDepth 20000 in
set_option maxHeartbeats 4000000 in
theorem kX12_explained (l : Launch) (E : Ev) (n : Nat) (hn : 10 ≤ n) (ct : Nat) (hct : 111 ≤ ct) (ex : Bool) (this : Nat) (x1 : Int32) (x2 : Int32) (M : Mem) : AM l E n ct ex yX12_explained fX12_explained enI [.ref (ad E this), .int x1, .int x2] M (zX12_explained this x1 x2 M) := by
  unfold zX12_explained
  refine AM.of (by decide +kernel) ⟨rfl, rfl, rfl⟩ (Nat.le_of_ble_eq_true rfl) ?_
  refine AW.chk (fun hthis => ?_)
  refine AW.aload_n (pc := 0) dX12_explained_0 rfl 0 rfl ?_
  refine AW.iload_n (pc := 1) dX12_explained_1 rfl 1 rfl ?_
  refine AW.iload_n (pc := 2) dX12_explained_2 rfl 2 rfl ?_
  refine AW.cV2i (pc := 3) dX12_explained_3 mlX12_416 mbX12_stateAhead rfl hthis (kct hthis rfl hct) (fun _ => okR_N (by omega)) (kX12_stateAhead l E (n - 1) (by omega) ct hct ex this x1 x2 M) (Nat.le_of_ble_eq_true rfl) (fun v1 M2 => ?_)
  refine AW.istore_n (pc := 6) [1, 2, 3, 0] [(0, .ref (ad E this)), (1, .int x1), (2, .int x2), (3, .int v1)] dX12_explained_6 rfl (by decide) rfl ?_
  refine AW.iconst (pc := 7) dX12_explained_7 ci_0 ?_
  refine AW.istore (pc := 8) [1, 2, 3, 4, 0] [(0, .ref (ad E this)), (1, .int x1), (2, .int x2), (3, .int v1), (4, .int 0)] dX12_explained_8 (by decide) rfl ?_
  refine AW.iconst (pc := 10) dX12_explained_10 ci_0 ?_
  refine AW.istore (pc := 11) [1, 2, 3, 4, 5, 0] [(0, .ref (ad E this)), (1, .int x1), (2, .int x2), (3, .int v1), (4, .int 0), (5, .int 0)] dX12_explained_11 (by decide) rfl ?_
  exact kX12_explained_L13 l E n hn ct hct ex FU this x1 x2 v1 0 0 M2 hthis
-- GateBoxModel.given(III)I
def zX12_given_B37 (this : Nat) (M : Mem) : Option (Int32 × Mem) :=
  bnd (zX12_fail this 1 M) fun v1 M2 =>
  some (v1, M2)
def zX12_given (this : Nat) (x1 : Int32) (x2 : Int32) (x3 : Int32) (M : Mem) : Option (Int32 × Mem) :=
  if K0 this = (0, 12) then
  lt (sI M this 2 0) fun M1 =>
  bnd (zX12_isGate x1 M1) fun v2 M3 =>
  if v2 = 0 then
    zX12_given_B37 this M3
  else
    if mR M3 this 13 ≠ 0 then
    if (K0 (mR M3 this 13)).1 = 1 ∧ inb x1 (K0 (mR M3 this 13)).2 = true then
    bnd (zX12_isIn x2 0 ((mI M3 (mR M3 this 13) (Int32.toNatClampNeg x1)) - 1) M3) fun v7 M8 =>
    if v7 = 0 then
      zX12_given_B37 this M8
    else
      bnd (zX12_isIn x3 0 2 M8) fun v10 M11 =>
      if v10 = 0 then
        zX12_given_B37 this M11
      else
        if x3 = 0 then
          if mR M11 this 14 ≠ 0 then
          if (K0 (mR M11 this 14)).1 = 1 ∧ inb ((200 * x1) + x2) (K0 (mR M11 this 14)).2 = true then
          some (mI M11 (mR M11 this 14) (Int32.toNatClampNeg ((200 * x1) + x2)), M11)
          else none
          else none
        else
          if x3 = 1 then
            bnd (zX12_stateAhead this x1 x2 M11) fun v17 M18 =>
            some (v17, M18)
          else
            bnd (zX12_explained this x1 x2 M11) fun v19 M20 =>
            some (v19, M20)
    else none
    else none
  else none
set_option maxRecDepth 20000 in
set_option maxHeartbeats 4000000 in
theorem kX12_given_B37 (l : Launch) (E : Ev) (n : Nat) (hn : 11 ≤ n) (ct : Nat) (hct : 111 ≤ ct) (ex : Bool) (this : Nat) (M : Mem) (hthis : K0 this = (0, 12)) : AW l E fX12_given (fun _ => rmN n 0 0) (PQr E 0 0 ct ex enI) ct ex 0 0 37 [(0, .ref (ad E this))] [] M (zX12_given_B37 this M) := by
  unfold zX12_given_B37
  refine AW.aload_n (pc := 37) dX12_given_37 rfl 0 rfl ?_
  refine AW.iconst (pc := 38) dX12_given_38 ci_1 ?_
  refine AW.cV1i (pc := 39) dX12_given_39 mlX12_289 mbX12_fail rfl hthis (kct hthis rfl hct) (fun _ => okR_N (by omega)) (kX12_fail l E (n - 1) (by omega) ct hct ex this 1 M) (Nat.le_of_ble_eq_true rfl) (fun v1 M2 => ?_)
  exact AW.iret (pc := 42) dX12_given_42 rfl (fun _ _ _ => rfl) (Nat.le_refl _) (Nat.le_refl _)
set_option maxRecDepth 20000 in
set_option maxHeartbeats 4000000 in
theorem kX12_given (l : Launch) (E : Ev) (n : Nat) (hn : 11 ≤ n) (ct : Nat) (hct : 111 ≤ ct) (ex : Bool) (this : Nat) (x1 : Int32) (x2 : Int32) (x3 : Int32) (M : Mem) : AM l E n ct ex yX12_given fX12_given enI [.ref (ad E this), .int x1, .int x2, .int x3] M (zX12_given this x1 x2 x3 M) := by
  unfold zX12_given
  refine AM.of (by decide +kernel) ⟨rfl, rfl, rfl⟩ (Nat.le_of_ble_eq_true rfl) ?_
  refine AW.chk (fun hthis => ?_)
  refine AW.aload_n (pc := 0) dX12_given_0 rfl 0 rfl ?_
  refine AW.iconst (pc := 1) dX12_given_1 ci_0 ?_
  refine AW.putI (pc := 2) dX12_given_2 flX12_159 hthis (kct hthis rfl hct) ?_
  refine AW.genM (fun M1 => ?_)
  refine AW.iload_n (pc := 5) dX12_given_5 rfl 1 rfl ?_
  refine AW.cS1i (pc := 6) dX12_given_6 mlX12_166 mbX12_isGate (fun _ => okR_N (by omega)) (kX12_isGate l E (n - 1) (by omega) ct hct ex x1 M1) (Nat.le_of_ble_eq_true rfl) (fun v2 M3 => ?_)
  refine AW.if_eq (pc := 9) 37 dX12_given_9 (by decide) (fun h4 => ?_) (fun h4 => ?_)
  · exact AW.sub [0] rfl (kX12_given_B37 l E n hn ct hct ex this M3 hthis)
  · refine AW.iload_n (pc := 12) dX12_given_12 rfl 2 rfl ?_
    refine AW.iconst (pc := 13) dX12_given_13 ci_0 ?_
    refine AW.aload_n (pc := 14) dX12_given_14 rfl 0 rfl ?_
    refine AW.chk (fun g5 => ?_)
    refine AW.getR (pc := 15) dX12_given_15 flX12_71 hthis (kct hthis rfl hct) g5 ?_
    refine AW.iload_n (pc := 18) dX12_given_18 rfl 1 rfl ?_
    refine AW.chk (fun g6 => ?_)
    refine AW.iald (pc := 19) dX12_given_19 (k0e g6.1) (kct (k0e g6.1) rfl hct) g6.2 ?_
    refine AW.iconst (pc := 20) dX12_given_20 ci_1 ?_
    refine AW.isub (pc := 21) dX12_given_21 ?_
    refine AW.cS3i (pc := 22) dX12_given_22 mlX12_162 mbX12_isIn (fun _ => okR_N (by omega)) (kX12_isIn l E (n - 1) (by omega) ct hct ex x2 0 ((mI M3 (mR M3 this 13) (Int32.toNatClampNeg x1)) - 1) M3) (Nat.le_of_ble_eq_true rfl) (fun v7 M8 => ?_)
    refine AW.if_eq (pc := 25) 37 dX12_given_25 (by decide) (fun h9 => ?_) (fun h9 => ?_)
    · exact AW.sub [0] rfl (kX12_given_B37 l E n hn ct hct ex this M8 hthis)
    · refine AW.iload_n (pc := 28) dX12_given_28 rfl 3 rfl ?_
      refine AW.iconst (pc := 29) dX12_given_29 ci_0 ?_
      refine AW.iconst (pc := 30) dX12_given_30 ci_2 ?_
      refine AW.cS3i (pc := 31) dX12_given_31 mlX12_162 mbX12_isIn (fun _ => okR_N (by omega)) (kX12_isIn l E (n - 1) (by omega) ct hct ex x3 0 2 M8) (Nat.le_of_ble_eq_true rfl) (fun v10 M11 => ?_)
      refine AW.if_ne (pc := 34) 43 dX12_given_34 (by decide) (fun h12 => ?_) (fun h12 => ?_)
      · exact AW.sub [0] rfl (kX12_given_B37 l E n hn ct hct ex this M11 hthis)
      · refine AW.iload_n (pc := 43) dX12_given_43 rfl 3 rfl ?_
        refine AW.if_ne (pc := 44) 62 dX12_given_44 (by decide) (fun h13 => ?_) (fun h13 => ?_)
        · refine AW.aload_n (pc := 47) dX12_given_47 rfl 0 rfl ?_
          refine AW.chk (fun g14 => ?_)
          refine AW.getR (pc := 48) dX12_given_48 flX12_74 hthis (kct hthis rfl hct) g14 ?_
          refine AW.sipush (pc := 51) dX12_given_51 cs_200 ?_
          refine AW.iload_n (pc := 54) dX12_given_54 rfl 1 rfl ?_
          refine AW.imul (pc := 55) dX12_given_55 ?_
          refine AW.iload_n (pc := 56) dX12_given_56 rfl 2 rfl ?_
          refine AW.iadd (pc := 57) dX12_given_57 ?_
          refine AW.chk (fun g15 => ?_)
          refine AW.iald (pc := 58) dX12_given_58 (k0e g15.1) (kct (k0e g15.1) rfl hct) g15.2 ?_
          refine AW.goto (pc := 59) 82 dX12_given_59 (by decide) ?_
          exact AW.iret (pc := 82) dX12_given_82 rfl (fun _ _ _ => rfl) (Nat.le_refl _) (Nat.le_refl _)
        · refine AW.iload_n (pc := 62) dX12_given_62 rfl 3 rfl ?_
          refine AW.iconst (pc := 63) dX12_given_63 ci_1 ?_
          refine AW.icmp_ne (pc := 64) 76 dX12_given_64 (by decide) (fun h16 => ?_) (fun h16 => ?_)
          · refine AW.aload_n (pc := 67) dX12_given_67 rfl 0 rfl ?_
            refine AW.iload_n (pc := 68) dX12_given_68 rfl 1 rfl ?_
            refine AW.iload_n (pc := 69) dX12_given_69 rfl 2 rfl ?_
            refine AW.cV2i (pc := 70) dX12_given_70 mlX12_416 mbX12_stateAhead rfl hthis (kct hthis rfl hct) (fun _ => okR_N (by omega)) (kX12_stateAhead l E (n - 1) (by omega) ct hct ex this x1 x2 M11) (Nat.le_of_ble_eq_true rfl) (fun v17 M18 => ?_)
            refine AW.goto (pc := 73) 82 dX12_given_73 (by decide) ?_
            exact AW.iret (pc := 82) dX12_given_82 rfl (fun _ _ _ => rfl) (Nat.le_refl _) (Nat.le_refl _)
          · refine AW.aload_n (pc := 76) dX12_given_76 rfl 0 rfl ?_
            refine AW.iload_n (pc := 77) dX12_given_77 rfl 1 rfl ?_
            refine AW.iload_n (pc := 78) dX12_given_78 rfl 2 rfl ?_
            refine AW.cV2i (pc := 79) dX12_given_79 mlX12_419 mbX12_explained rfl hthis (kct hthis rfl hct) (fun _ => okR_N (by omega)) (kX12_explained l E (n - 1) (by omega) ct hct ex this x1 x2 M11) (Nat.le_of_ble_eq_true rfl) (fun v19 M20 => ?_)
            exact AW.iret (pc := 82) dX12_given_82 rfl (fun _ _ _ => rfl) (Nat.le_refl _) (Nat.le_refl _)
-- GateBoxModel.who(III)I
def zX12_who_B87 (KK35 : Nat → Int32 → Int32 → Int32 → Int32 → Int32 → Mem → Option (Int32 × Mem)) (this : Nat) (x1 : Int32) (x2 : Int32) (x3 : Int32) (x5 : Int32) (s0 : Int32) (s1 : Int32) (M : Mem) : Option (Int32 × Mem) :=
  lt (s0 + s1) fun v1 =>
  KK35 this x1 x2 x3 v1 (x5 + 1) M
def zX12_who_B86 (KK35 : Nat → Int32 → Int32 → Int32 → Int32 → Int32 → Mem → Option (Int32 × Mem)) (this : Nat) (x1 : Int32) (x2 : Int32) (x3 : Int32) (x5 : Int32) (s0 : Int32) (M : Mem) : Option (Int32 × Mem) :=
  zX12_who_B87 KK35 this x1 x2 x3 x5 s0 0 M
def zX12_who_B82 (KK35 : Nat → Int32 → Int32 → Int32 → Int32 → Int32 → Mem → Option (Int32 × Mem)) (this : Nat) (x1 : Int32) (x2 : Int32) (x3 : Int32) (x5 : Int32) (s0 : Int32) (M : Mem) : Option (Int32 × Mem) :=
  zX12_who_B87 KK35 this x1 x2 x3 x5 s0 1 M
def zX12_who_B35 (KK35 : Nat → Int32 → Int32 → Int32 → Int32 → Int32 → Mem → Option (Int32 × Mem)) (this : Nat) (x1 : Int32) (x2 : Int32) (x3 : Int32) (x4 : Int32) (x5 : Int32) (M : Mem) : Option (Int32 × Mem) :=
  if mR M this 13 ≠ 0 then
  if (K0 (mR M this 13)).1 = 1 ∧ inb x1 (K0 (mR M this 13)).2 = true then
  if (mI M (mR M this 13) (Int32.toNatClampNeg x1)) ≤ x5 then
    some (x4, M)
  else
    bnd (zX12_explained this x1 x5 M) fun v4 M5 =>
    if x3 = 0 then
      if v4 = (1 <<< (x2 &&& 31)) then
        zX12_who_B82 KK35 this x1 x2 x3 x5 x4 M5
      else
        zX12_who_B86 KK35 this x1 x2 x3 x5 x4 M5
    else
      if ((v4 >>> (x2 &&& 31)) &&& 1) = 1 then
        zX12_who_B82 KK35 this x1 x2 x3 x5 x4 M5
      else
        zX12_who_B86 KK35 this x1 x2 x3 x5 x4 M5
  else none
  else none
def zX12_who_L35 : Nat → Nat → Int32 → Int32 → Int32 → Int32 → Int32 → Mem → Option (Int32 × Mem)
  | 0 => fun _ _ _ _ _ _ _ => none
  | k + 1 => zX12_who_B35 (zX12_who_L35 k)
def zX12_who_B23 (this : Nat) (M : Mem) : Option (Int32 × Mem) :=
  bnd (zX12_fail this 1 M) fun v1 M2 =>
  some (v1, M2)
def zX12_who (this : Nat) (x1 : Int32) (x2 : Int32) (x3 : Int32) (M : Mem) : Option (Int32 × Mem) :=
  if K0 this = (0, 12) then
  lt (sI M this 2 0) fun M1 =>
  bnd (zX12_isSort this x1 x2 M1) fun v2 M3 =>
  if v2 = 0 then
    zX12_who_B23 this M3
  else
    if x3 < 0 then
      zX12_who_B23 this M3
    else
      if x3 ≤ 1 then
        zX12_who_L35 FU this x1 x2 x3 0 0 M3
      else
        zX12_who_B23 this M3
  else none
set_option maxRecDepth 20000 in
set_option maxHeartbeats 4000000 in
theorem kX12_who_B87 (l : Launch) (E : Ev) (n : Nat) (hn : 11 ≤ n) (ct : Nat) (hct : 111 ≤ ct) (ex : Bool) (KK35 : Nat → Int32 → Int32 → Int32 → Int32 → Int32 → Mem → Option (Int32 × Mem)) (hKK35 : ∀ (this : Nat) (x1 : Int32) (x2 : Int32) (x3 : Int32) (x4 : Int32) (x5 : Int32) (M : Mem) (_ : K0 this = (0, 12)), AW l E fX12_who (fun _ => rmN n 0 0) (PQr E 0 0 ct ex enI) ct ex 0 0 35 [(0, .ref (ad E this)), (1, .int x1), (2, .int x2), (3, .int x3), (4, .int x4), (5, .int x5)] [] M (KK35 this x1 x2 x3 x4 x5 M)) (this : Nat) (x1 : Int32) (x2 : Int32) (x3 : Int32) (x5 : Int32) (s0 : Int32) (s1 : Int32) (M : Mem) (hthis : K0 this = (0, 12)) : AW l E fX12_who (fun _ => rmN n 0 0) (PQr E 0 0 ct ex enI) ct ex 0 0 87 [(0, .ref (ad E this)), (1, .int x1), (2, .int x2), (3, .int x3), (5, .int x5)] [.int s1, .int s0] M (zX12_who_B87 KK35 this x1 x2 x3 x5 s0 s1 M) := by
  unfold zX12_who_B87
  refine AW.iadd (pc := 87) dX12_who_87 ?_
  refine AW.genI (fun v1 => ?_)
  refine AW.istore (pc := 88) [1, 2, 3, 4, 0, 5] [(0, .ref (ad E this)), (1, .int x1), (2, .int x2), (3, .int x3), (4, .int v1), (5, .int x5)] dX12_who_88 (by decide) rfl ?_
  refine AW.iinc (pc := 90) (w := 5) [1, 2, 3, 4, 5, 0] [(0, .ref (ad E this)), (1, .int x1), (2, .int x2), (3, .int x3), (4, .int v1), (5, .int (x5 + 1))] dX12_who_90 rfl (inc_1 _) (by decide) rfl ?_
  refine AW.goto (pc := 93) 35 dX12_who_93 (by decide) ?_
  exact hKK35 this x1 x2 x3 v1 (x5 + 1) M hthis
set_option maxRecDepth 20000 in
set_option maxHeartbeats 4000000 in
theorem kX12_who_B86 (l : Launch) (E : Ev) (n : Nat) (hn : 11 ≤ n) (ct : Nat) (hct : 111 ≤ ct) (ex : Bool) (KK35 : Nat → Int32 → Int32 → Int32 → Int32 → Int32 → Mem → Option (Int32 × Mem)) (hKK35 : ∀ (this : Nat) (x1 : Int32) (x2 : Int32) (x3 : Int32) (x4 : Int32) (x5 : Int32) (M : Mem) (_ : K0 this = (0, 12)), AW l E fX12_who (fun _ => rmN n 0 0) (PQr E 0 0 ct ex enI) ct ex 0 0 35 [(0, .ref (ad E this)), (1, .int x1), (2, .int x2), (3, .int x3), (4, .int x4), (5, .int x5)] [] M (KK35 this x1 x2 x3 x4 x5 M)) (this : Nat) (x1 : Int32) (x2 : Int32) (x3 : Int32) (x5 : Int32) (s0 : Int32) (M : Mem) (hthis : K0 this = (0, 12)) : AW l E fX12_who (fun _ => rmN n 0 0) (PQr E 0 0 ct ex enI) ct ex 0 0 86 [(0, .ref (ad E this)), (1, .int x1), (2, .int x2), (3, .int x3), (5, .int x5)] [.int s0] M (zX12_who_B86 KK35 this x1 x2 x3 x5 s0 M) := by
  unfold zX12_who_B86
  refine AW.iconst (pc := 86) dX12_who_86 ci_0 ?_
  exact kX12_who_B87 l E n hn ct hct ex KK35 hKK35 this x1 x2 x3 x5 s0 0 M hthis
set_option maxRecDepth 20000 in
set_option maxHeartbeats 4000000 in
theorem kX12_who_B82 (l : Launch) (E : Ev) (n : Nat) (hn : 11 ≤ n) (ct : Nat) (hct : 111 ≤ ct) (ex : Bool) (KK35 : Nat → Int32 → Int32 → Int32 → Int32 → Int32 → Mem → Option (Int32 × Mem)) (hKK35 : ∀ (this : Nat) (x1 : Int32) (x2 : Int32) (x3 : Int32) (x4 : Int32) (x5 : Int32) (M : Mem) (_ : K0 this = (0, 12)), AW l E fX12_who (fun _ => rmN n 0 0) (PQr E 0 0 ct ex enI) ct ex 0 0 35 [(0, .ref (ad E this)), (1, .int x1), (2, .int x2), (3, .int x3), (4, .int x4), (5, .int x5)] [] M (KK35 this x1 x2 x3 x4 x5 M)) (this : Nat) (x1 : Int32) (x2 : Int32) (x3 : Int32) (x5 : Int32) (s0 : Int32) (M : Mem) (hthis : K0 this = (0, 12)) : AW l E fX12_who (fun _ => rmN n 0 0) (PQr E 0 0 ct ex enI) ct ex 0 0 82 [(0, .ref (ad E this)), (1, .int x1), (2, .int x2), (3, .int x3), (5, .int x5)] [.int s0] M (zX12_who_B82 KK35 this x1 x2 x3 x5 s0 M) := by
  unfold zX12_who_B82
  refine AW.iconst (pc := 82) dX12_who_82 ci_1 ?_
  refine AW.goto (pc := 83) 87 dX12_who_83 (by decide) ?_
  exact kX12_who_B87 l E n hn ct hct ex KK35 hKK35 this x1 x2 x3 x5 s0 1 M hthis
set_option maxRecDepth 20000 in
set_option maxHeartbeats 4000000 in
theorem kX12_who_B35 (l : Launch) (E : Ev) (n : Nat) (hn : 11 ≤ n) (ct : Nat) (hct : 111 ≤ ct) (ex : Bool) (KK35 : Nat → Int32 → Int32 → Int32 → Int32 → Int32 → Mem → Option (Int32 × Mem)) (hKK35 : ∀ (this : Nat) (x1 : Int32) (x2 : Int32) (x3 : Int32) (x4 : Int32) (x5 : Int32) (M : Mem) (_ : K0 this = (0, 12)), AW l E fX12_who (fun _ => rmN n 0 0) (PQr E 0 0 ct ex enI) ct ex 0 0 35 [(0, .ref (ad E this)), (1, .int x1), (2, .int x2), (3, .int x3), (4, .int x4), (5, .int x5)] [] M (KK35 this x1 x2 x3 x4 x5 M)) (this : Nat) (x1 : Int32) (x2 : Int32) (x3 : Int32) (x4 : Int32) (x5 : Int32) (M : Mem) (hthis : K0 this = (0, 12)) : AW l E fX12_who (fun _ => rmN n 0 0) (PQr E 0 0 ct ex enI) ct ex 0 0 35 [(0, .ref (ad E this)), (1, .int x1), (2, .int x2), (3, .int x3), (4, .int x4), (5, .int x5)] [] M (zX12_who_B35 KK35 this x1 x2 x3 x4 x5 M) := by
  unfold zX12_who_B35
  refine AW.iload (pc := 35) dX12_who_35 5 rfl ?_
  refine AW.aload_n (pc := 37) dX12_who_37 rfl 0 rfl ?_
  refine AW.chk (fun g1 => ?_)
  refine AW.getR (pc := 38) dX12_who_38 flX12_71 hthis (kct hthis rfl hct) g1 ?_
  refine AW.iload_n (pc := 41) dX12_who_41 rfl 1 rfl ?_
  refine AW.chk (fun g2 => ?_)
  refine AW.iald (pc := 42) dX12_who_42 (k0e g2.1) (kct (k0e g2.1) rfl hct) g2.2 ?_
  refine AW.icmp_ge (pc := 43) 96 dX12_who_43 (by decide) (fun h3 => ?_) (fun h3 => ?_)
  · refine AW.iload (pc := 96) dX12_who_96 4 rfl ?_
    exact AW.iret (pc := 98) dX12_who_98 rfl (fun _ _ _ => rfl) (Nat.le_refl _) (Nat.le_refl _)
  · refine AW.aload_n (pc := 46) dX12_who_46 rfl 0 rfl ?_
    refine AW.iload_n (pc := 47) dX12_who_47 rfl 1 rfl ?_
    refine AW.iload (pc := 48) dX12_who_48 5 rfl ?_
    refine AW.cV2i (pc := 50) dX12_who_50 mlX12_419 mbX12_explained rfl hthis (kct hthis rfl hct) (fun _ => okR_N (by omega)) (kX12_explained l E (n - 1) (by omega) ct hct ex this x1 x5 M) (Nat.le_of_ble_eq_true rfl) (fun v4 M5 => ?_)
    refine AW.istore (pc := 53) [1, 2, 3, 4, 5, 6, 0] [(0, .ref (ad E this)), (1, .int x1), (2, .int x2), (3, .int x3), (4, .int x4), (5, .int x5), (6, .int v4)] dX12_who_53 (by decide) rfl ?_
    refine AW.iload (pc := 55) dX12_who_55 4 rfl ?_
    refine AW.iload_n (pc := 57) dX12_who_57 rfl 3 rfl ?_
    refine AW.if_ne (pc := 58) 72 dX12_who_58 (by decide) (fun h6 => ?_) (fun h6 => ?_)
    · refine AW.iload (pc := 61) dX12_who_61 6 rfl ?_
      refine AW.iconst (pc := 63) dX12_who_63 ci_1 ?_
      refine AW.iload_n (pc := 64) dX12_who_64 rfl 2 rfl ?_
      refine AW.ishl (pc := 65) dX12_who_65 ?_
      refine AW.icmp_ne (pc := 66) 86 dX12_who_66 (by decide) (fun h7 => ?_) (fun h7 => ?_)
      · refine AW.goto (pc := 69) 82 dX12_who_69 (by decide) ?_
        exact AW.sub [0, 1, 2, 3, 5] rfl (kX12_who_B82 l E n hn ct hct ex KK35 hKK35 this x1 x2 x3 x5 x4 M5 hthis)
      · exact AW.sub [0, 1, 2, 3, 5] rfl (kX12_who_B86 l E n hn ct hct ex KK35 hKK35 this x1 x2 x3 x5 x4 M5 hthis)
    · refine AW.iload (pc := 72) dX12_who_72 6 rfl ?_
      refine AW.iload_n (pc := 74) dX12_who_74 rfl 2 rfl ?_
      refine AW.ishr (pc := 75) dX12_who_75 ?_
      refine AW.iconst (pc := 76) dX12_who_76 ci_1 ?_
      refine AW.iand (pc := 77) dX12_who_77 ?_
      refine AW.iconst (pc := 78) dX12_who_78 ci_1 ?_
      refine AW.icmp_ne (pc := 79) 86 dX12_who_79 (by decide) (fun h8 => ?_) (fun h8 => ?_)
      · exact AW.sub [0, 1, 2, 3, 5] rfl (kX12_who_B82 l E n hn ct hct ex KK35 hKK35 this x1 x2 x3 x5 x4 M5 hthis)
      · exact AW.sub [0, 1, 2, 3, 5] rfl (kX12_who_B86 l E n hn ct hct ex KK35 hKK35 this x1 x2 x3 x5 x4 M5 hthis)
set_option maxRecDepth 20000 in
set_option maxHeartbeats 4000000 in
theorem kX12_who_L35 (l : Launch) (E : Ev) (n : Nat) (hn : 11 ≤ n) (ct : Nat) (hct : 111 ≤ ct) (ex : Bool) (k : Nat) : ∀ (this : Nat) (x1 : Int32) (x2 : Int32) (x3 : Int32) (x4 : Int32) (x5 : Int32) (M : Mem) (_ : K0 this = (0, 12)), AW l E fX12_who (fun _ => rmN n 0 0) (PQr E 0 0 ct ex enI) ct ex 0 0 35 [(0, .ref (ad E this)), (1, .int x1), (2, .int x2), (3, .int x3), (4, .int x4), (5, .int x5)] [] M (zX12_who_L35 k this x1 x2 x3 x4 x5 M) := by
  induction k with
  | zero => intro this x1 x2 x3 x4 x5 M _; exact AW.none
  | succ k ih =>
    intro this x1 x2 x3 x4 x5 M hthis
    exact kX12_who_B35 l E n hn ct hct ex (zX12_who_L35 k) ih this x1 x2 x3 x4 x5 M hthis
set_option maxRecDepth 20000 in
set_option maxHeartbeats 4000000 in
theorem kX12_who_B23 (l : Launch) (E : Ev) (n : Nat) (hn : 11 ≤ n) (ct : Nat) (hct : 111 ≤ ct) (ex : Bool) (this : Nat) (M : Mem) (hthis : K0 this = (0, 12)) : AW l E fX12_who (fun _ => rmN n 0 0) (PQr E 0 0 ct ex enI) ct ex 0 0 23 [(0, .ref (ad E this))] [] M (zX12_who_B23 this M) := by
  unfold zX12_who_B23
  refine AW.aload_n (pc := 23) dX12_who_23 rfl 0 rfl ?_
  refine AW.iconst (pc := 24) dX12_who_24 ci_1 ?_
  refine AW.cV1i (pc := 25) dX12_who_25 mlX12_289 mbX12_fail rfl hthis (kct hthis rfl hct) (fun _ => okR_N (by omega)) (kX12_fail l E (n - 1) (by omega) ct hct ex this 1 M) (Nat.le_of_ble_eq_true rfl) (fun v1 M2 => ?_)
  exact AW.iret (pc := 28) dX12_who_28 rfl (fun _ _ _ => rfl) (Nat.le_refl _) (Nat.le_refl _)
set_option maxRecDepth 20000 in
set_option maxHeartbeats 4000000 in
theorem kX12_who (l : Launch) (E : Ev) (n : Nat) (hn : 11 ≤ n) (ct : Nat) (hct : 111 ≤ ct) (ex : Bool) (this : Nat) (x1 : Int32) (x2 : Int32) (x3 : Int32) (M : Mem) : AM l E n ct ex yX12_who fX12_who enI [.ref (ad E this), .int x1, .int x2, .int x3] M (zX12_who this x1 x2 x3 M) := by
  unfold zX12_who
  refine AM.of (by decide +kernel) ⟨rfl, rfl, rfl⟩ (Nat.le_of_ble_eq_true rfl) ?_
  refine AW.chk (fun hthis => ?_)
  refine AW.aload_n (pc := 0) dX12_who_0 rfl 0 rfl ?_
  refine AW.iconst (pc := 1) dX12_who_1 ci_0 ?_
  refine AW.putI (pc := 2) dX12_who_2 flX12_159 hthis (kct hthis rfl hct) ?_
  refine AW.genM (fun M1 => ?_)
  refine AW.aload_n (pc := 5) dX12_who_5 rfl 0 rfl ?_
  refine AW.iload_n (pc := 6) dX12_who_6 rfl 1 rfl ?_
  refine AW.iload_n (pc := 7) dX12_who_7 rfl 2 rfl ?_
  refine AW.cV2i (pc := 8) dX12_who_8 mlX12_305 mbX12_isSort rfl hthis (kct hthis rfl hct) (fun _ => okR_N (by omega)) (kX12_isSort l E (n - 1) (by omega) ct hct ex this x1 x2 M1) (Nat.le_of_ble_eq_true rfl) (fun v2 M3 => ?_)
  refine AW.if_eq (pc := 11) 23 dX12_who_11 (by decide) (fun h4 => ?_) (fun h4 => ?_)
  · exact AW.sub [0] rfl (kX12_who_B23 l E n hn ct hct ex this M3 hthis)
  · refine AW.iload_n (pc := 14) dX12_who_14 rfl 3 rfl ?_
    refine AW.if_lt (pc := 15) 23 dX12_who_15 (by decide) (fun h5 => ?_) (fun h5 => ?_)
    · exact AW.sub [0] rfl (kX12_who_B23 l E n hn ct hct ex this M3 hthis)
    · refine AW.iload_n (pc := 18) dX12_who_18 rfl 3 rfl ?_
      refine AW.iconst (pc := 19) dX12_who_19 ci_1 ?_
      refine AW.icmp_le (pc := 20) 29 dX12_who_20 (by decide) (fun h6 => ?_) (fun h6 => ?_)
      · refine AW.iconst (pc := 29) dX12_who_29 ci_0 ?_
        refine AW.istore (pc := 30) [1, 2, 3, 4, 0] [(0, .ref (ad E this)), (1, .int x1), (2, .int x2), (3, .int x3), (4, .int 0)] dX12_who_30 (by decide) rfl ?_
        refine AW.iconst (pc := 32) dX12_who_32 ci_0 ?_
        refine AW.istore (pc := 33) [1, 2, 3, 4, 5, 0] [(0, .ref (ad E this)), (1, .int x1), (2, .int x2), (3, .int x3), (4, .int 0), (5, .int 0)] dX12_who_33 (by decide) rfl ?_
        exact kX12_who_L35 l E n hn ct hct ex FU this x1 x2 x3 0 0 M3 hthis
      · exact AW.sub [0] rfl (kX12_who_B23 l E n hn ct hct ex this M3 hthis)
-- GateBoxModel.strange(I)I
def zX12_strange_B47 (KK22 : Nat → Int32 → Int32 → Int32 → Mem → Option (Int32 × Mem)) (this : Nat) (x1 : Int32) (x3 : Int32) (s0 : Int32) (s1 : Int32) (M : Mem) : Option (Int32 × Mem) :=
  lt (s0 + s1) fun v1 =>
  KK22 this x1 v1 (x3 + 1) M
def zX12_strange_B22 (KK22 : Nat → Int32 → Int32 → Int32 → Mem → Option (Int32 × Mem)) (this : Nat) (x1 : Int32) (x2 : Int32) (x3 : Int32) (M : Mem) : Option (Int32 × Mem) :=
  if mR M this 13 ≠ 0 then
  if (K0 (mR M this 13)).1 = 1 ∧ inb x1 (K0 (mR M this 13)).2 = true then
  if (mI M (mR M this 13) (Int32.toNatClampNeg x1)) ≤ x3 then
    some (x2, M)
  else
    bnd (zX12_explained this x1 x3 M) fun v4 M5 =>
    if v4 = 0 then
      zX12_strange_B47 KK22 this x1 x3 x2 1 M5
    else
      zX12_strange_B47 KK22 this x1 x3 x2 0 M5
  else none
  else none
def zX12_strange_L22 : Nat → Nat → Int32 → Int32 → Int32 → Mem → Option (Int32 × Mem)
  | 0 => fun _ _ _ _ _ => none
  | k + 1 => zX12_strange_B22 (zX12_strange_L22 k)
def zX12_strange (this : Nat) (x1 : Int32) (M : Mem) : Option (Int32 × Mem) :=
  if K0 this = (0, 12) then
  lt (sI M this 2 0) fun M1 =>
  bnd (zX12_isGate x1 M1) fun v2 M3 =>
  if v2 = 0 then
    bnd (zX12_fail this 1 M3) fun v5 M6 =>
    some (v5, M6)
  else
    zX12_strange_L22 FU this x1 0 0 M3
  else none
set_option maxRecDepth 20000 in
set_option maxHeartbeats 4000000 in
theorem kX12_strange_B47 (l : Launch) (E : Ev) (n : Nat) (hn : 11 ≤ n) (ct : Nat) (hct : 111 ≤ ct) (ex : Bool) (KK22 : Nat → Int32 → Int32 → Int32 → Mem → Option (Int32 × Mem)) (hKK22 : ∀ (this : Nat) (x1 : Int32) (x2 : Int32) (x3 : Int32) (M : Mem) (_ : K0 this = (0, 12)), AW l E fX12_strange (fun _ => rmN n 0 0) (PQr E 0 0 ct ex enI) ct ex 0 0 22 [(0, .ref (ad E this)), (1, .int x1), (2, .int x2), (3, .int x3)] [] M (KK22 this x1 x2 x3 M)) (this : Nat) (x1 : Int32) (x3 : Int32) (s0 : Int32) (s1 : Int32) (M : Mem) (hthis : K0 this = (0, 12)) : AW l E fX12_strange (fun _ => rmN n 0 0) (PQr E 0 0 ct ex enI) ct ex 0 0 47 [(0, .ref (ad E this)), (1, .int x1), (3, .int x3)] [.int s1, .int s0] M (zX12_strange_B47 KK22 this x1 x3 s0 s1 M) := by
  unfold zX12_strange_B47
  refine AW.iadd (pc := 47) dX12_strange_47 ?_
  refine AW.genI (fun v1 => ?_)
  refine AW.istore_n (pc := 48) [1, 2, 0, 3] [(0, .ref (ad E this)), (1, .int x1), (2, .int v1), (3, .int x3)] dX12_strange_48 rfl (by decide) rfl ?_
  refine AW.iinc (pc := 49) (w := 3) [1, 2, 3, 0] [(0, .ref (ad E this)), (1, .int x1), (2, .int v1), (3, .int (x3 + 1))] dX12_strange_49 rfl (inc_1 _) (by decide) rfl ?_
  refine AW.goto (pc := 52) 22 dX12_strange_52 (by decide) ?_
  exact hKK22 this x1 v1 (x3 + 1) M hthis
set_option maxRecDepth 20000 in
set_option maxHeartbeats 4000000 in
theorem kX12_strange_B22 (l : Launch) (E : Ev) (n : Nat) (hn : 11 ≤ n) (ct : Nat) (hct : 111 ≤ ct) (ex : Bool) (KK22 : Nat → Int32 → Int32 → Int32 → Mem → Option (Int32 × Mem)) (hKK22 : ∀ (this : Nat) (x1 : Int32) (x2 : Int32) (x3 : Int32) (M : Mem) (_ : K0 this = (0, 12)), AW l E fX12_strange (fun _ => rmN n 0 0) (PQr E 0 0 ct ex enI) ct ex 0 0 22 [(0, .ref (ad E this)), (1, .int x1), (2, .int x2), (3, .int x3)] [] M (KK22 this x1 x2 x3 M)) (this : Nat) (x1 : Int32) (x2 : Int32) (x3 : Int32) (M : Mem) (hthis : K0 this = (0, 12)) : AW l E fX12_strange (fun _ => rmN n 0 0) (PQr E 0 0 ct ex enI) ct ex 0 0 22 [(0, .ref (ad E this)), (1, .int x1), (2, .int x2), (3, .int x3)] [] M (zX12_strange_B22 KK22 this x1 x2 x3 M) := by
  unfold zX12_strange_B22
  refine AW.iload_n (pc := 22) dX12_strange_22 rfl 3 rfl ?_
  refine AW.aload_n (pc := 23) dX12_strange_23 rfl 0 rfl ?_
  refine AW.chk (fun g1 => ?_)
  refine AW.getR (pc := 24) dX12_strange_24 flX12_71 hthis (kct hthis rfl hct) g1 ?_
  refine AW.iload_n (pc := 27) dX12_strange_27 rfl 1 rfl ?_
  refine AW.chk (fun g2 => ?_)
  refine AW.iald (pc := 28) dX12_strange_28 (k0e g2.1) (kct (k0e g2.1) rfl hct) g2.2 ?_
  refine AW.icmp_ge (pc := 29) 55 dX12_strange_29 (by decide) (fun h3 => ?_) (fun h3 => ?_)
  · refine AW.iload_n (pc := 55) dX12_strange_55 rfl 2 rfl ?_
    exact AW.iret (pc := 56) dX12_strange_56 rfl (fun _ _ _ => rfl) (Nat.le_refl _) (Nat.le_refl _)
  · refine AW.iload_n (pc := 32) dX12_strange_32 rfl 2 rfl ?_
    refine AW.aload_n (pc := 33) dX12_strange_33 rfl 0 rfl ?_
    refine AW.iload_n (pc := 34) dX12_strange_34 rfl 1 rfl ?_
    refine AW.iload_n (pc := 35) dX12_strange_35 rfl 3 rfl ?_
    refine AW.cV2i (pc := 36) dX12_strange_36 mlX12_419 mbX12_explained rfl hthis (kct hthis rfl hct) (fun _ => okR_N (by omega)) (kX12_explained l E (n - 1) (by omega) ct hct ex this x1 x3 M) (Nat.le_of_ble_eq_true rfl) (fun v4 M5 => ?_)
    refine AW.if_ne (pc := 39) 46 dX12_strange_39 (by decide) (fun h6 => ?_) (fun h6 => ?_)
    · refine AW.iconst (pc := 42) dX12_strange_42 ci_1 ?_
      refine AW.goto (pc := 43) 47 dX12_strange_43 (by decide) ?_
      exact AW.sub [0, 1, 3] rfl (kX12_strange_B47 l E n hn ct hct ex KK22 hKK22 this x1 x3 x2 1 M5 hthis)
    · refine AW.iconst (pc := 46) dX12_strange_46 ci_0 ?_
      exact AW.sub [0, 1, 3] rfl (kX12_strange_B47 l E n hn ct hct ex KK22 hKK22 this x1 x3 x2 0 M5 hthis)
set_option maxRecDepth 20000 in
set_option maxHeartbeats 4000000 in
theorem kX12_strange_L22 (l : Launch) (E : Ev) (n : Nat) (hn : 11 ≤ n) (ct : Nat) (hct : 111 ≤ ct) (ex : Bool) (k : Nat) : ∀ (this : Nat) (x1 : Int32) (x2 : Int32) (x3 : Int32) (M : Mem) (_ : K0 this = (0, 12)), AW l E fX12_strange (fun _ => rmN n 0 0) (PQr E 0 0 ct ex enI) ct ex 0 0 22 [(0, .ref (ad E this)), (1, .int x1), (2, .int x2), (3, .int x3)] [] M (zX12_strange_L22 k this x1 x2 x3 M) := by
  induction k with
  | zero => intro this x1 x2 x3 M _; exact AW.none
  | succ k ih =>
    intro this x1 x2 x3 M hthis
    exact kX12_strange_B22 l E n hn ct hct ex (zX12_strange_L22 k) ih this x1 x2 x3 M hthis
set_option maxRecDepth 20000 in
set_option maxHeartbeats 4000000 in
theorem kX12_strange (l : Launch) (E : Ev) (n : Nat) (hn : 11 ≤ n) (ct : Nat) (hct : 111 ≤ ct) (ex : Bool) (this : Nat) (x1 : Int32) (M : Mem) : AM l E n ct ex yX12_strange fX12_strange enI [.ref (ad E this), .int x1] M (zX12_strange this x1 M) := by
  unfold zX12_strange
  refine AM.of (by decide +kernel) ⟨rfl, rfl, rfl⟩ (Nat.le_of_ble_eq_true rfl) ?_
  refine AW.chk (fun hthis => ?_)
  refine AW.aload_n (pc := 0) dX12_strange_0 rfl 0 rfl ?_
  refine AW.iconst (pc := 1) dX12_strange_1 ci_0 ?_
  refine AW.putI (pc := 2) dX12_strange_2 flX12_159 hthis (kct hthis rfl hct) ?_
  refine AW.genM (fun M1 => ?_)
  refine AW.iload_n (pc := 5) dX12_strange_5 rfl 1 rfl ?_
  refine AW.cS1i (pc := 6) dX12_strange_6 mlX12_166 mbX12_isGate (fun _ => okR_N (by omega)) (kX12_isGate l E (n - 1) (by omega) ct hct ex x1 M1) (Nat.le_of_ble_eq_true rfl) (fun v2 M3 => ?_)
  refine AW.if_ne (pc := 9) 18 dX12_strange_9 (by decide) (fun h4 => ?_) (fun h4 => ?_)
  · refine AW.aload_n (pc := 12) dX12_strange_12 rfl 0 rfl ?_
    refine AW.iconst (pc := 13) dX12_strange_13 ci_1 ?_
    refine AW.cV1i (pc := 14) dX12_strange_14 mlX12_289 mbX12_fail rfl hthis (kct hthis rfl hct) (fun _ => okR_N (by omega)) (kX12_fail l E (n - 1) (by omega) ct hct ex this 1 M3) (Nat.le_of_ble_eq_true rfl) (fun v5 M6 => ?_)
    exact AW.iret (pc := 17) dX12_strange_17 rfl (fun _ _ _ => rfl) (Nat.le_refl _) (Nat.le_refl _)
  · refine AW.iconst (pc := 18) dX12_strange_18 ci_0 ?_
    refine AW.istore_n (pc := 19) [1, 2, 0] [(0, .ref (ad E this)), (1, .int x1), (2, .int 0)] dX12_strange_19 rfl (by decide) rfl ?_
    refine AW.iconst (pc := 20) dX12_strange_20 ci_0 ?_
    refine AW.istore_n (pc := 21) [1, 2, 3, 0] [(0, .ref (ad E this)), (1, .int x1), (2, .int 0), (3, .int 0)] dX12_strange_21 rfl (by decide) rfl ?_
    exact kX12_strange_L22 l E n hn ct hct ex FU this x1 0 0 M3 hthis
-- GateBoxModel.bitsOf(I)I
def zX12_bitsOf_B4 (KK4 : Int32 → Int32 → Int32 → Mem → Option (Int32 × Mem)) (x0 : Int32) (x1 : Int32) (x2 : Int32) (M : Mem) : Option (Int32 × Mem) :=
  if 8 ≤ x2 then
    some (x1, M)
  else
    lt (x1 + ((x0 >>> (x2 &&& 31)) &&& 1)) fun v2 =>
    KK4 x0 v2 (x2 + 1) M
def zX12_bitsOf_L4 : Nat → Int32 → Int32 → Int32 → Mem → Option (Int32 × Mem)
  | 0 => fun _ _ _ _ => none
  | k + 1 => zX12_bitsOf_B4 (zX12_bitsOf_L4 k)
def zX12_bitsOf (x0 : Int32) (M : Mem) : Option (Int32 × Mem) :=
  zX12_bitsOf_L4 FU x0 0 0 M
set_option maxRecDepth 20000 in
set_option maxHeartbeats 4000000 in
theorem kX12_bitsOf_B4 (l : Launch) (E : Ev) (n : Nat) (hn : 1 ≤ n) (ct : Nat) (hct : 111 ≤ ct) (ex : Bool) (KK4 : Int32 → Int32 → Int32 → Mem → Option (Int32 × Mem)) (hKK4 : ∀ (x0 : Int32) (x1 : Int32) (x2 : Int32) (M : Mem), AW l E fX12_bitsOf (fun _ => rmN n 0 0) (PQr E 0 0 ct ex enI) ct ex 0 0 4 [(0, .int x0), (1, .int x1), (2, .int x2)] [] M (KK4 x0 x1 x2 M)) (x0 : Int32) (x1 : Int32) (x2 : Int32) (M : Mem) : AW l E fX12_bitsOf (fun _ => rmN n 0 0) (PQr E 0 0 ct ex enI) ct ex 0 0 4 [(0, .int x0), (1, .int x1), (2, .int x2)] [] M (zX12_bitsOf_B4 KK4 x0 x1 x2 M) := by
  unfold zX12_bitsOf_B4
  refine AW.iload_n (pc := 4) dX12_bitsOf_4 rfl 2 rfl ?_
  refine AW.bipush (pc := 5) dX12_bitsOf_5 cb_8 ?_
  refine AW.icmp_ge (pc := 7) 24 dX12_bitsOf_7 (by decide) (fun h1 => ?_) (fun h1 => ?_)
  · refine AW.iload_n (pc := 24) dX12_bitsOf_24 rfl 1 rfl ?_
    exact AW.iret (pc := 25) dX12_bitsOf_25 rfl (fun _ _ _ => rfl) (Nat.le_refl _) (Nat.le_refl _)
  · refine AW.iload_n (pc := 10) dX12_bitsOf_10 rfl 1 rfl ?_
    refine AW.iload_n (pc := 11) dX12_bitsOf_11 rfl 0 rfl ?_
    refine AW.iload_n (pc := 12) dX12_bitsOf_12 rfl 2 rfl ?_
    refine AW.ishr (pc := 13) dX12_bitsOf_13 ?_
    refine AW.iconst (pc := 14) dX12_bitsOf_14 ci_1 ?_
    refine AW.iand (pc := 15) dX12_bitsOf_15 ?_
    refine AW.iadd (pc := 16) dX12_bitsOf_16 ?_
    refine AW.genI (fun v2 => ?_)
    refine AW.istore_n (pc := 17) [1, 0, 2] [(0, .int x0), (1, .int v2), (2, .int x2)] dX12_bitsOf_17 rfl (by decide) rfl ?_
    refine AW.iinc (pc := 18) (w := 2) [1, 2, 0] [(0, .int x0), (1, .int v2), (2, .int (x2 + 1))] dX12_bitsOf_18 rfl (inc_1 _) (by decide) rfl ?_
    refine AW.goto (pc := 21) 4 dX12_bitsOf_21 (by decide) ?_
    exact hKK4 x0 v2 (x2 + 1) M
set_option maxRecDepth 20000 in
set_option maxHeartbeats 4000000 in
theorem kX12_bitsOf_L4 (l : Launch) (E : Ev) (n : Nat) (hn : 1 ≤ n) (ct : Nat) (hct : 111 ≤ ct) (ex : Bool) (k : Nat) : ∀ (x0 : Int32) (x1 : Int32) (x2 : Int32) (M : Mem), AW l E fX12_bitsOf (fun _ => rmN n 0 0) (PQr E 0 0 ct ex enI) ct ex 0 0 4 [(0, .int x0), (1, .int x1), (2, .int x2)] [] M (zX12_bitsOf_L4 k x0 x1 x2 M) := by
  induction k with
  | zero => intro x0 x1 x2 M; exact AW.none
  | succ k ih =>
    intro x0 x1 x2 M
    exact kX12_bitsOf_B4 l E n hn ct hct ex (zX12_bitsOf_L4 k) ih x0 x1 x2 M
set_option maxRecDepth 20000 in
set_option maxHeartbeats 4000000 in
theorem kX12_bitsOf (l : Launch) (E : Ev) (n : Nat) (hn : 1 ≤ n) (ct : Nat) (hct : 111 ≤ ct) (ex : Bool) (x0 : Int32) (M : Mem) : AM l E n ct ex yX12_bitsOf fX12_bitsOf enI [.int x0] M (zX12_bitsOf x0 M) := by
  unfold zX12_bitsOf
  refine AM.of (by decide +kernel) ⟨rfl, rfl, rfl⟩ (Nat.le_of_ble_eq_true rfl) ?_
  refine AW.iconst (pc := 0) dX12_bitsOf_0 ci_0 ?_
  refine AW.istore_n (pc := 1) [1, 0] [(0, .int x0), (1, .int 0)] dX12_bitsOf_1 rfl (by decide) rfl ?_
  refine AW.iconst (pc := 2) dX12_bitsOf_2 ci_0 ?_
  refine AW.istore_n (pc := 3) [1, 2, 0] [(0, .int x0), (1, .int 0), (2, .int 0)] dX12_bitsOf_3 rfl (by decide) rfl ?_
  exact kX12_bitsOf_L4 l E n hn ct hct ex FU x0 0 0 M
-- GateBoxModel.explainsAll(II)Z
def zX12_explainsAll_B34 (KK2 : Nat → Int32 → Int32 → Int32 → Mem → Option (Int32 × Mem)) (this : Nat) (x1 : Int32) (x2 : Int32) (x3 : Int32) (M : Mem) : Option (Int32 × Mem) :=
  KK2 this x1 x2 (x3 + 1) M
def zX12_explainsAll_B2 (KK2 : Nat → Int32 → Int32 → Int32 → Mem → Option (Int32 × Mem)) (this : Nat) (x1 : Int32) (x2 : Int32) (x3 : Int32) (M : Mem) : Option (Int32 × Mem) :=
  if mR M this 13 ≠ 0 then
  if (K0 (mR M this 13)).1 = 1 ∧ inb x1 (K0 (mR M this 13)).2 = true then
  if (mI M (mR M this 13) (Int32.toNatClampNeg x1)) ≤ x3 then
    some (1, M)
  else
    if mR M this 46 ≠ 0 then
    if (K0 (mR M this 46)).1 = 1 ∧ inb x3 (K0 (mR M this 46)).2 = true then
    if (mI M (mR M this 46) (Int32.toNatClampNeg x3)) = 0 then
      zX12_explainsAll_B34 KK2 this x1 x2 x3 M
    else
      if inb x3 (K0 (mR M this 46)).2 = true then
      if ((mI M (mR M this 46) (Int32.toNatClampNeg x3)) &&& x2) = 0 then
        some (0, M)
      else
        zX12_explainsAll_B34 KK2 this x1 x2 x3 M
      else none
    else none
    else none
  else none
  else none
def zX12_explainsAll_L2 : Nat → Nat → Int32 → Int32 → Int32 → Mem → Option (Int32 × Mem)
  | 0 => fun _ _ _ _ _ => none
  | k + 1 => zX12_explainsAll_B2 (zX12_explainsAll_L2 k)
def zX12_explainsAll (this : Nat) (x1 : Int32) (x2 : Int32) (M : Mem) : Option (Int32 × Mem) :=
  if K0 this = (0, 12) then
  zX12_explainsAll_L2 FU this x1 x2 0 M
  else none
set_option maxRecDepth 20000 in
set_option maxHeartbeats 4000000 in
theorem kX12_explainsAll_B34 (l : Launch) (E : Ev) (n : Nat) (hn : 1 ≤ n) (ct : Nat) (hct : 111 ≤ ct) (ex : Bool) (KK2 : Nat → Int32 → Int32 → Int32 → Mem → Option (Int32 × Mem)) (hKK2 : ∀ (this : Nat) (x1 : Int32) (x2 : Int32) (x3 : Int32) (M : Mem) (_ : K0 this = (0, 12)), AW l E fX12_explainsAll (fun _ => rmN n 0 0) (PQr E 0 0 ct ex enI) ct ex 0 0 2 [(0, .ref (ad E this)), (1, .int x1), (2, .int x2), (3, .int x3)] [] M (KK2 this x1 x2 x3 M)) (this : Nat) (x1 : Int32) (x2 : Int32) (x3 : Int32) (M : Mem) (hthis : K0 this = (0, 12)) : AW l E fX12_explainsAll (fun _ => rmN n 0 0) (PQr E 0 0 ct ex enI) ct ex 0 0 34 [(0, .ref (ad E this)), (1, .int x1), (2, .int x2), (3, .int x3)] [] M (zX12_explainsAll_B34 KK2 this x1 x2 x3 M) := by
  unfold zX12_explainsAll_B34
  refine AW.iinc (pc := 34) (w := 3) [1, 2, 3, 0] [(0, .ref (ad E this)), (1, .int x1), (2, .int x2), (3, .int (x3 + 1))] dX12_explainsAll_34 rfl (inc_1 _) (by decide) rfl ?_
  refine AW.goto (pc := 37) 2 dX12_explainsAll_37 (by decide) ?_
  exact hKK2 this x1 x2 (x3 + 1) M hthis
set_option maxRecDepth 20000 in
set_option maxHeartbeats 4000000 in
theorem kX12_explainsAll_B2 (l : Launch) (E : Ev) (n : Nat) (hn : 1 ≤ n) (ct : Nat) (hct : 111 ≤ ct) (ex : Bool) (KK2 : Nat → Int32 → Int32 → Int32 → Mem → Option (Int32 × Mem)) (hKK2 : ∀ (this : Nat) (x1 : Int32) (x2 : Int32) (x3 : Int32) (M : Mem) (_ : K0 this = (0, 12)), AW l E fX12_explainsAll (fun _ => rmN n 0 0) (PQr E 0 0 ct ex enI) ct ex 0 0 2 [(0, .ref (ad E this)), (1, .int x1), (2, .int x2), (3, .int x3)] [] M (KK2 this x1 x2 x3 M)) (this : Nat) (x1 : Int32) (x2 : Int32) (x3 : Int32) (M : Mem) (hthis : K0 this = (0, 12)) : AW l E fX12_explainsAll (fun _ => rmN n 0 0) (PQr E 0 0 ct ex enI) ct ex 0 0 2 [(0, .ref (ad E this)), (1, .int x1), (2, .int x2), (3, .int x3)] [] M (zX12_explainsAll_B2 KK2 this x1 x2 x3 M) := by
  unfold zX12_explainsAll_B2
  refine AW.iload_n (pc := 2) dX12_explainsAll_2 rfl 3 rfl ?_
  refine AW.aload_n (pc := 3) dX12_explainsAll_3 rfl 0 rfl ?_
  refine AW.chk (fun g1 => ?_)
  refine AW.getR (pc := 4) dX12_explainsAll_4 flX12_71 hthis (kct hthis rfl hct) g1 ?_
  refine AW.iload_n (pc := 7) dX12_explainsAll_7 rfl 1 rfl ?_
  refine AW.chk (fun g2 => ?_)
  refine AW.iald (pc := 8) dX12_explainsAll_8 (k0e g2.1) (kct (k0e g2.1) rfl hct) g2.2 ?_
  refine AW.icmp_ge (pc := 9) 40 dX12_explainsAll_9 (by decide) (fun h3 => ?_) (fun h3 => ?_)
  · refine AW.iconst (pc := 40) dX12_explainsAll_40 ci_1 ?_
    exact AW.zret (pc := 41) dX12_explainsAll_41 rfl (Or.inr rfl) (fun _ _ _ => rfl) (Nat.le_refl _) (Nat.le_refl _)
  · refine AW.aload_n (pc := 12) dX12_explainsAll_12 rfl 0 rfl ?_
    refine AW.chk (fun g4 => ?_)
    refine AW.getR (pc := 13) dX12_explainsAll_13 flX12_125 hthis (kct hthis rfl hct) g4 ?_
    refine AW.iload_n (pc := 16) dX12_explainsAll_16 rfl 3 rfl ?_
    refine AW.chk (fun g5 => ?_)
    refine AW.iald (pc := 17) dX12_explainsAll_17 (k0e g5.1) (kct (k0e g5.1) rfl hct) g5.2 ?_
    refine AW.if_eq (pc := 18) 34 dX12_explainsAll_18 (by decide) (fun h6 => ?_) (fun h6 => ?_)
    · exact kX12_explainsAll_B34 l E n hn ct hct ex KK2 hKK2 this x1 x2 x3 M hthis
    · refine AW.aload_n (pc := 21) dX12_explainsAll_21 rfl 0 rfl ?_
      refine AW.getR (pc := 22) dX12_explainsAll_22 flX12_125 hthis (kct hthis rfl hct) g4 ?_
      refine AW.iload_n (pc := 25) dX12_explainsAll_25 rfl 3 rfl ?_
      refine AW.chk (fun g7 => ?_)
      refine AW.iald (pc := 26) dX12_explainsAll_26 (k0e g5.1) (kct (k0e g5.1) rfl hct) g7 ?_
      refine AW.iload_n (pc := 27) dX12_explainsAll_27 rfl 2 rfl ?_
      refine AW.iand (pc := 28) dX12_explainsAll_28 ?_
      refine AW.if_ne (pc := 29) 34 dX12_explainsAll_29 (by decide) (fun h8 => ?_) (fun h8 => ?_)
      · refine AW.iconst (pc := 32) dX12_explainsAll_32 ci_0 ?_
        exact AW.zret (pc := 33) dX12_explainsAll_33 rfl (Or.inl rfl) (fun _ _ _ => rfl) (Nat.le_refl _) (Nat.le_refl _)
      · exact kX12_explainsAll_B34 l E n hn ct hct ex KK2 hKK2 this x1 x2 x3 M hthis
set_option maxRecDepth 20000 in
set_option maxHeartbeats 4000000 in
theorem kX12_explainsAll_L2 (l : Launch) (E : Ev) (n : Nat) (hn : 1 ≤ n) (ct : Nat) (hct : 111 ≤ ct) (ex : Bool) (k : Nat) : ∀ (this : Nat) (x1 : Int32) (x2 : Int32) (x3 : Int32) (M : Mem) (_ : K0 this = (0, 12)), AW l E fX12_explainsAll (fun _ => rmN n 0 0) (PQr E 0 0 ct ex enI) ct ex 0 0 2 [(0, .ref (ad E this)), (1, .int x1), (2, .int x2), (3, .int x3)] [] M (zX12_explainsAll_L2 k this x1 x2 x3 M) := by
  induction k with
  | zero => intro this x1 x2 x3 M _; exact AW.none
  | succ k ih =>
    intro this x1 x2 x3 M hthis
    exact kX12_explainsAll_B2 l E n hn ct hct ex (zX12_explainsAll_L2 k) ih this x1 x2 x3 M hthis
set_option maxRecDepth 20000 in
set_option maxHeartbeats 4000000 in
theorem kX12_explainsAll (l : Launch) (E : Ev) (n : Nat) (hn : 1 ≤ n) (ct : Nat) (hct : 111 ≤ ct) (ex : Bool) (this : Nat) (x1 : Int32) (x2 : Int32) (M : Mem) : AM l E n ct ex yX12_explainsAll fX12_explainsAll enI [.ref (ad E this), .int x1, .int x2] M (zX12_explainsAll this x1 x2 M) := by
  unfold zX12_explainsAll
  refine AM.of (by decide +kernel) ⟨rfl, rfl, rfl⟩ (Nat.le_of_ble_eq_true rfl) ?_
  refine AW.chk (fun hthis => ?_)
  refine AW.iconst (pc := 0) dX12_explainsAll_0 ci_0 ?_
  refine AW.istore_n (pc := 1) [1, 2, 3, 0] [(0, .ref (ad E this)), (1, .int x1), (2, .int x2), (3, .int 0)] dX12_explainsAll_1 rfl (by decide) rfl ?_
  exact kX12_explainsAll_L2 l E n hn ct hct ex FU this x1 x2 0 M hthis
-- GateBoxModel.fewest(I)I
def zX12_fewest_B123 (KK61 : Nat → Int32 → Int32 → Int32 → Mem → Option (Int32 × Mem)) (this : Nat) (x1 : Int32) (x2 : Int32) (x3 : Int32) (M : Mem) : Option (Int32 × Mem) :=
  KK61 this x1 x2 (x3 + 1) M
def zX12_fewest_B105 (KK61 : Nat → Int32 → Int32 → Int32 → Mem → Option (Int32 × Mem)) (this : Nat) (x1 : Int32) (x2 : Int32) (x3 : Int32) (s0 : Int32) (M : Mem) : Option (Int32 × Mem) :=
  if s0 = 0 then
    zX12_fewest_B123 KK61 this x1 x2 x3 M
  else
    bnd (zX12_explainsAll this x1 x3 M) fun v2 M3 =>
    if v2 = 0 then
      zX12_fewest_B123 KK61 this x1 x2 x3 M3
    else
      zX12_fewest_B123 KK61 this x1 x3 x3 M3
def zX12_fewest_B104 (KK61 : Nat → Int32 → Int32 → Int32 → Mem → Option (Int32 × Mem)) (this : Nat) (x1 : Int32) (x2 : Int32) (x3 : Int32) (M : Mem) : Option (Int32 × Mem) :=
  zX12_fewest_B105 KK61 this x1 x2 x3 0 M
def zX12_fewest_B100 (KK61 : Nat → Int32 → Int32 → Int32 → Mem → Option (Int32 × Mem)) (this : Nat) (x1 : Int32) (x2 : Int32) (x3 : Int32) (M : Mem) : Option (Int32 × Mem) :=
  zX12_fewest_B105 KK61 this x1 x2 x3 1 M
def zX12_fewest_B61 (KK61 : Nat → Int32 → Int32 → Int32 → Mem → Option (Int32 × Mem)) (this : Nat) (x1 : Int32) (x2 : Int32) (x3 : Int32) (M : Mem) : Option (Int32 × Mem) :=
  if mR M this 3 ≠ 0 then
  if (K0 (mR M this 3)).1 = 1 ∧ inb x1 (K0 (mR M this 3)).2 = true then
  if (1 <<< ((mI M (mR M this 3) (Int32.toNatClampNeg x1)) &&& 31)) ≤ x3 then
    some (x2, M)
  else
    bnd (zX12_bitsOf x3 M) fun v4 M5 =>
    bnd (zX12_bitsOf x2 M5) fun v6 M7 =>
    if v4 < v6 then
      zX12_fewest_B100 KK61 this x1 x2 x3 M7
    else
      bnd (zX12_bitsOf x3 M7) fun v9 M10 =>
      bnd (zX12_bitsOf x2 M10) fun v11 M12 =>
      if v9 = v11 then
        if x2 ≤ x3 then
          zX12_fewest_B104 KK61 this x1 x2 x3 M12
        else
          zX12_fewest_B100 KK61 this x1 x2 x3 M12
      else
        zX12_fewest_B104 KK61 this x1 x2 x3 M12
  else none
  else none
def zX12_fewest_L61 : Nat → Nat → Int32 → Int32 → Int32 → Mem → Option (Int32 × Mem)
  | 0 => fun _ _ _ _ _ => none
  | k + 1 => zX12_fewest_B61 (zX12_fewest_L61 k)
def zX12_fewest_B20 (KK20 : Nat → Int32 → Int32 → Mem → Option (Int32 × Mem)) (this : Nat) (x1 : Int32) (x2 : Int32) (M : Mem) : Option (Int32 × Mem) :=
  if mR M this 13 ≠ 0 then
  if (K0 (mR M this 13)).1 = 1 ∧ inb x1 (K0 (mR M this 13)).2 = true then
  if (mI M (mR M this 13) (Int32.toNatClampNeg x1)) ≤ x2 then
    if mR M this 3 ≠ 0 then
    if (K0 (mR M this 3)).1 = 1 ∧ inb x1 (K0 (mR M this 3)).2 = true then
    lt ((1 <<< ((mI M (mR M this 3) (Int32.toNatClampNeg x1)) &&& 31)) - 1) fun v6 =>
    zX12_fewest_L61 FU this x1 v6 0 M
    else none
    else none
  else
    if mR M this 46 ≠ 0 then
    bnd (zX12_explained this x1 x2 M) fun v8 M9 =>
    if (K0 (mR M this 46)).1 = 1 ∧ inb x2 (K0 (mR M this 46)).2 = true then
    lt (sI M9 (mR M this 46) (Int32.toNatClampNeg x2) v8) fun M11 =>
    KK20 this x1 (x2 + 1) M11
    else none
    else none
  else none
  else none
def zX12_fewest_L20 : Nat → Nat → Int32 → Int32 → Mem → Option (Int32 × Mem)
  | 0 => fun _ _ _ _ => none
  | k + 1 => zX12_fewest_B20 (zX12_fewest_L20 k)
def zX12_fewest (this : Nat) (x1 : Int32) (M : Mem) : Option (Int32 × Mem) :=
  if K0 this = (0, 12) then
  lt (sI M this 2 0) fun M1 =>
  bnd (zX12_isGate x1 M1) fun v2 M3 =>
  if v2 = 0 then
    bnd (zX12_fail this 1 M3) fun v5 M6 =>
    some (v5, M6)
  else
    zX12_fewest_L20 FU this x1 0 M3
  else none
set_option maxRecDepth 20000 in
set_option maxHeartbeats 4000000 in
theorem kX12_fewest_B123 (l : Launch) (E : Ev) (n : Nat) (hn : 11 ≤ n) (ct : Nat) (hct : 111 ≤ ct) (ex : Bool) (KK61 : Nat → Int32 → Int32 → Int32 → Mem → Option (Int32 × Mem)) (hKK61 : ∀ (this : Nat) (x1 : Int32) (x2 : Int32) (x3 : Int32) (M : Mem) (_ : K0 this = (0, 12)), AW l E fX12_fewest (fun _ => rmN n 0 0) (PQr E 0 0 ct ex enI) ct ex 0 0 61 [(0, .ref (ad E this)), (1, .int x1), (2, .int x2), (3, .int x3)] [] M (KK61 this x1 x2 x3 M)) (this : Nat) (x1 : Int32) (x2 : Int32) (x3 : Int32) (M : Mem) (hthis : K0 this = (0, 12)) : AW l E fX12_fewest (fun _ => rmN n 0 0) (PQr E 0 0 ct ex enI) ct ex 0 0 123 [(0, .ref (ad E this)), (1, .int x1), (2, .int x2), (3, .int x3)] [] M (zX12_fewest_B123 KK61 this x1 x2 x3 M) := by
  unfold zX12_fewest_B123
  refine AW.iinc (pc := 123) (w := 3) [1, 2, 3, 0] [(0, .ref (ad E this)), (1, .int x1), (2, .int x2), (3, .int (x3 + 1))] dX12_fewest_123 rfl (inc_1 _) (by decide) rfl ?_
  refine AW.goto (pc := 126) 61 dX12_fewest_126 (by decide) ?_
  exact hKK61 this x1 x2 (x3 + 1) M hthis
set_option maxRecDepth 20000 in
set_option maxHeartbeats 4000000 in
theorem kX12_fewest_B105 (l : Launch) (E : Ev) (n : Nat) (hn : 11 ≤ n) (ct : Nat) (hct : 111 ≤ ct) (ex : Bool) (KK61 : Nat → Int32 → Int32 → Int32 → Mem → Option (Int32 × Mem)) (hKK61 : ∀ (this : Nat) (x1 : Int32) (x2 : Int32) (x3 : Int32) (M : Mem) (_ : K0 this = (0, 12)), AW l E fX12_fewest (fun _ => rmN n 0 0) (PQr E 0 0 ct ex enI) ct ex 0 0 61 [(0, .ref (ad E this)), (1, .int x1), (2, .int x2), (3, .int x3)] [] M (KK61 this x1 x2 x3 M)) (this : Nat) (x1 : Int32) (x2 : Int32) (x3 : Int32) (s0 : Int32) (M : Mem) (hthis : K0 this = (0, 12)) : AW l E fX12_fewest (fun _ => rmN n 0 0) (PQr E 0 0 ct ex enI) ct ex 0 0 105 [(0, .ref (ad E this)), (1, .int x1), (2, .int x2), (3, .int x3)] [.int s0] M (zX12_fewest_B105 KK61 this x1 x2 x3 s0 M) := by
  unfold zX12_fewest_B105
  refine AW.istore (pc := 105) [1, 2, 3, 4, 0] [(0, .ref (ad E this)), (1, .int x1), (2, .int x2), (3, .int x3), (4, .int s0)] dX12_fewest_105 (by decide) rfl ?_
  refine AW.iload (pc := 107) dX12_fewest_107 4 rfl ?_
  refine AW.if_eq (pc := 109) 123 dX12_fewest_109 (by decide) (fun h1 => ?_) (fun h1 => ?_)
  · exact AW.sub [0, 1, 2, 3] rfl (kX12_fewest_B123 l E n hn ct hct ex KK61 hKK61 this x1 x2 x3 M hthis)
  · refine AW.aload_n (pc := 112) dX12_fewest_112 rfl 0 rfl ?_
    refine AW.iload_n (pc := 113) dX12_fewest_113 rfl 1 rfl ?_
    refine AW.iload_n (pc := 114) dX12_fewest_114 rfl 3 rfl ?_
    refine AW.cV2i (pc := 115) dX12_fewest_115 mlX12_425 mbX12_explainsAll rfl hthis (kct hthis rfl hct) (fun _ => okR_N (by omega)) (kX12_explainsAll l E (n - 1) (by omega) ct hct ex this x1 x3 M) (Nat.le_of_ble_eq_true rfl) (fun v2 M3 => ?_)
    refine AW.if_eq (pc := 118) 123 dX12_fewest_118 (by decide) (fun h4 => ?_) (fun h4 => ?_)
    · exact AW.sub [0, 1, 2, 3] rfl (kX12_fewest_B123 l E n hn ct hct ex KK61 hKK61 this x1 x2 x3 M3 hthis)
    · refine AW.iload_n (pc := 121) dX12_fewest_121 rfl 3 rfl ?_
      refine AW.istore_n (pc := 122) [1, 2, 0, 3] [(0, .ref (ad E this)), (1, .int x1), (2, .int x3), (3, .int x3)] dX12_fewest_122 rfl (by decide) rfl ?_
      exact kX12_fewest_B123 l E n hn ct hct ex KK61 hKK61 this x1 x3 x3 M3 hthis
set_option maxRecDepth 20000 in
set_option maxHeartbeats 4000000 in
theorem kX12_fewest_B104 (l : Launch) (E : Ev) (n : Nat) (hn : 11 ≤ n) (ct : Nat) (hct : 111 ≤ ct) (ex : Bool) (KK61 : Nat → Int32 → Int32 → Int32 → Mem → Option (Int32 × Mem)) (hKK61 : ∀ (this : Nat) (x1 : Int32) (x2 : Int32) (x3 : Int32) (M : Mem) (_ : K0 this = (0, 12)), AW l E fX12_fewest (fun _ => rmN n 0 0) (PQr E 0 0 ct ex enI) ct ex 0 0 61 [(0, .ref (ad E this)), (1, .int x1), (2, .int x2), (3, .int x3)] [] M (KK61 this x1 x2 x3 M)) (this : Nat) (x1 : Int32) (x2 : Int32) (x3 : Int32) (M : Mem) (hthis : K0 this = (0, 12)) : AW l E fX12_fewest (fun _ => rmN n 0 0) (PQr E 0 0 ct ex enI) ct ex 0 0 104 [(0, .ref (ad E this)), (1, .int x1), (2, .int x2), (3, .int x3)] [] M (zX12_fewest_B104 KK61 this x1 x2 x3 M) := by
  unfold zX12_fewest_B104
  refine AW.iconst (pc := 104) dX12_fewest_104 ci_0 ?_
  exact kX12_fewest_B105 l E n hn ct hct ex KK61 hKK61 this x1 x2 x3 0 M hthis
set_option maxRecDepth 20000 in
set_option maxHeartbeats 4000000 in
theorem kX12_fewest_B100 (l : Launch) (E : Ev) (n : Nat) (hn : 11 ≤ n) (ct : Nat) (hct : 111 ≤ ct) (ex : Bool) (KK61 : Nat → Int32 → Int32 → Int32 → Mem → Option (Int32 × Mem)) (hKK61 : ∀ (this : Nat) (x1 : Int32) (x2 : Int32) (x3 : Int32) (M : Mem) (_ : K0 this = (0, 12)), AW l E fX12_fewest (fun _ => rmN n 0 0) (PQr E 0 0 ct ex enI) ct ex 0 0 61 [(0, .ref (ad E this)), (1, .int x1), (2, .int x2), (3, .int x3)] [] M (KK61 this x1 x2 x3 M)) (this : Nat) (x1 : Int32) (x2 : Int32) (x3 : Int32) (M : Mem) (hthis : K0 this = (0, 12)) : AW l E fX12_fewest (fun _ => rmN n 0 0) (PQr E 0 0 ct ex enI) ct ex 0 0 100 [(0, .ref (ad E this)), (1, .int x1), (2, .int x2), (3, .int x3)] [] M (zX12_fewest_B100 KK61 this x1 x2 x3 M) := by
  unfold zX12_fewest_B100
  refine AW.iconst (pc := 100) dX12_fewest_100 ci_1 ?_
  refine AW.goto (pc := 101) 105 dX12_fewest_101 (by decide) ?_
  exact kX12_fewest_B105 l E n hn ct hct ex KK61 hKK61 this x1 x2 x3 1 M hthis
set_option maxRecDepth 20000 in
set_option maxHeartbeats 4000000 in
theorem kX12_fewest_B61 (l : Launch) (E : Ev) (n : Nat) (hn : 11 ≤ n) (ct : Nat) (hct : 111 ≤ ct) (ex : Bool) (KK61 : Nat → Int32 → Int32 → Int32 → Mem → Option (Int32 × Mem)) (hKK61 : ∀ (this : Nat) (x1 : Int32) (x2 : Int32) (x3 : Int32) (M : Mem) (_ : K0 this = (0, 12)), AW l E fX12_fewest (fun _ => rmN n 0 0) (PQr E 0 0 ct ex enI) ct ex 0 0 61 [(0, .ref (ad E this)), (1, .int x1), (2, .int x2), (3, .int x3)] [] M (KK61 this x1 x2 x3 M)) (this : Nat) (x1 : Int32) (x2 : Int32) (x3 : Int32) (M : Mem) (hthis : K0 this = (0, 12)) : AW l E fX12_fewest (fun _ => rmN n 0 0) (PQr E 0 0 ct ex enI) ct ex 0 0 61 [(0, .ref (ad E this)), (1, .int x1), (2, .int x2), (3, .int x3)] [] M (zX12_fewest_B61 KK61 this x1 x2 x3 M) := by
  unfold zX12_fewest_B61
  refine AW.iload_n (pc := 61) dX12_fewest_61 rfl 3 rfl ?_
  refine AW.iconst (pc := 62) dX12_fewest_62 ci_1 ?_
  refine AW.aload_n (pc := 63) dX12_fewest_63 rfl 0 rfl ?_
  refine AW.chk (fun g1 => ?_)
  refine AW.getR (pc := 64) dX12_fewest_64 flX12_42 hthis (kct hthis rfl hct) g1 ?_
  refine AW.iload_n (pc := 67) dX12_fewest_67 rfl 1 rfl ?_
  refine AW.chk (fun g2 => ?_)
  refine AW.iald (pc := 68) dX12_fewest_68 (k0e g2.1) (kct (k0e g2.1) rfl hct) g2.2 ?_
  refine AW.ishl (pc := 69) dX12_fewest_69 ?_
  refine AW.icmp_ge (pc := 70) 129 dX12_fewest_70 (by decide) (fun h3 => ?_) (fun h3 => ?_)
  · refine AW.iload_n (pc := 129) dX12_fewest_129 rfl 2 rfl ?_
    exact AW.iret (pc := 130) dX12_fewest_130 rfl (fun _ _ _ => rfl) (Nat.le_refl _) (Nat.le_refl _)
  · refine AW.iload_n (pc := 73) dX12_fewest_73 rfl 3 rfl ?_
    refine AW.cS1i (pc := 74) dX12_fewest_74 mlX12_422 mbX12_bitsOf (fun _ => okR_N (by omega)) (kX12_bitsOf l E (n - 1) (by omega) ct hct ex x3 M) (Nat.le_of_ble_eq_true rfl) (fun v4 M5 => ?_)
    refine AW.iload_n (pc := 77) dX12_fewest_77 rfl 2 rfl ?_
    refine AW.cS1i (pc := 78) dX12_fewest_78 mlX12_422 mbX12_bitsOf (fun _ => okR_N (by omega)) (kX12_bitsOf l E (n - 1) (by omega) ct hct ex x2 M5) (Nat.le_of_ble_eq_true rfl) (fun v6 M7 => ?_)
    refine AW.icmp_lt (pc := 81) 100 dX12_fewest_81 (by decide) (fun h8 => ?_) (fun h8 => ?_)
    · exact kX12_fewest_B100 l E n hn ct hct ex KK61 hKK61 this x1 x2 x3 M7 hthis
    · refine AW.iload_n (pc := 84) dX12_fewest_84 rfl 3 rfl ?_
      refine AW.cS1i (pc := 85) dX12_fewest_85 mlX12_422 mbX12_bitsOf (fun _ => okR_N (by omega)) (kX12_bitsOf l E (n - 1) (by omega) ct hct ex x3 M7) (Nat.le_of_ble_eq_true rfl) (fun v9 M10 => ?_)
      refine AW.iload_n (pc := 88) dX12_fewest_88 rfl 2 rfl ?_
      refine AW.cS1i (pc := 89) dX12_fewest_89 mlX12_422 mbX12_bitsOf (fun _ => okR_N (by omega)) (kX12_bitsOf l E (n - 1) (by omega) ct hct ex x2 M10) (Nat.le_of_ble_eq_true rfl) (fun v11 M12 => ?_)
      refine AW.icmp_ne (pc := 92) 104 dX12_fewest_92 (by decide) (fun h13 => ?_) (fun h13 => ?_)
      · refine AW.iload_n (pc := 95) dX12_fewest_95 rfl 3 rfl ?_
        refine AW.iload_n (pc := 96) dX12_fewest_96 rfl 2 rfl ?_
        refine AW.icmp_ge (pc := 97) 104 dX12_fewest_97 (by decide) (fun h14 => ?_) (fun h14 => ?_)
        · exact kX12_fewest_B104 l E n hn ct hct ex KK61 hKK61 this x1 x2 x3 M12 hthis
        · exact kX12_fewest_B100 l E n hn ct hct ex KK61 hKK61 this x1 x2 x3 M12 hthis
      · exact kX12_fewest_B104 l E n hn ct hct ex KK61 hKK61 this x1 x2 x3 M12 hthis
set_option maxRecDepth 20000 in
set_option maxHeartbeats 4000000 in
theorem kX12_fewest_L61 (l : Launch) (E : Ev) (n : Nat) (hn : 11 ≤ n) (ct : Nat) (hct : 111 ≤ ct) (ex : Bool) (k : Nat) : ∀ (this : Nat) (x1 : Int32) (x2 : Int32) (x3 : Int32) (M : Mem) (_ : K0 this = (0, 12)), AW l E fX12_fewest (fun _ => rmN n 0 0) (PQr E 0 0 ct ex enI) ct ex 0 0 61 [(0, .ref (ad E this)), (1, .int x1), (2, .int x2), (3, .int x3)] [] M (zX12_fewest_L61 k this x1 x2 x3 M) := by
  induction k with
  | zero => intro this x1 x2 x3 M _; exact AW.none
  | succ k ih =>
    intro this x1 x2 x3 M hthis
    exact kX12_fewest_B61 l E n hn ct hct ex (zX12_fewest_L61 k) ih this x1 x2 x3 M hthis
set_option maxRecDepth 20000 in
set_option maxHeartbeats 4000000 in
theorem kX12_fewest_B20 (l : Launch) (E : Ev) (n : Nat) (hn : 11 ≤ n) (ct : Nat) (hct : 111 ≤ ct) (ex : Bool) (KK20 : Nat → Int32 → Int32 → Mem → Option (Int32 × Mem)) (hKK20 : ∀ (this : Nat) (x1 : Int32) (x2 : Int32) (M : Mem) (_ : K0 this = (0, 12)), AW l E fX12_fewest (fun _ => rmN n 0 0) (PQr E 0 0 ct ex enI) ct ex 0 0 20 [(0, .ref (ad E this)), (1, .int x1), (2, .int x2)] [] M (KK20 this x1 x2 M)) (this : Nat) (x1 : Int32) (x2 : Int32) (M : Mem) (hthis : K0 this = (0, 12)) : AW l E fX12_fewest (fun _ => rmN n 0 0) (PQr E 0 0 ct ex enI) ct ex 0 0 20 [(0, .ref (ad E this)), (1, .int x1), (2, .int x2)] [] M (zX12_fewest_B20 KK20 this x1 x2 M) := by
  unfold zX12_fewest_B20
  refine AW.iload_n (pc := 20) dX12_fewest_20 rfl 2 rfl ?_
  refine AW.aload_n (pc := 21) dX12_fewest_21 rfl 0 rfl ?_
  refine AW.chk (fun g1 => ?_)
  refine AW.getR (pc := 22) dX12_fewest_22 flX12_71 hthis (kct hthis rfl hct) g1 ?_
  refine AW.iload_n (pc := 25) dX12_fewest_25 rfl 1 rfl ?_
  refine AW.chk (fun g2 => ?_)
  refine AW.iald (pc := 26) dX12_fewest_26 (k0e g2.1) (kct (k0e g2.1) rfl hct) g2.2 ?_
  refine AW.icmp_ge (pc := 27) 48 dX12_fewest_27 (by decide) (fun h3 => ?_) (fun h3 => ?_)
  · refine AW.iconst (pc := 48) dX12_fewest_48 ci_1 ?_
    refine AW.aload_n (pc := 49) dX12_fewest_49 rfl 0 rfl ?_
    refine AW.chk (fun g4 => ?_)
    refine AW.getR (pc := 50) dX12_fewest_50 flX12_42 hthis (kct hthis rfl hct) g4 ?_
    refine AW.iload_n (pc := 53) dX12_fewest_53 rfl 1 rfl ?_
    refine AW.chk (fun g5 => ?_)
    refine AW.iald (pc := 54) dX12_fewest_54 (k0e g5.1) (kct (k0e g5.1) rfl hct) g5.2 ?_
    refine AW.ishl (pc := 55) dX12_fewest_55 ?_
    refine AW.iconst (pc := 56) dX12_fewest_56 ci_1 ?_
    refine AW.isub (pc := 57) dX12_fewest_57 ?_
    refine AW.genI (fun v6 => ?_)
    refine AW.istore_n (pc := 58) [1, 2, 0] [(0, .ref (ad E this)), (1, .int x1), (2, .int v6)] dX12_fewest_58 rfl (by decide) rfl ?_
    refine AW.iconst (pc := 59) dX12_fewest_59 ci_0 ?_
    refine AW.istore_n (pc := 60) [1, 2, 3, 0] [(0, .ref (ad E this)), (1, .int x1), (2, .int v6), (3, .int 0)] dX12_fewest_60 rfl (by decide) rfl ?_
    exact kX12_fewest_L61 l E n hn ct hct ex FU this x1 v6 0 M hthis
  · refine AW.aload_n (pc := 30) dX12_fewest_30 rfl 0 rfl ?_
    refine AW.chk (fun g7 => ?_)
    refine AW.getR (pc := 31) dX12_fewest_31 flX12_125 hthis (kct hthis rfl hct) g7 ?_
    refine AW.iload_n (pc := 34) dX12_fewest_34 rfl 2 rfl ?_
    refine AW.aload_n (pc := 35) dX12_fewest_35 rfl 0 rfl ?_
    refine AW.iload_n (pc := 36) dX12_fewest_36 rfl 1 rfl ?_
    refine AW.iload_n (pc := 37) dX12_fewest_37 rfl 2 rfl ?_
    refine AW.cV2i (pc := 38) dX12_fewest_38 mlX12_419 mbX12_explained rfl hthis (kct hthis rfl hct) (fun _ => okR_N (by omega)) (kX12_explained l E (n - 1) (by omega) ct hct ex this x1 x2 M) (Nat.le_of_ble_eq_true rfl) (fun v8 M9 => ?_)
    refine AW.chk (fun g10 => ?_)
    refine AW.iast (pc := 41) dX12_fewest_41 (k0e g10.1) (kct (k0e g10.1) rfl hct) g10.2 ?_
    refine AW.genM (fun M11 => ?_)
    refine AW.iinc (pc := 42) (w := 2) [1, 2, 0] [(0, .ref (ad E this)), (1, .int x1), (2, .int (x2 + 1))] dX12_fewest_42 rfl (inc_1 _) (by decide) rfl ?_
    refine AW.goto (pc := 45) 20 dX12_fewest_45 (by decide) ?_
    exact hKK20 this x1 (x2 + 1) M11 hthis
set_option maxRecDepth 20000 in
set_option maxHeartbeats 4000000 in
theorem kX12_fewest_L20 (l : Launch) (E : Ev) (n : Nat) (hn : 11 ≤ n) (ct : Nat) (hct : 111 ≤ ct) (ex : Bool) (k : Nat) : ∀ (this : Nat) (x1 : Int32) (x2 : Int32) (M : Mem) (_ : K0 this = (0, 12)), AW l E fX12_fewest (fun _ => rmN n 0 0) (PQr E 0 0 ct ex enI) ct ex 0 0 20 [(0, .ref (ad E this)), (1, .int x1), (2, .int x2)] [] M (zX12_fewest_L20 k this x1 x2 M) := by
  induction k with
  | zero => intro this x1 x2 M _; exact AW.none
  | succ k ih =>
    intro this x1 x2 M hthis
    exact kX12_fewest_B20 l E n hn ct hct ex (zX12_fewest_L20 k) ih this x1 x2 M hthis
set_option maxRecDepth 20000 in
set_option maxHeartbeats 4000000 in
theorem kX12_fewest (l : Launch) (E : Ev) (n : Nat) (hn : 11 ≤ n) (ct : Nat) (hct : 111 ≤ ct) (ex : Bool) (this : Nat) (x1 : Int32) (M : Mem) : AM l E n ct ex yX12_fewest fX12_fewest enI [.ref (ad E this), .int x1] M (zX12_fewest this x1 M) := by
  unfold zX12_fewest
  refine AM.of (by decide +kernel) ⟨rfl, rfl, rfl⟩ (Nat.le_of_ble_eq_true rfl) ?_
  refine AW.chk (fun hthis => ?_)
  refine AW.aload_n (pc := 0) dX12_fewest_0 rfl 0 rfl ?_
  refine AW.iconst (pc := 1) dX12_fewest_1 ci_0 ?_
  refine AW.putI (pc := 2) dX12_fewest_2 flX12_159 hthis (kct hthis rfl hct) ?_
  refine AW.genM (fun M1 => ?_)
  refine AW.iload_n (pc := 5) dX12_fewest_5 rfl 1 rfl ?_
  refine AW.cS1i (pc := 6) dX12_fewest_6 mlX12_166 mbX12_isGate (fun _ => okR_N (by omega)) (kX12_isGate l E (n - 1) (by omega) ct hct ex x1 M1) (Nat.le_of_ble_eq_true rfl) (fun v2 M3 => ?_)
  refine AW.if_ne (pc := 9) 18 dX12_fewest_9 (by decide) (fun h4 => ?_) (fun h4 => ?_)
  · refine AW.aload_n (pc := 12) dX12_fewest_12 rfl 0 rfl ?_
    refine AW.iconst (pc := 13) dX12_fewest_13 ci_1 ?_
    refine AW.cV1i (pc := 14) dX12_fewest_14 mlX12_289 mbX12_fail rfl hthis (kct hthis rfl hct) (fun _ => okR_N (by omega)) (kX12_fail l E (n - 1) (by omega) ct hct ex this 1 M3) (Nat.le_of_ble_eq_true rfl) (fun v5 M6 => ?_)
    exact AW.iret (pc := 17) dX12_fewest_17 rfl (fun _ _ _ => rfl) (Nat.le_refl _) (Nat.le_refl _)
  · refine AW.iconst (pc := 18) dX12_fewest_18 ci_0 ?_
    refine AW.istore_n (pc := 19) [1, 2, 0] [(0, .ref (ad E this)), (1, .int x1), (2, .int 0)] dX12_fewest_19 rfl (by decide) rfl ?_
    exact kX12_fewest_L20 l E n hn ct hct ex FU this x1 0 M3 hthis
-- GateBoxModel.guessAt(III)I
def zX12_guessAt (this : Nat) (x1 : Int32) (x2 : Int32) (x3 : Int32) (M : Mem) : Option (Int32 × Mem) :=
  if K0 this = (0, 12) then
  some ((((4 * x1) + x2) * 8) + x3, M)
  else none
set_option maxRecDepth 20000 in
set_option maxHeartbeats 4000000 in
theorem kX12_guessAt (l : Launch) (E : Ev) (n : Nat) (hn : 1 ≤ n) (ct : Nat) (hct : 111 ≤ ct) (ex : Bool) (this : Nat) (x1 : Int32) (x2 : Int32) (x3 : Int32) (M : Mem) : AM l E n ct ex yX12_guessAt fX12_guessAt enI [.ref (ad E this), .int x1, .int x2, .int x3] M (zX12_guessAt this x1 x2 x3 M) := by
  unfold zX12_guessAt
  refine AM.of (by decide +kernel) ⟨rfl, rfl, rfl⟩ (Nat.le_of_ble_eq_true rfl) ?_
  refine AW.chk (fun hthis => ?_)
  refine AW.iconst (pc := 0) dX12_guessAt_0 ci_4 ?_
  refine AW.iload_n (pc := 1) dX12_guessAt_1 rfl 1 rfl ?_
  refine AW.imul (pc := 2) dX12_guessAt_2 ?_
  refine AW.iload_n (pc := 3) dX12_guessAt_3 rfl 2 rfl ?_
  refine AW.iadd (pc := 4) dX12_guessAt_4 ?_
  refine AW.bipush (pc := 5) dX12_guessAt_5 cb_8 ?_
  refine AW.imul (pc := 7) dX12_guessAt_7 ?_
  refine AW.iload_n (pc := 8) dX12_guessAt_8 rfl 3 rfl ?_
  refine AW.iadd (pc := 9) dX12_guessAt_9 ?_
  exact AW.iret (pc := 10) dX12_guessAt_10 rfl (fun _ _ _ => rfl) (Nat.le_refl _) (Nat.le_refl _)
-- GateBoxModel.guessOdds(III)I
def zX12_guessOdds_B6 (KK6 : Nat → Int32 → Int32 → Int32 → Int32 → Int32 → Mem → Option (Int32 × Mem)) (this : Nat) (x1 : Int32) (x2 : Int32) (x3 : Int32) (x4 : Int32) (x5 : Int32) (M : Mem) : Option (Int32 × Mem) :=
  if mR M this 3 ≠ 0 then
  if (K0 (mR M this 3)).1 = 1 ∧ inb x1 (K0 (mR M this 3)).2 = true then
  if (mI M (mR M this 3) (Int32.toNatClampNeg x1)) ≤ x5 then
    some (x4, M)
  else
    if mR M this 17 ≠ 0 then
    bnd (zX12_guessAt this x1 x2 x5 M) fun v5 M6 =>
    if (K0 (mR M this 17)).1 = 1 ∧ inb v5 (K0 (mR M this 17)).2 = true then
    lt (x4 + (((x3 >>> (x5 &&& 31)) &&& 1) * (mI M6 (mR M this 17) (Int32.toNatClampNeg v5)))) fun v8 =>
    KK6 this x1 x2 x3 v8 (x5 + 1) M6
    else none
    else none
  else none
  else none
def zX12_guessOdds_L6 : Nat → Nat → Int32 → Int32 → Int32 → Int32 → Int32 → Mem → Option (Int32 × Mem)
  | 0 => fun _ _ _ _ _ _ _ => none
  | k + 1 => zX12_guessOdds_B6 (zX12_guessOdds_L6 k)
def zX12_guessOdds (this : Nat) (x1 : Int32) (x2 : Int32) (x3 : Int32) (M : Mem) : Option (Int32 × Mem) :=
  if K0 this = (0, 12) then
  zX12_guessOdds_L6 FU this x1 x2 x3 0 0 M
  else none
set_option maxRecDepth 20000 in
set_option maxHeartbeats 4000000 in
theorem kX12_guessOdds_B6 (l : Launch) (E : Ev) (n : Nat) (hn : 2 ≤ n) (ct : Nat) (hct : 111 ≤ ct) (ex : Bool) (KK6 : Nat → Int32 → Int32 → Int32 → Int32 → Int32 → Mem → Option (Int32 × Mem)) (hKK6 : ∀ (this : Nat) (x1 : Int32) (x2 : Int32) (x3 : Int32) (x4 : Int32) (x5 : Int32) (M : Mem) (_ : K0 this = (0, 12)), AW l E fX12_guessOdds (fun _ => rmN n 0 0) (PQr E 0 0 ct ex enI) ct ex 0 0 6 [(0, .ref (ad E this)), (1, .int x1), (2, .int x2), (3, .int x3), (4, .int x4), (5, .int x5)] [] M (KK6 this x1 x2 x3 x4 x5 M)) (this : Nat) (x1 : Int32) (x2 : Int32) (x3 : Int32) (x4 : Int32) (x5 : Int32) (M : Mem) (hthis : K0 this = (0, 12)) : AW l E fX12_guessOdds (fun _ => rmN n 0 0) (PQr E 0 0 ct ex enI) ct ex 0 0 6 [(0, .ref (ad E this)), (1, .int x1), (2, .int x2), (3, .int x3), (4, .int x4), (5, .int x5)] [] M (zX12_guessOdds_B6 KK6 this x1 x2 x3 x4 x5 M) := by
  unfold zX12_guessOdds_B6
  refine AW.iload (pc := 6) dX12_guessOdds_6 5 rfl ?_
  refine AW.aload_n (pc := 8) dX12_guessOdds_8 rfl 0 rfl ?_
  refine AW.chk (fun g1 => ?_)
  refine AW.getR (pc := 9) dX12_guessOdds_9 flX12_42 hthis (kct hthis rfl hct) g1 ?_
  refine AW.iload_n (pc := 12) dX12_guessOdds_12 rfl 1 rfl ?_
  refine AW.chk (fun g2 => ?_)
  refine AW.iald (pc := 13) dX12_guessOdds_13 (k0e g2.1) (kct (k0e g2.1) rfl hct) g2.2 ?_
  refine AW.icmp_ge (pc := 14) 48 dX12_guessOdds_14 (by decide) (fun h3 => ?_) (fun h3 => ?_)
  · refine AW.iload (pc := 48) dX12_guessOdds_48 4 rfl ?_
    exact AW.iret (pc := 50) dX12_guessOdds_50 rfl (fun _ _ _ => rfl) (Nat.le_refl _) (Nat.le_refl _)
  · refine AW.iload (pc := 17) dX12_guessOdds_17 4 rfl ?_
    refine AW.iload_n (pc := 19) dX12_guessOdds_19 rfl 3 rfl ?_
    refine AW.iload (pc := 20) dX12_guessOdds_20 5 rfl ?_
    refine AW.ishr (pc := 22) dX12_guessOdds_22 ?_
    refine AW.iconst (pc := 23) dX12_guessOdds_23 ci_1 ?_
    refine AW.iand (pc := 24) dX12_guessOdds_24 ?_
    refine AW.aload_n (pc := 25) dX12_guessOdds_25 rfl 0 rfl ?_
    refine AW.chk (fun g4 => ?_)
    refine AW.getR (pc := 26) dX12_guessOdds_26 flX12_83 hthis (kct hthis rfl hct) g4 ?_
    refine AW.aload_n (pc := 29) dX12_guessOdds_29 rfl 0 rfl ?_
    refine AW.iload_n (pc := 30) dX12_guessOdds_30 rfl 1 rfl ?_
    refine AW.iload_n (pc := 31) dX12_guessOdds_31 rfl 2 rfl ?_
    refine AW.iload (pc := 32) dX12_guessOdds_32 5 rfl ?_
    refine AW.cV3i (pc := 34) dX12_guessOdds_34 mlX12_428 mbX12_guessAt rfl hthis (kct hthis rfl hct) (fun _ => okR_N (by omega)) (kX12_guessAt l E (n - 1) (by omega) ct hct ex this x1 x2 x5 M) (Nat.le_of_ble_eq_true rfl) (fun v5 M6 => ?_)
    refine AW.chk (fun g7 => ?_)
    refine AW.iald (pc := 37) dX12_guessOdds_37 (k0e g7.1) (kct (k0e g7.1) rfl hct) g7.2 ?_
    refine AW.imul (pc := 38) dX12_guessOdds_38 ?_
    refine AW.iadd (pc := 39) dX12_guessOdds_39 ?_
    refine AW.genI (fun v8 => ?_)
    refine AW.istore (pc := 40) [1, 2, 3, 4, 0, 5] [(0, .ref (ad E this)), (1, .int x1), (2, .int x2), (3, .int x3), (4, .int v8), (5, .int x5)] dX12_guessOdds_40 (by decide) rfl ?_
    refine AW.iinc (pc := 42) (w := 5) [1, 2, 3, 4, 5, 0] [(0, .ref (ad E this)), (1, .int x1), (2, .int x2), (3, .int x3), (4, .int v8), (5, .int (x5 + 1))] dX12_guessOdds_42 rfl (inc_1 _) (by decide) rfl ?_
    refine AW.goto (pc := 45) 6 dX12_guessOdds_45 (by decide) ?_
    exact hKK6 this x1 x2 x3 v8 (x5 + 1) M6 hthis
set_option maxRecDepth 20000 in
set_option maxHeartbeats 4000000 in
theorem kX12_guessOdds_L6 (l : Launch) (E : Ev) (n : Nat) (hn : 2 ≤ n) (ct : Nat) (hct : 111 ≤ ct) (ex : Bool) (k : Nat) : ∀ (this : Nat) (x1 : Int32) (x2 : Int32) (x3 : Int32) (x4 : Int32) (x5 : Int32) (M : Mem) (_ : K0 this = (0, 12)), AW l E fX12_guessOdds (fun _ => rmN n 0 0) (PQr E 0 0 ct ex enI) ct ex 0 0 6 [(0, .ref (ad E this)), (1, .int x1), (2, .int x2), (3, .int x3), (4, .int x4), (5, .int x5)] [] M (zX12_guessOdds_L6 k this x1 x2 x3 x4 x5 M) := by
  induction k with
  | zero => intro this x1 x2 x3 x4 x5 M _; exact AW.none
  | succ k ih =>
    intro this x1 x2 x3 x4 x5 M hthis
    exact kX12_guessOdds_B6 l E n hn ct hct ex (zX12_guessOdds_L6 k) ih this x1 x2 x3 x4 x5 M hthis
set_option maxRecDepth 20000 in
set_option maxHeartbeats 4000000 in
theorem kX12_guessOdds (l : Launch) (E : Ev) (n : Nat) (hn : 2 ≤ n) (ct : Nat) (hct : 111 ≤ ct) (ex : Bool) (this : Nat) (x1 : Int32) (x2 : Int32) (x3 : Int32) (M : Mem) : AM l E n ct ex yX12_guessOdds fX12_guessOdds enI [.ref (ad E this), .int x1, .int x2, .int x3] M (zX12_guessOdds this x1 x2 x3 M) := by
  unfold zX12_guessOdds
  refine AM.of (by decide +kernel) ⟨rfl, rfl, rfl⟩ (Nat.le_of_ble_eq_true rfl) ?_
  refine AW.chk (fun hthis => ?_)
  refine AW.iconst (pc := 0) dX12_guessOdds_0 ci_0 ?_
  refine AW.istore (pc := 1) [1, 2, 3, 4, 0] [(0, .ref (ad E this)), (1, .int x1), (2, .int x2), (3, .int x3), (4, .int 0)] dX12_guessOdds_1 (by decide) rfl ?_
  refine AW.iconst (pc := 3) dX12_guessOdds_3 ci_0 ?_
  refine AW.istore (pc := 4) [1, 2, 3, 4, 5, 0] [(0, .ref (ad E this)), (1, .int x1), (2, .int x2), (3, .int x3), (4, .int 0), (5, .int 0)] dX12_guessOdds_4 (by decide) rfl ?_
  exact kX12_guessOdds_L6 l E n hn ct hct ex FU this x1 x2 x3 0 0 M hthis
-- GateBoxModel.guess(IIII)Z
def zX12_guess_B23 (this : Nat) (M : Mem) : Option (Int32 × Mem) :=
  lt (sI M this 2 1) fun M1 =>
  some (0, M1)
def zX12_guess (this : Nat) (x1 : Int32) (x2 : Int32) (x3 : Int32) (x4 : Int32) (M : Mem) : Option (Int32 × Mem) :=
  if K0 this = (0, 12) then
  lt (sI M this 2 0) fun M1 =>
  bnd (zX12_isSort this x1 x3 M1) fun v2 M3 =>
  if v2 = 0 then
    zX12_guess_B23 this M3
  else
    bnd (zX12_isIn x2 0 3 M3) fun v5 M6 =>
    if v5 = 0 then
      zX12_guess_B23 this M6
    else
      bnd (zX12_isIn x4 0 99 M6) fun v8 M9 =>
      if v8 = 0 then
        if mR M9 this 18 ≠ 0 then
        if (K0 (mR M9 this 18)).1 = 1 ∧ inb 2 (K0 (mR M9 this 18)).2 = true then
        if inb 2 (K0 (mR M9 this 18)).2 = true then
        lt (sI M9 (mR M9 this 18) (Int32.toNatClampNeg 2) ((mI M9 (mR M9 this 18) (Int32.toNatClampNeg 2)) + 1)) fun M14 =>
        some (0, M14)
        else none
        else none
        else none
      else
        if mR M9 this 17 ≠ 0 then
        bnd (zX12_guessAt this x1 x2 x3 M9) fun v16 M17 =>
        if (K0 (mR M9 this 17)).1 = 1 ∧ inb v16 (K0 (mR M9 this 17)).2 = true then
        lt (sI M17 (mR M9 this 17) (Int32.toNatClampNeg v16) x4) fun M19 =>
        some (1, M19)
        else none
        else none
  else none
set_option maxRecDepth 20000 in
set_option maxHeartbeats 4000000 in
theorem kX12_guess_B23 (l : Launch) (E : Ev) (n : Nat) (hn : 4 ≤ n) (ct : Nat) (hct : 111 ≤ ct) (ex : Bool) (this : Nat) (M : Mem) (hthis : K0 this = (0, 12)) : AW l E fX12_guess (fun _ => rmN n 0 0) (PQr E 0 0 ct ex enI) ct ex 0 0 23 [(0, .ref (ad E this))] [] M (zX12_guess_B23 this M) := by
  unfold zX12_guess_B23
  refine AW.aload_n (pc := 23) dX12_guess_23 rfl 0 rfl ?_
  refine AW.iconst (pc := 24) dX12_guess_24 ci_1 ?_
  refine AW.putI (pc := 25) dX12_guess_25 flX12_159 hthis (kct hthis rfl hct) ?_
  refine AW.genM (fun M1 => ?_)
  refine AW.iconst (pc := 28) dX12_guess_28 ci_0 ?_
  exact AW.zret (pc := 29) dX12_guess_29 rfl (Or.inl rfl) (fun _ _ _ => rfl) (Nat.le_refl _) (Nat.le_refl _)
set_option maxRecDepth 20000 in
set_option maxHeartbeats 4000000 in
theorem kX12_guess (l : Launch) (E : Ev) (n : Nat) (hn : 4 ≤ n) (ct : Nat) (hct : 111 ≤ ct) (ex : Bool) (this : Nat) (x1 : Int32) (x2 : Int32) (x3 : Int32) (x4 : Int32) (M : Mem) : AM l E n ct ex yX12_guess fX12_guess enI [.ref (ad E this), .int x1, .int x2, .int x3, .int x4] M (zX12_guess this x1 x2 x3 x4 M) := by
  unfold zX12_guess
  refine AM.of (by decide +kernel) ⟨rfl, rfl, rfl⟩ (Nat.le_of_ble_eq_true rfl) ?_
  refine AW.chk (fun hthis => ?_)
  refine AW.aload_n (pc := 0) dX12_guess_0 rfl 0 rfl ?_
  refine AW.iconst (pc := 1) dX12_guess_1 ci_0 ?_
  refine AW.putI (pc := 2) dX12_guess_2 flX12_159 hthis (kct hthis rfl hct) ?_
  refine AW.genM (fun M1 => ?_)
  refine AW.aload_n (pc := 5) dX12_guess_5 rfl 0 rfl ?_
  refine AW.iload_n (pc := 6) dX12_guess_6 rfl 1 rfl ?_
  refine AW.iload_n (pc := 7) dX12_guess_7 rfl 3 rfl ?_
  refine AW.cV2i (pc := 8) dX12_guess_8 mlX12_305 mbX12_isSort rfl hthis (kct hthis rfl hct) (fun _ => okR_N (by omega)) (kX12_isSort l E (n - 1) (by omega) ct hct ex this x1 x3 M1) (Nat.le_of_ble_eq_true rfl) (fun v2 M3 => ?_)
  refine AW.if_eq (pc := 11) 23 dX12_guess_11 (by decide) (fun h4 => ?_) (fun h4 => ?_)
  · exact AW.sub [0] rfl (kX12_guess_B23 l E n hn ct hct ex this M3 hthis)
  · refine AW.iload_n (pc := 14) dX12_guess_14 rfl 2 rfl ?_
    refine AW.iconst (pc := 15) dX12_guess_15 ci_0 ?_
    refine AW.iconst (pc := 16) dX12_guess_16 ci_3 ?_
    refine AW.cS3i (pc := 17) dX12_guess_17 mlX12_162 mbX12_isIn (fun _ => okR_N (by omega)) (kX12_isIn l E (n - 1) (by omega) ct hct ex x2 0 3 M3) (Nat.le_of_ble_eq_true rfl) (fun v5 M6 => ?_)
    refine AW.if_ne (pc := 20) 30 dX12_guess_20 (by decide) (fun h7 => ?_) (fun h7 => ?_)
    · exact AW.sub [0] rfl (kX12_guess_B23 l E n hn ct hct ex this M6 hthis)
    · refine AW.iload (pc := 30) dX12_guess_30 4 rfl ?_
      refine AW.iconst (pc := 32) dX12_guess_32 ci_0 ?_
      refine AW.bipush (pc := 33) dX12_guess_33 cb_99 ?_
      refine AW.cS3i (pc := 35) dX12_guess_35 mlX12_162 mbX12_isIn (fun _ => okR_N (by omega)) (kX12_isIn l E (n - 1) (by omega) ct hct ex x4 0 99 M6) (Nat.le_of_ble_eq_true rfl) (fun v8 M9 => ?_)
      refine AW.if_ne (pc := 38) 53 dX12_guess_38 (by decide) (fun h10 => ?_) (fun h10 => ?_)
      · refine AW.aload_n (pc := 41) dX12_guess_41 rfl 0 rfl ?_
        refine AW.chk (fun g11 => ?_)
        refine AW.getR (pc := 42) dX12_guess_42 flX12_86 hthis (kct hthis rfl hct) g11 ?_
        refine AW.iconst (pc := 45) dX12_guess_45 ci_2 ?_
        refine AW.dup2 (pc := 46) dX12_guess_46 rfl rfl ?_
        refine AW.chk (fun g12 => ?_)
        refine AW.iald (pc := 47) dX12_guess_47 (k0e g12.1) (kct (k0e g12.1) rfl hct) g12.2 ?_
        refine AW.iconst (pc := 48) dX12_guess_48 ci_1 ?_
        refine AW.iadd (pc := 49) dX12_guess_49 ?_
        refine AW.chk (fun g13 => ?_)
        refine AW.iast (pc := 50) dX12_guess_50 (k0e g12.1) (kct (k0e g12.1) rfl hct) g13 ?_
        refine AW.genM (fun M14 => ?_)
        refine AW.iconst (pc := 51) dX12_guess_51 ci_0 ?_
        exact AW.zret (pc := 52) dX12_guess_52 rfl (Or.inl rfl) (fun _ _ _ => rfl) (Nat.le_refl _) (Nat.le_refl _)
      · refine AW.aload_n (pc := 53) dX12_guess_53 rfl 0 rfl ?_
        refine AW.chk (fun g15 => ?_)
        refine AW.getR (pc := 54) dX12_guess_54 flX12_83 hthis (kct hthis rfl hct) g15 ?_
        refine AW.aload_n (pc := 57) dX12_guess_57 rfl 0 rfl ?_
        refine AW.iload_n (pc := 58) dX12_guess_58 rfl 1 rfl ?_
        refine AW.iload_n (pc := 59) dX12_guess_59 rfl 2 rfl ?_
        refine AW.iload_n (pc := 60) dX12_guess_60 rfl 3 rfl ?_
        refine AW.cV3i (pc := 61) dX12_guess_61 mlX12_428 mbX12_guessAt rfl hthis (kct hthis rfl hct) (fun _ => okR_N (by omega)) (kX12_guessAt l E (n - 1) (by omega) ct hct ex this x1 x2 x3 M9) (Nat.le_of_ble_eq_true rfl) (fun v16 M17 => ?_)
        refine AW.iload (pc := 64) dX12_guess_64 4 rfl ?_
        refine AW.chk (fun g18 => ?_)
        refine AW.iast (pc := 66) dX12_guess_66 (k0e g18.1) (kct (k0e g18.1) rfl hct) g18.2 ?_
        refine AW.genM (fun M19 => ?_)
        refine AW.iconst (pc := 67) dX12_guess_67 ci_1 ?_
        exact AW.zret (pc := 68) dX12_guess_68 rfl (Or.inr rfl) (fun _ _ _ => rfl) (Nat.le_refl _) (Nat.le_refl _)
-- GateBoxModel.credit(II)I
def zX12_credit_B238 (KK136 : Nat → Int32 → Int32 → Int32 → Int32 → Mem → Option (Int32 × Mem)) (KK238 : Nat → Int32 → Int32 → Int32 → Int32 → Int64 → Int32 → Mem → Option (Int32 × Mem)) (this : Nat) (x1 : Int32) (x2 : Int32) (x3 : Int32) (x5 : Int32) (x7 : Int64) (x9 : Int32) (M : Mem) : Option (Int32 × Mem) :=
  if 4 ≤ x9 then
    KK136 this x1 x2 x3 (x5 + 1) M
  else
    if mR M this 47 ≠ 0 then
    if (K0 (mR M this 47)).1 = 2 ∧ inb x9 (K0 (mR M this 47)).2 = true then
    if ¬ x7 = 0 then
    if inb x9 (K0 (mR M this 47)).2 = true then
    lt (sL M (mR M this 47) (Int32.toNatClampNeg x9) (((mL M (mR M this 47) (Int32.toNatClampNeg x9)) * 1000000) / x7)) fun M6 =>
    KK238 this x1 x2 x3 x5 x7 (x9 + 1) M6
    else none
    else none
    else none
    else none
def zX12_credit_L238 (KK136 : Nat → Int32 → Int32 → Int32 → Int32 → Mem → Option (Int32 × Mem)) : Nat → Nat → Int32 → Int32 → Int32 → Int32 → Int64 → Int32 → Mem → Option (Int32 × Mem)
  | 0 => fun _ _ _ _ _ _ _ _ => none
  | k + 1 => zX12_credit_B238 KK136 (zX12_credit_L238 KK136 k)
def zX12_credit_B229 (KK136 : Nat → Int32 → Int32 → Int32 → Int32 → Mem → Option (Int32 × Mem)) (KK162 : Nat → Int32 → Int32 → Int32 → Int32 → Int32 → Int64 → Int32 → Mem → Option (Int32 × Mem)) (this : Nat) (x1 : Int32) (x2 : Int32) (x3 : Int32) (x5 : Int32) (x6 : Int32) (x7 : Int64) (x9 : Int32) (M : Mem) : Option (Int32 × Mem) :=
  KK162 this x1 x2 x3 x5 x6 x7 (x9 + 1) M
def zX12_credit_B162 (KK136 : Nat → Int32 → Int32 → Int32 → Int32 → Mem → Option (Int32 × Mem)) (KK162 : Nat → Int32 → Int32 → Int32 → Int32 → Int32 → Int64 → Int32 → Mem → Option (Int32 × Mem)) (this : Nat) (x1 : Int32) (x2 : Int32) (x3 : Int32) (x5 : Int32) (x6 : Int32) (x7 : Int64) (x9 : Int32) (M : Mem) : Option (Int32 × Mem) :=
  if 4 ≤ x9 then
    zX12_credit_L238 KK136 FU this x1 x2 x3 x5 x7 0 M
  else
    bnd (zX12_guessOdds this x1 x9 x3 M) fun v2 M3 =>
    if v2 = 0 then
      zX12_credit_B229 KK136 KK162 this x1 x2 x3 x5 x6 x7 x9 M3
    else
      if mR M3 this 47 ≠ 0 then
      if (K0 (mR M3 this 47)).1 = 2 ∧ inb x9 (K0 (mR M3 this 47)).2 = true then
      bnd (zX12_guessOdds this x1 x9 x6 M3) fun v7 M8 =>
      if ¬ v2 = 0 then
      if inb x9 (K0 (mR M3 this 47)).2 = true then
      lt (sL M8 (mR M3 this 47) (Int32.toNatClampNeg x9) ((mL M3 (mR M3 this 47) (Int32.toNatClampNeg x9)) * (Int32.toInt64 (imax 1 ((1000 * v7) / v2))))) fun M11 =>
      if mR M11 this 47 ≠ 0 then
      if (K0 (mR M11 this 47)).1 = 2 ∧ inb x9 (K0 (mR M11 this 47)).2 = true then
      lt (x7 + (mL M11 (mR M11 this 47) (Int32.toNatClampNeg x9))) fun v14 =>
      zX12_credit_B229 KK136 KK162 this x1 x2 x3 x5 x6 v14 x9 M11
      else none
      else none
      else none
      else none
      else none
      else none
def zX12_credit_L162 (KK136 : Nat → Int32 → Int32 → Int32 → Int32 → Mem → Option (Int32 × Mem)) : Nat → Nat → Int32 → Int32 → Int32 → Int32 → Int32 → Int64 → Int32 → Mem → Option (Int32 × Mem)
  | 0 => fun _ _ _ _ _ _ _ _ _ => none
  | k + 1 => zX12_credit_B162 KK136 (zX12_credit_L162 KK136 k)
def zX12_credit_B136 (KK136 : Nat → Int32 → Int32 → Int32 → Int32 → Mem → Option (Int32 × Mem)) (this : Nat) (x1 : Int32) (x2 : Int32) (x3 : Int32) (x5 : Int32) (M : Mem) : Option (Int32 × Mem) :=
  if mR M this 13 ≠ 0 then
  if (K0 (mR M this 13)).1 = 1 ∧ inb x1 (K0 (mR M this 13)).2 = true then
  if (mI M (mR M this 13) (Int32.toNatClampNeg x1)) ≤ x5 then
    if mR M this 47 ≠ 0 then
    if (K0 (mR M this 47)).1 = 2 ∧ inb x2 (K0 (mR M this 47)).2 = true then
    some (Int64.toInt32 (mL M (mR M this 47) (Int32.toNatClampNeg x2)), M)
    else none
    else none
  else
    bnd (zX12_explained this x1 x5 M) fun v6 M7 =>
    zX12_credit_L162 KK136 FU this x1 x2 x3 x5 v6 0 0 M7
  else none
  else none
def zX12_credit_L136 : Nat → Nat → Int32 → Int32 → Int32 → Int32 → Mem → Option (Int32 × Mem)
  | 0 => fun _ _ _ _ _ _ => none
  | k + 1 => zX12_credit_B136 (zX12_credit_L136 k)
def zX12_credit_B126 (KK92 : Nat → Int32 → Int32 → Int32 → Int32 → Int32 → Mem → Option (Int32 × Mem)) (this : Nat) (x1 : Int32) (x2 : Int32) (x3 : Int32) (x4 : Int32) (x5 : Int32) (s0 : Nat) (s1 : Int32) (s2 : Int64) (M : Mem) : Option (Int32 × Mem) :=
  if (K0 s0).1 = 2 ∧ inb s1 (K0 s0).2 = true then
  lt (sL M s0 (Int32.toNatClampNeg s1) s2) fun M2 =>
  KK92 this x1 x2 x3 x4 (x5 + 1) M2
  else none
def zX12_credit_B92 (KK92 : Nat → Int32 → Int32 → Int32 → Int32 → Int32 → Mem → Option (Int32 × Mem)) (this : Nat) (x1 : Int32) (x2 : Int32) (x3 : Int32) (x4 : Int32) (x5 : Int32) (M : Mem) : Option (Int32 × Mem) :=
  if 4 ≤ x5 then
    zX12_credit_L136 FU this x1 x2 x3 0 M
  else
    if mR M this 47 ≠ 0 then
    bnd (zX12_guessOdds this x1 x5 x3 M) fun v3 M4 =>
    if v3 ≤ 0 then
      zX12_credit_B126 KK92 this x1 x2 x3 x4 x5 (mR M this 47) x5 0 M4
    else
      if ¬ x4 = 0 then
      zX12_credit_B126 KK92 this x1 x2 x3 x4 x5 (mR M this 47) x5 (Int32.toInt64 (1000000 / x4)) M4
      else none
    else none
def zX12_credit_L92 : Nat → Nat → Int32 → Int32 → Int32 → Int32 → Int32 → Mem → Option (Int32 × Mem)
  | 0 => fun _ _ _ _ _ _ _ => none
  | k + 1 => zX12_credit_B92 (zX12_credit_L92 k)
def zX12_credit_B68 (KK44 : Nat → Int32 → Int32 → Int32 → Int32 → Int32 → Mem → Option (Int32 × Mem)) (this : Nat) (x1 : Int32) (x2 : Int32) (x3 : Int32) (x5 : Int32) (s0 : Int32) (s1 : Int32) (M : Mem) : Option (Int32 × Mem) :=
  lt (s0 + s1) fun v1 =>
  KK44 this x1 x2 x3 v1 (x5 + 1) M
def zX12_credit_B44 (KK44 : Nat → Int32 → Int32 → Int32 → Int32 → Int32 → Mem → Option (Int32 × Mem)) (this : Nat) (x1 : Int32) (x2 : Int32) (x3 : Int32) (x4 : Int32) (x5 : Int32) (M : Mem) : Option (Int32 × Mem) :=
  if 4 ≤ x5 then
    bnd (zX12_guessOdds this x1 x2 x3 M) fun v2 M3 =>
    if v2 = 0 then
      some ((-1), M3)
    else
      zX12_credit_L92 FU this x1 x2 x3 x4 0 M3
  else
    bnd (zX12_guessOdds this x1 x5 x3 M) fun v5 M6 =>
    if v5 ≤ 0 then
      zX12_credit_B68 KK44 this x1 x2 x3 x5 x4 0 M6
    else
      zX12_credit_B68 KK44 this x1 x2 x3 x5 x4 1 M6
def zX12_credit_L44 : Nat → Nat → Int32 → Int32 → Int32 → Int32 → Int32 → Mem → Option (Int32 × Mem)
  | 0 => fun _ _ _ _ _ _ _ => none
  | k + 1 => zX12_credit_B44 (zX12_credit_L44 k)
def zX12_credit_B21 (this : Nat) (M : Mem) : Option (Int32 × Mem) :=
  bnd (zX12_fail this 1 M) fun v1 M2 =>
  some (v1, M2)
def zX12_credit (this : Nat) (x1 : Int32) (x2 : Int32) (M : Mem) : Option (Int32 × Mem) :=
  if K0 this = (0, 12) then
  lt (sI M this 2 0) fun M1 =>
  bnd (zX12_isGate x1 M1) fun v2 M3 =>
  if v2 = 0 then
    zX12_credit_B21 this M3
  else
    bnd (zX12_isIn x2 0 3 M3) fun v5 M6 =>
    if v5 = 0 then
      zX12_credit_B21 this M6
    else
      if mR M6 this 3 ≠ 0 then
      if (K0 (mR M6 this 3)).1 = 1 ∧ inb x1 (K0 (mR M6 this 3)).2 = true then
      lt ((1 <<< ((mI M6 (mR M6 this 3) (Int32.toNatClampNeg x1)) &&& 31)) - 1) fun v10 =>
      zX12_credit_L44 FU this x1 x2 v10 0 0 M6
      else none
      else none
  else none
set_option maxRecDepth 20000 in
set_option maxHeartbeats 4000000 in
theorem kX12_credit_B238 (l : Launch) (E : Ev) (n : Nat) (hn : 11 ≤ n) (ct : Nat) (hct : 111 ≤ ct) (ex : Bool) (KK136 : Nat → Int32 → Int32 → Int32 → Int32 → Mem → Option (Int32 × Mem)) (hKK136 : ∀ (this : Nat) (x1 : Int32) (x2 : Int32) (x3 : Int32) (x5 : Int32) (M : Mem) (_ : K0 this = (0, 12)), AW l E fX12_credit (fun _ => rmN n 0 0) (PQr E 0 0 ct ex enI) ct ex 0 0 136 [(0, .ref (ad E this)), (1, .int x1), (2, .int x2), (3, .int x3), (5, .int x5)] [] M (KK136 this x1 x2 x3 x5 M)) (KK238 : Nat → Int32 → Int32 → Int32 → Int32 → Int64 → Int32 → Mem → Option (Int32 × Mem)) (hKK238 : ∀ (this : Nat) (x1 : Int32) (x2 : Int32) (x3 : Int32) (x5 : Int32) (x7 : Int64) (x9 : Int32) (M : Mem) (_ : K0 this = (0, 12)), AW l E fX12_credit (fun _ => rmN n 0 0) (PQr E 0 0 ct ex enI) ct ex 0 0 238 [(0, .ref (ad E this)), (1, .int x1), (2, .int x2), (3, .int x3), (5, .int x5), (7, .long x7), (9, .int x9)] [] M (KK238 this x1 x2 x3 x5 x7 x9 M)) (this : Nat) (x1 : Int32) (x2 : Int32) (x3 : Int32) (x5 : Int32) (x7 : Int64) (x9 : Int32) (M : Mem) (hthis : K0 this = (0, 12)) : AW l E fX12_credit (fun _ => rmN n 0 0) (PQr E 0 0 ct ex enI) ct ex 0 0 238 [(0, .ref (ad E this)), (1, .int x1), (2, .int x2), (3, .int x3), (5, .int x5), (7, .long x7), (9, .int x9)] [] M (zX12_credit_B238 KK136 KK238 this x1 x2 x3 x5 x7 x9 M) := by
  unfold zX12_credit_B238
  refine AW.iload (pc := 238) dX12_credit_238 6 rfl ?_
  refine AW.iconst (pc := 240) dX12_credit_240 ci_4 ?_
  refine AW.icmp_ge (pc := 241) 271 dX12_credit_241 (by decide) (fun h1 => ?_) (fun h1 => ?_)
  · refine AW.iinc (pc := 271) (w := 4) [1, 2, 3, 4, 0] [(0, .ref (ad E this)), (1, .int x1), (2, .int x2), (3, .int x3), (5, .int (x5 + 1))] dX12_credit_271 rfl (inc_1 _) (by decide) rfl ?_
    refine AW.goto (pc := 274) 136 dX12_credit_274 (by decide) ?_
    exact hKK136 this x1 x2 x3 (x5 + 1) M hthis
  · refine AW.aload_n (pc := 244) dX12_credit_244 rfl 0 rfl ?_
    refine AW.chk (fun g2 => ?_)
    refine AW.getR (pc := 245) dX12_credit_245 flX12_128 hthis (kct hthis rfl hct) g2 ?_
    refine AW.iload (pc := 248) dX12_credit_248 6 rfl ?_
    refine AW.aload_n (pc := 250) dX12_credit_250 rfl 0 rfl ?_
    refine AW.getR (pc := 251) dX12_credit_251 flX12_128 hthis (kct hthis rfl hct) g2 ?_
    refine AW.iload (pc := 254) dX12_credit_254 6 rfl ?_
    refine AW.chk (fun g3 => ?_)
    refine AW.lald (pc := 256) dX12_credit_256 (k0e g3.1) (kct (k0e g3.1) rfl hct) g3.2 ?_
    refine AW.ldc2 (pc := 257) dX12_credit_257 ccX12_371 ?_
    refine AW.lmul (pc := 260) dX12_credit_260 ?_
    refine AW.lload (pc := 261) dX12_credit_261 5 rfl ?_
    refine AW.chk (fun g4 => ?_)
    refine AW.ldiv (pc := 263) dX12_credit_263 g4 ?_
    refine AW.chk (fun g5 => ?_)
    refine AW.last (pc := 264) dX12_credit_264 (k0e g3.1) (kct (k0e g3.1) rfl hct) g5 ?_
    refine AW.genM (fun M6 => ?_)
    refine AW.iinc (pc := 265) (w := 6) [1, 2, 3, 4, 5, 6, 0] [(0, .ref (ad E this)), (1, .int x1), (2, .int x2), (3, .int x3), (5, .int x5), (7, .long x7), (9, .int (x9 + 1))] dX12_credit_265 rfl (inc_1 _) (by decide) rfl ?_
    refine AW.goto (pc := 268) 238 dX12_credit_268 (by decide) ?_
    exact hKK238 this x1 x2 x3 x5 x7 (x9 + 1) M6 hthis
set_option maxRecDepth 20000 in
set_option maxHeartbeats 4000000 in
theorem kX12_credit_L238 (l : Launch) (E : Ev) (n : Nat) (hn : 11 ≤ n) (ct : Nat) (hct : 111 ≤ ct) (ex : Bool) (KK136 : Nat → Int32 → Int32 → Int32 → Int32 → Mem → Option (Int32 × Mem)) (hKK136 : ∀ (this : Nat) (x1 : Int32) (x2 : Int32) (x3 : Int32) (x5 : Int32) (M : Mem) (_ : K0 this = (0, 12)), AW l E fX12_credit (fun _ => rmN n 0 0) (PQr E 0 0 ct ex enI) ct ex 0 0 136 [(0, .ref (ad E this)), (1, .int x1), (2, .int x2), (3, .int x3), (5, .int x5)] [] M (KK136 this x1 x2 x3 x5 M)) (k : Nat) : ∀ (this : Nat) (x1 : Int32) (x2 : Int32) (x3 : Int32) (x5 : Int32) (x7 : Int64) (x9 : Int32) (M : Mem) (_ : K0 this = (0, 12)), AW l E fX12_credit (fun _ => rmN n 0 0) (PQr E 0 0 ct ex enI) ct ex 0 0 238 [(0, .ref (ad E this)), (1, .int x1), (2, .int x2), (3, .int x3), (5, .int x5), (7, .long x7), (9, .int x9)] [] M (zX12_credit_L238 KK136 k this x1 x2 x3 x5 x7 x9 M) := by
  induction k with
  | zero => intro this x1 x2 x3 x5 x7 x9 M _; exact AW.none
  | succ k ih =>
    intro this x1 x2 x3 x5 x7 x9 M hthis
    exact kX12_credit_B238 l E n hn ct hct ex KK136 hKK136 (zX12_credit_L238 KK136 k) ih this x1 x2 x3 x5 x7 x9 M hthis
set_option maxRecDepth 20000 in
set_option maxHeartbeats 4000000 in
theorem kX12_credit_B229 (l : Launch) (E : Ev) (n : Nat) (hn : 11 ≤ n) (ct : Nat) (hct : 111 ≤ ct) (ex : Bool) (KK136 : Nat → Int32 → Int32 → Int32 → Int32 → Mem → Option (Int32 × Mem)) (hKK136 : ∀ (this : Nat) (x1 : Int32) (x2 : Int32) (x3 : Int32) (x5 : Int32) (M : Mem) (_ : K0 this = (0, 12)), AW l E fX12_credit (fun _ => rmN n 0 0) (PQr E 0 0 ct ex enI) ct ex 0 0 136 [(0, .ref (ad E this)), (1, .int x1), (2, .int x2), (3, .int x3), (5, .int x5)] [] M (KK136 this x1 x2 x3 x5 M)) (KK162 : Nat → Int32 → Int32 → Int32 → Int32 → Int32 → Int64 → Int32 → Mem → Option (Int32 × Mem)) (hKK162 : ∀ (this : Nat) (x1 : Int32) (x2 : Int32) (x3 : Int32) (x5 : Int32) (x6 : Int32) (x7 : Int64) (x9 : Int32) (M : Mem) (_ : K0 this = (0, 12)), AW l E fX12_credit (fun _ => rmN n 0 0) (PQr E 0 0 ct ex enI) ct ex 0 0 162 [(0, .ref (ad E this)), (1, .int x1), (2, .int x2), (3, .int x3), (5, .int x5), (6, .int x6), (7, .long x7), (9, .int x9)] [] M (KK162 this x1 x2 x3 x5 x6 x7 x9 M)) (this : Nat) (x1 : Int32) (x2 : Int32) (x3 : Int32) (x5 : Int32) (x6 : Int32) (x7 : Int64) (x9 : Int32) (M : Mem) (hthis : K0 this = (0, 12)) : AW l E fX12_credit (fun _ => rmN n 0 0) (PQr E 0 0 ct ex enI) ct ex 0 0 229 [(0, .ref (ad E this)), (1, .int x1), (2, .int x2), (3, .int x3), (5, .int x5), (6, .int x6), (7, .long x7), (9, .int x9)] [] M (zX12_credit_B229 KK136 KK162 this x1 x2 x3 x5 x6 x7 x9 M) := by
  unfold zX12_credit_B229
  refine AW.iinc (pc := 229) (w := 7) [1, 2, 3, 4, 5, 6, 7, 0] [(0, .ref (ad E this)), (1, .int x1), (2, .int x2), (3, .int x3), (5, .int x5), (6, .int x6), (7, .long x7), (9, .int (x9 + 1))] dX12_credit_229 rfl (inc_1 _) (by decide) rfl ?_
  refine AW.goto (pc := 232) 162 dX12_credit_232 (by decide) ?_
  exact hKK162 this x1 x2 x3 x5 x6 x7 (x9 + 1) M hthis
set_option maxRecDepth 20000 in
set_option maxHeartbeats 4000000 in
theorem kX12_credit_B162 (l : Launch) (E : Ev) (n : Nat) (hn : 11 ≤ n) (ct : Nat) (hct : 111 ≤ ct) (ex : Bool) (KK136 : Nat → Int32 → Int32 → Int32 → Int32 → Mem → Option (Int32 × Mem)) (hKK136 : ∀ (this : Nat) (x1 : Int32) (x2 : Int32) (x3 : Int32) (x5 : Int32) (M : Mem) (_ : K0 this = (0, 12)), AW l E fX12_credit (fun _ => rmN n 0 0) (PQr E 0 0 ct ex enI) ct ex 0 0 136 [(0, .ref (ad E this)), (1, .int x1), (2, .int x2), (3, .int x3), (5, .int x5)] [] M (KK136 this x1 x2 x3 x5 M)) (KK162 : Nat → Int32 → Int32 → Int32 → Int32 → Int32 → Int64 → Int32 → Mem → Option (Int32 × Mem)) (hKK162 : ∀ (this : Nat) (x1 : Int32) (x2 : Int32) (x3 : Int32) (x5 : Int32) (x6 : Int32) (x7 : Int64) (x9 : Int32) (M : Mem) (_ : K0 this = (0, 12)), AW l E fX12_credit (fun _ => rmN n 0 0) (PQr E 0 0 ct ex enI) ct ex 0 0 162 [(0, .ref (ad E this)), (1, .int x1), (2, .int x2), (3, .int x3), (5, .int x5), (6, .int x6), (7, .long x7), (9, .int x9)] [] M (KK162 this x1 x2 x3 x5 x6 x7 x9 M)) (this : Nat) (x1 : Int32) (x2 : Int32) (x3 : Int32) (x5 : Int32) (x6 : Int32) (x7 : Int64) (x9 : Int32) (M : Mem) (hthis : K0 this = (0, 12)) : AW l E fX12_credit (fun _ => rmN n 0 0) (PQr E 0 0 ct ex enI) ct ex 0 0 162 [(0, .ref (ad E this)), (1, .int x1), (2, .int x2), (3, .int x3), (5, .int x5), (6, .int x6), (7, .long x7), (9, .int x9)] [] M (zX12_credit_B162 KK136 KK162 this x1 x2 x3 x5 x6 x7 x9 M) := by
  unfold zX12_credit_B162
  refine AW.iload (pc := 162) dX12_credit_162 7 rfl ?_
  refine AW.iconst (pc := 164) dX12_credit_164 ci_4 ?_
  refine AW.icmp_ge (pc := 165) 235 dX12_credit_165 (by decide) (fun h1 => ?_) (fun h1 => ?_)
  · refine AW.iconst (pc := 235) dX12_credit_235 ci_0 ?_
    refine AW.istore (pc := 236) [1, 2, 3, 4, 5, 7, 0] [(0, .ref (ad E this)), (1, .int x1), (2, .int x2), (3, .int x3), (5, .int x5), (7, .long x7), (9, .int 0)] dX12_credit_236 (by decide) rfl ?_
    exact kX12_credit_L238 l E n hn ct hct ex KK136 hKK136 FU this x1 x2 x3 x5 x7 0 M hthis
  · refine AW.aload_n (pc := 168) dX12_credit_168 rfl 0 rfl ?_
    refine AW.iload_n (pc := 169) dX12_credit_169 rfl 1 rfl ?_
    refine AW.iload (pc := 170) dX12_credit_170 7 rfl ?_
    refine AW.iload_n (pc := 172) dX12_credit_172 rfl 3 rfl ?_
    refine AW.cV3i (pc := 173) dX12_credit_173 mlX12_431 mbX12_guessOdds rfl hthis (kct hthis rfl hct) (fun _ => okR_N (by omega)) (kX12_guessOdds l E (n - 1) (by omega) ct hct ex this x1 x9 x3 M) (Nat.le_of_ble_eq_true rfl) (fun v2 M3 => ?_)
    refine AW.istore (pc := 176) [1, 2, 3, 4, 5, 6, 7, 8, 0] [(0, .ref (ad E this)), (1, .int x1), (2, .int x2), (3, .int x3), (5, .int x5), (6, .int x6), (7, .long x7), (9, .int x9), (10, .int v2)] dX12_credit_176 (by decide) rfl ?_
    refine AW.iload (pc := 178) dX12_credit_178 8 rfl ?_
    refine AW.if_ne (pc := 180) 186 dX12_credit_180 (by decide) (fun h4 => ?_) (fun h4 => ?_)
    · refine AW.goto (pc := 183) 229 dX12_credit_183 (by decide) ?_
      exact AW.sub [0, 1, 2, 3, 4, 5, 6, 7] rfl (kX12_credit_B229 l E n hn ct hct ex KK136 hKK136 KK162 hKK162 this x1 x2 x3 x5 x6 x7 x9 M3 hthis)
    · refine AW.aload_n (pc := 186) dX12_credit_186 rfl 0 rfl ?_
      refine AW.chk (fun g5 => ?_)
      refine AW.getR (pc := 187) dX12_credit_187 flX12_128 hthis (kct hthis rfl hct) g5 ?_
      refine AW.iload (pc := 190) dX12_credit_190 7 rfl ?_
      refine AW.dup2 (pc := 192) dX12_credit_192 rfl rfl ?_
      refine AW.chk (fun g6 => ?_)
      refine AW.lald (pc := 193) dX12_credit_193 (k0e g6.1) (kct (k0e g6.1) rfl hct) g6.2 ?_
      refine AW.iconst (pc := 194) dX12_credit_194 ci_1 ?_
      refine AW.sipush (pc := 195) dX12_credit_195 cs_1000 ?_
      refine AW.aload_n (pc := 198) dX12_credit_198 rfl 0 rfl ?_
      refine AW.iload_n (pc := 199) dX12_credit_199 rfl 1 rfl ?_
      refine AW.iload (pc := 200) dX12_credit_200 7 rfl ?_
      refine AW.iload (pc := 202) dX12_credit_202 5 rfl ?_
      refine AW.cV3i (pc := 204) dX12_credit_204 mlX12_431 mbX12_guessOdds rfl hthis (kct hthis rfl hct) (fun _ => okR_N (by omega)) (kX12_guessOdds l E (n - 1) (by omega) ct hct ex this x1 x9 x6 M3) (Nat.le_of_ble_eq_true rfl) (fun v7 M8 => ?_)
      refine AW.imul (pc := 207) dX12_credit_207 ?_
      refine AW.iload (pc := 208) dX12_credit_208 8 rfl ?_
      refine AW.chk (fun g9 => ?_)
      refine AW.idiv (pc := 210) dX12_credit_210 g9 ?_
      refine AW.mmax (pc := 211) dX12_credit_211 mlX12_309 mb_max (fun _ => okR_N (by omega)) (Nat.le_of_ble_eq_true rfl) ?_
      refine AW.i2l (pc := 214) dX12_credit_214 ?_
      refine AW.lmul (pc := 215) dX12_credit_215 ?_
      refine AW.chk (fun g10 => ?_)
      refine AW.last (pc := 216) dX12_credit_216 (k0e g6.1) (kct (k0e g6.1) rfl hct) g10 ?_
      refine AW.genM (fun M11 => ?_)
      refine AW.lload (pc := 217) dX12_credit_217 6 rfl ?_
      refine AW.aload_n (pc := 219) dX12_credit_219 rfl 0 rfl ?_
      refine AW.chk (fun g12 => ?_)
      refine AW.getR (pc := 220) dX12_credit_220 flX12_128 hthis (kct hthis rfl hct) g12 ?_
      refine AW.iload (pc := 223) dX12_credit_223 7 rfl ?_
      refine AW.chk (fun g13 => ?_)
      refine AW.lald (pc := 225) dX12_credit_225 (k0e g13.1) (kct (k0e g13.1) rfl hct) g13.2 ?_
      refine AW.ladd (pc := 226) dX12_credit_226 ?_
      refine AW.genL (fun v14 => ?_)
      refine AW.lstore (pc := 227) [1, 2, 3, 4, 5, 6, 0, 7] [(0, .ref (ad E this)), (1, .int x1), (2, .int x2), (3, .int x3), (5, .int x5), (6, .int x6), (7, .long v14), (9, .int x9)] dX12_credit_227 (by decide) rfl ?_
      exact kX12_credit_B229 l E n hn ct hct ex KK136 hKK136 KK162 hKK162 this x1 x2 x3 x5 x6 v14 x9 M11 hthis
set_option maxRecDepth 20000 in
set_option maxHeartbeats 4000000 in
theorem kX12_credit_L162 (l : Launch) (E : Ev) (n : Nat) (hn : 11 ≤ n) (ct : Nat) (hct : 111 ≤ ct) (ex : Bool) (KK136 : Nat → Int32 → Int32 → Int32 → Int32 → Mem → Option (Int32 × Mem)) (hKK136 : ∀ (this : Nat) (x1 : Int32) (x2 : Int32) (x3 : Int32) (x5 : Int32) (M : Mem) (_ : K0 this = (0, 12)), AW l E fX12_credit (fun _ => rmN n 0 0) (PQr E 0 0 ct ex enI) ct ex 0 0 136 [(0, .ref (ad E this)), (1, .int x1), (2, .int x2), (3, .int x3), (5, .int x5)] [] M (KK136 this x1 x2 x3 x5 M)) (k : Nat) : ∀ (this : Nat) (x1 : Int32) (x2 : Int32) (x3 : Int32) (x5 : Int32) (x6 : Int32) (x7 : Int64) (x9 : Int32) (M : Mem) (_ : K0 this = (0, 12)), AW l E fX12_credit (fun _ => rmN n 0 0) (PQr E 0 0 ct ex enI) ct ex 0 0 162 [(0, .ref (ad E this)), (1, .int x1), (2, .int x2), (3, .int x3), (5, .int x5), (6, .int x6), (7, .long x7), (9, .int x9)] [] M (zX12_credit_L162 KK136 k this x1 x2 x3 x5 x6 x7 x9 M) := by
  induction k with
  | zero => intro this x1 x2 x3 x5 x6 x7 x9 M _; exact AW.none
  | succ k ih =>
    intro this x1 x2 x3 x5 x6 x7 x9 M hthis
    exact kX12_credit_B162 l E n hn ct hct ex KK136 hKK136 (zX12_credit_L162 KK136 k) ih this x1 x2 x3 x5 x6 x7 x9 M hthis
set_option maxRecDepth 20000 in
set_option maxHeartbeats 4000000 in
theorem kX12_credit_B136 (l : Launch) (E : Ev) (n : Nat) (hn : 11 ≤ n) (ct : Nat) (hct : 111 ≤ ct) (ex : Bool) (KK136 : Nat → Int32 → Int32 → Int32 → Int32 → Mem → Option (Int32 × Mem)) (hKK136 : ∀ (this : Nat) (x1 : Int32) (x2 : Int32) (x3 : Int32) (x5 : Int32) (M : Mem) (_ : K0 this = (0, 12)), AW l E fX12_credit (fun _ => rmN n 0 0) (PQr E 0 0 ct ex enI) ct ex 0 0 136 [(0, .ref (ad E this)), (1, .int x1), (2, .int x2), (3, .int x3), (5, .int x5)] [] M (KK136 this x1 x2 x3 x5 M)) (this : Nat) (x1 : Int32) (x2 : Int32) (x3 : Int32) (x5 : Int32) (M : Mem) (hthis : K0 this = (0, 12)) : AW l E fX12_credit (fun _ => rmN n 0 0) (PQr E 0 0 ct ex enI) ct ex 0 0 136 [(0, .ref (ad E this)), (1, .int x1), (2, .int x2), (3, .int x3), (5, .int x5)] [] M (zX12_credit_B136 KK136 this x1 x2 x3 x5 M) := by
  unfold zX12_credit_B136
  refine AW.iload (pc := 136) dX12_credit_136 4 rfl ?_
  refine AW.aload_n (pc := 138) dX12_credit_138 rfl 0 rfl ?_
  refine AW.chk (fun g1 => ?_)
  refine AW.getR (pc := 139) dX12_credit_139 flX12_71 hthis (kct hthis rfl hct) g1 ?_
  refine AW.iload_n (pc := 142) dX12_credit_142 rfl 1 rfl ?_
  refine AW.chk (fun g2 => ?_)
  refine AW.iald (pc := 143) dX12_credit_143 (k0e g2.1) (kct (k0e g2.1) rfl hct) g2.2 ?_
  refine AW.icmp_ge (pc := 144) 277 dX12_credit_144 (by decide) (fun h3 => ?_) (fun h3 => ?_)
  · refine AW.aload_n (pc := 277) dX12_credit_277 rfl 0 rfl ?_
    refine AW.chk (fun g4 => ?_)
    refine AW.getR (pc := 278) dX12_credit_278 flX12_128 hthis (kct hthis rfl hct) g4 ?_
    refine AW.iload_n (pc := 281) dX12_credit_281 rfl 2 rfl ?_
    refine AW.chk (fun g5 => ?_)
    refine AW.lald (pc := 282) dX12_credit_282 (k0e g5.1) (kct (k0e g5.1) rfl hct) g5.2 ?_
    refine AW.l2i (pc := 283) dX12_credit_283 ?_
    exact AW.iret (pc := 284) dX12_credit_284 rfl (fun _ _ _ => rfl) (Nat.le_refl _) (Nat.le_refl _)
  · refine AW.aload_n (pc := 147) dX12_credit_147 rfl 0 rfl ?_
    refine AW.iload_n (pc := 148) dX12_credit_148 rfl 1 rfl ?_
    refine AW.iload (pc := 149) dX12_credit_149 4 rfl ?_
    refine AW.cV2i (pc := 151) dX12_credit_151 mlX12_419 mbX12_explained rfl hthis (kct hthis rfl hct) (fun _ => okR_N (by omega)) (kX12_explained l E (n - 1) (by omega) ct hct ex this x1 x5 M) (Nat.le_of_ble_eq_true rfl) (fun v6 M7 => ?_)
    refine AW.istore (pc := 154) [1, 2, 3, 4, 5, 0] [(0, .ref (ad E this)), (1, .int x1), (2, .int x2), (3, .int x3), (5, .int x5), (6, .int v6)] dX12_credit_154 (by decide) rfl ?_
    refine AW.lconst (pc := 156) dX12_credit_156 cl_0 ?_
    refine AW.lstore (pc := 157) [1, 2, 3, 4, 5, 6, 0] [(0, .ref (ad E this)), (1, .int x1), (2, .int x2), (3, .int x3), (5, .int x5), (6, .int v6), (7, .long 0)] dX12_credit_157 (by decide) rfl ?_
    refine AW.iconst (pc := 159) dX12_credit_159 ci_0 ?_
    refine AW.istore (pc := 160) [1, 2, 3, 4, 5, 6, 7, 0] [(0, .ref (ad E this)), (1, .int x1), (2, .int x2), (3, .int x3), (5, .int x5), (6, .int v6), (7, .long 0), (9, .int 0)] dX12_credit_160 (by decide) rfl ?_
    exact kX12_credit_L162 l E n hn ct hct ex KK136 hKK136 FU this x1 x2 x3 x5 v6 0 0 M7 hthis
set_option maxRecDepth 20000 in
set_option maxHeartbeats 4000000 in
theorem kX12_credit_L136 (l : Launch) (E : Ev) (n : Nat) (hn : 11 ≤ n) (ct : Nat) (hct : 111 ≤ ct) (ex : Bool) (k : Nat) : ∀ (this : Nat) (x1 : Int32) (x2 : Int32) (x3 : Int32) (x5 : Int32) (M : Mem) (_ : K0 this = (0, 12)), AW l E fX12_credit (fun _ => rmN n 0 0) (PQr E 0 0 ct ex enI) ct ex 0 0 136 [(0, .ref (ad E this)), (1, .int x1), (2, .int x2), (3, .int x3), (5, .int x5)] [] M (zX12_credit_L136 k this x1 x2 x3 x5 M) := by
  induction k with
  | zero => intro this x1 x2 x3 x5 M _; exact AW.none
  | succ k ih =>
    intro this x1 x2 x3 x5 M hthis
    exact kX12_credit_B136 l E n hn ct hct ex (zX12_credit_L136 k) ih this x1 x2 x3 x5 M hthis
set_option maxRecDepth 20000 in
set_option maxHeartbeats 4000000 in
theorem kX12_credit_B126 (l : Launch) (E : Ev) (n : Nat) (hn : 11 ≤ n) (ct : Nat) (hct : 111 ≤ ct) (ex : Bool) (KK92 : Nat → Int32 → Int32 → Int32 → Int32 → Int32 → Mem → Option (Int32 × Mem)) (hKK92 : ∀ (this : Nat) (x1 : Int32) (x2 : Int32) (x3 : Int32) (x4 : Int32) (x5 : Int32) (M : Mem) (_ : K0 this = (0, 12)), AW l E fX12_credit (fun _ => rmN n 0 0) (PQr E 0 0 ct ex enI) ct ex 0 0 92 [(0, .ref (ad E this)), (1, .int x1), (2, .int x2), (3, .int x3), (4, .int x4), (5, .int x5)] [] M (KK92 this x1 x2 x3 x4 x5 M)) (this : Nat) (x1 : Int32) (x2 : Int32) (x3 : Int32) (x4 : Int32) (x5 : Int32) (s0 : Nat) (s1 : Int32) (s2 : Int64) (M : Mem) (hthis : K0 this = (0, 12)) : AW l E fX12_credit (fun _ => rmN n 0 0) (PQr E 0 0 ct ex enI) ct ex 0 0 126 [(0, .ref (ad E this)), (1, .int x1), (2, .int x2), (3, .int x3), (4, .int x4), (5, .int x5)] [.long s2, .int s1, .ref (ad E s0)] M (zX12_credit_B126 KK92 this x1 x2 x3 x4 x5 s0 s1 s2 M) := by
  unfold zX12_credit_B126
  refine AW.chk (fun g1 => ?_)
  refine AW.last (pc := 126) dX12_credit_126 (k0e g1.1) (kct (k0e g1.1) rfl hct) g1.2 ?_
  refine AW.genM (fun M2 => ?_)
  refine AW.iinc (pc := 127) (w := 5) [1, 2, 3, 4, 5, 0] [(0, .ref (ad E this)), (1, .int x1), (2, .int x2), (3, .int x3), (4, .int x4), (5, .int (x5 + 1))] dX12_credit_127 rfl (inc_1 _) (by decide) rfl ?_
  refine AW.goto (pc := 130) 92 dX12_credit_130 (by decide) ?_
  exact hKK92 this x1 x2 x3 x4 (x5 + 1) M2 hthis
set_option maxRecDepth 20000 in
set_option maxHeartbeats 4000000 in
theorem kX12_credit_B92 (l : Launch) (E : Ev) (n : Nat) (hn : 11 ≤ n) (ct : Nat) (hct : 111 ≤ ct) (ex : Bool) (KK92 : Nat → Int32 → Int32 → Int32 → Int32 → Int32 → Mem → Option (Int32 × Mem)) (hKK92 : ∀ (this : Nat) (x1 : Int32) (x2 : Int32) (x3 : Int32) (x4 : Int32) (x5 : Int32) (M : Mem) (_ : K0 this = (0, 12)), AW l E fX12_credit (fun _ => rmN n 0 0) (PQr E 0 0 ct ex enI) ct ex 0 0 92 [(0, .ref (ad E this)), (1, .int x1), (2, .int x2), (3, .int x3), (4, .int x4), (5, .int x5)] [] M (KK92 this x1 x2 x3 x4 x5 M)) (this : Nat) (x1 : Int32) (x2 : Int32) (x3 : Int32) (x4 : Int32) (x5 : Int32) (M : Mem) (hthis : K0 this = (0, 12)) : AW l E fX12_credit (fun _ => rmN n 0 0) (PQr E 0 0 ct ex enI) ct ex 0 0 92 [(0, .ref (ad E this)), (1, .int x1), (2, .int x2), (3, .int x3), (4, .int x4), (5, .int x5)] [] M (zX12_credit_B92 KK92 this x1 x2 x3 x4 x5 M) := by
  unfold zX12_credit_B92
  refine AW.iload (pc := 92) dX12_credit_92 5 rfl ?_
  refine AW.iconst (pc := 94) dX12_credit_94 ci_4 ?_
  refine AW.icmp_ge (pc := 95) 133 dX12_credit_95 (by decide) (fun h1 => ?_) (fun h1 => ?_)
  · refine AW.iconst (pc := 133) dX12_credit_133 ci_0 ?_
    refine AW.istore (pc := 134) [1, 2, 3, 4, 0] [(0, .ref (ad E this)), (1, .int x1), (2, .int x2), (3, .int x3), (5, .int 0)] dX12_credit_134 (by decide) rfl ?_
    exact kX12_credit_L136 l E n hn ct hct ex FU this x1 x2 x3 0 M hthis
  · refine AW.aload_n (pc := 98) dX12_credit_98 rfl 0 rfl ?_
    refine AW.chk (fun g2 => ?_)
    refine AW.getR (pc := 99) dX12_credit_99 flX12_128 hthis (kct hthis rfl hct) g2 ?_
    refine AW.iload (pc := 102) dX12_credit_102 5 rfl ?_
    refine AW.aload_n (pc := 104) dX12_credit_104 rfl 0 rfl ?_
    refine AW.iload_n (pc := 105) dX12_credit_105 rfl 1 rfl ?_
    refine AW.iload (pc := 106) dX12_credit_106 5 rfl ?_
    refine AW.iload_n (pc := 108) dX12_credit_108 rfl 3 rfl ?_
    refine AW.cV3i (pc := 109) dX12_credit_109 mlX12_431 mbX12_guessOdds rfl hthis (kct hthis rfl hct) (fun _ => okR_N (by omega)) (kX12_guessOdds l E (n - 1) (by omega) ct hct ex this x1 x5 x3 M) (Nat.le_of_ble_eq_true rfl) (fun v3 M4 => ?_)
    refine AW.if_le (pc := 112) 125 dX12_credit_112 (by decide) (fun h5 => ?_) (fun h5 => ?_)
    · refine AW.lconst (pc := 125) dX12_credit_125 cl_0 ?_
      exact kX12_credit_B126 l E n hn ct hct ex KK92 hKK92 this x1 x2 x3 x4 x5 (mR M this 47) x5 0 M4 hthis
    · refine AW.ldcw (pc := 115) dX12_credit_115 ccX12_434 ?_
      refine AW.iload (pc := 118) dX12_credit_118 4 rfl ?_
      refine AW.chk (fun g6 => ?_)
      refine AW.idiv (pc := 120) dX12_credit_120 g6 ?_
      refine AW.i2l (pc := 121) dX12_credit_121 ?_
      refine AW.goto (pc := 122) 126 dX12_credit_122 (by decide) ?_
      exact kX12_credit_B126 l E n hn ct hct ex KK92 hKK92 this x1 x2 x3 x4 x5 (mR M this 47) x5 (Int32.toInt64 (1000000 / x4)) M4 hthis
set_option maxRecDepth 20000 in
set_option maxHeartbeats 4000000 in
theorem kX12_credit_L92 (l : Launch) (E : Ev) (n : Nat) (hn : 11 ≤ n) (ct : Nat) (hct : 111 ≤ ct) (ex : Bool) (k : Nat) : ∀ (this : Nat) (x1 : Int32) (x2 : Int32) (x3 : Int32) (x4 : Int32) (x5 : Int32) (M : Mem) (_ : K0 this = (0, 12)), AW l E fX12_credit (fun _ => rmN n 0 0) (PQr E 0 0 ct ex enI) ct ex 0 0 92 [(0, .ref (ad E this)), (1, .int x1), (2, .int x2), (3, .int x3), (4, .int x4), (5, .int x5)] [] M (zX12_credit_L92 k this x1 x2 x3 x4 x5 M) := by
  induction k with
  | zero => intro this x1 x2 x3 x4 x5 M _; exact AW.none
  | succ k ih =>
    intro this x1 x2 x3 x4 x5 M hthis
    exact kX12_credit_B92 l E n hn ct hct ex (zX12_credit_L92 k) ih this x1 x2 x3 x4 x5 M hthis
set_option maxRecDepth 20000 in
set_option maxHeartbeats 4000000 in
theorem kX12_credit_B68 (l : Launch) (E : Ev) (n : Nat) (hn : 11 ≤ n) (ct : Nat) (hct : 111 ≤ ct) (ex : Bool) (KK44 : Nat → Int32 → Int32 → Int32 → Int32 → Int32 → Mem → Option (Int32 × Mem)) (hKK44 : ∀ (this : Nat) (x1 : Int32) (x2 : Int32) (x3 : Int32) (x4 : Int32) (x5 : Int32) (M : Mem) (_ : K0 this = (0, 12)), AW l E fX12_credit (fun _ => rmN n 0 0) (PQr E 0 0 ct ex enI) ct ex 0 0 44 [(0, .ref (ad E this)), (1, .int x1), (2, .int x2), (3, .int x3), (4, .int x4), (5, .int x5)] [] M (KK44 this x1 x2 x3 x4 x5 M)) (this : Nat) (x1 : Int32) (x2 : Int32) (x3 : Int32) (x5 : Int32) (s0 : Int32) (s1 : Int32) (M : Mem) (hthis : K0 this = (0, 12)) : AW l E fX12_credit (fun _ => rmN n 0 0) (PQr E 0 0 ct ex enI) ct ex 0 0 68 [(0, .ref (ad E this)), (1, .int x1), (2, .int x2), (3, .int x3), (5, .int x5)] [.int s1, .int s0] M (zX12_credit_B68 KK44 this x1 x2 x3 x5 s0 s1 M) := by
  unfold zX12_credit_B68
  refine AW.iadd (pc := 68) dX12_credit_68 ?_
  refine AW.genI (fun v1 => ?_)
  refine AW.istore (pc := 69) [1, 2, 3, 4, 0, 5] [(0, .ref (ad E this)), (1, .int x1), (2, .int x2), (3, .int x3), (4, .int v1), (5, .int x5)] dX12_credit_69 (by decide) rfl ?_
  refine AW.iinc (pc := 71) (w := 5) [1, 2, 3, 4, 5, 0] [(0, .ref (ad E this)), (1, .int x1), (2, .int x2), (3, .int x3), (4, .int v1), (5, .int (x5 + 1))] dX12_credit_71 rfl (inc_1 _) (by decide) rfl ?_
  refine AW.goto (pc := 74) 44 dX12_credit_74 (by decide) ?_
  exact hKK44 this x1 x2 x3 v1 (x5 + 1) M hthis
set_option maxRecDepth 20000 in
set_option maxHeartbeats 4000000 in
theorem kX12_credit_B44 (l : Launch) (E : Ev) (n : Nat) (hn : 11 ≤ n) (ct : Nat) (hct : 111 ≤ ct) (ex : Bool) (KK44 : Nat → Int32 → Int32 → Int32 → Int32 → Int32 → Mem → Option (Int32 × Mem)) (hKK44 : ∀ (this : Nat) (x1 : Int32) (x2 : Int32) (x3 : Int32) (x4 : Int32) (x5 : Int32) (M : Mem) (_ : K0 this = (0, 12)), AW l E fX12_credit (fun _ => rmN n 0 0) (PQr E 0 0 ct ex enI) ct ex 0 0 44 [(0, .ref (ad E this)), (1, .int x1), (2, .int x2), (3, .int x3), (4, .int x4), (5, .int x5)] [] M (KK44 this x1 x2 x3 x4 x5 M)) (this : Nat) (x1 : Int32) (x2 : Int32) (x3 : Int32) (x4 : Int32) (x5 : Int32) (M : Mem) (hthis : K0 this = (0, 12)) : AW l E fX12_credit (fun _ => rmN n 0 0) (PQr E 0 0 ct ex enI) ct ex 0 0 44 [(0, .ref (ad E this)), (1, .int x1), (2, .int x2), (3, .int x3), (4, .int x4), (5, .int x5)] [] M (zX12_credit_B44 KK44 this x1 x2 x3 x4 x5 M) := by
  unfold zX12_credit_B44
  refine AW.iload (pc := 44) dX12_credit_44 5 rfl ?_
  refine AW.iconst (pc := 46) dX12_credit_46 ci_4 ?_
  refine AW.icmp_ge (pc := 47) 77 dX12_credit_47 (by decide) (fun h1 => ?_) (fun h1 => ?_)
  · refine AW.aload_n (pc := 77) dX12_credit_77 rfl 0 rfl ?_
    refine AW.iload_n (pc := 78) dX12_credit_78 rfl 1 rfl ?_
    refine AW.iload_n (pc := 79) dX12_credit_79 rfl 2 rfl ?_
    refine AW.iload_n (pc := 80) dX12_credit_80 rfl 3 rfl ?_
    refine AW.cV3i (pc := 81) dX12_credit_81 mlX12_431 mbX12_guessOdds rfl hthis (kct hthis rfl hct) (fun _ => okR_N (by omega)) (kX12_guessOdds l E (n - 1) (by omega) ct hct ex this x1 x2 x3 M) (Nat.le_of_ble_eq_true rfl) (fun v2 M3 => ?_)
    refine AW.if_ne (pc := 84) 89 dX12_credit_84 (by decide) (fun h4 => ?_) (fun h4 => ?_)
    · refine AW.iconst (pc := 87) dX12_credit_87 ci_m1 ?_
      exact AW.iret (pc := 88) dX12_credit_88 rfl (fun _ _ _ => rfl) (Nat.le_refl _) (Nat.le_refl _)
    · refine AW.iconst (pc := 89) dX12_credit_89 ci_0 ?_
      refine AW.istore (pc := 90) [1, 2, 3, 4, 5, 0] [(0, .ref (ad E this)), (1, .int x1), (2, .int x2), (3, .int x3), (4, .int x4), (5, .int 0)] dX12_credit_90 (by decide) rfl ?_
      exact kX12_credit_L92 l E n hn ct hct ex FU this x1 x2 x3 x4 0 M3 hthis
  · refine AW.iload (pc := 50) dX12_credit_50 4 rfl ?_
    refine AW.aload_n (pc := 52) dX12_credit_52 rfl 0 rfl ?_
    refine AW.iload_n (pc := 53) dX12_credit_53 rfl 1 rfl ?_
    refine AW.iload (pc := 54) dX12_credit_54 5 rfl ?_
    refine AW.iload_n (pc := 56) dX12_credit_56 rfl 3 rfl ?_
    refine AW.cV3i (pc := 57) dX12_credit_57 mlX12_431 mbX12_guessOdds rfl hthis (kct hthis rfl hct) (fun _ => okR_N (by omega)) (kX12_guessOdds l E (n - 1) (by omega) ct hct ex this x1 x5 x3 M) (Nat.le_of_ble_eq_true rfl) (fun v5 M6 => ?_)
    refine AW.if_le (pc := 60) 67 dX12_credit_60 (by decide) (fun h7 => ?_) (fun h7 => ?_)
    · refine AW.iconst (pc := 67) dX12_credit_67 ci_0 ?_
      exact AW.sub [0, 1, 2, 3, 5] rfl (kX12_credit_B68 l E n hn ct hct ex KK44 hKK44 this x1 x2 x3 x5 x4 0 M6 hthis)
    · refine AW.iconst (pc := 63) dX12_credit_63 ci_1 ?_
      refine AW.goto (pc := 64) 68 dX12_credit_64 (by decide) ?_
      exact AW.sub [0, 1, 2, 3, 5] rfl (kX12_credit_B68 l E n hn ct hct ex KK44 hKK44 this x1 x2 x3 x5 x4 1 M6 hthis)
set_option maxRecDepth 20000 in
set_option maxHeartbeats 4000000 in
theorem kX12_credit_L44 (l : Launch) (E : Ev) (n : Nat) (hn : 11 ≤ n) (ct : Nat) (hct : 111 ≤ ct) (ex : Bool) (k : Nat) : ∀ (this : Nat) (x1 : Int32) (x2 : Int32) (x3 : Int32) (x4 : Int32) (x5 : Int32) (M : Mem) (_ : K0 this = (0, 12)), AW l E fX12_credit (fun _ => rmN n 0 0) (PQr E 0 0 ct ex enI) ct ex 0 0 44 [(0, .ref (ad E this)), (1, .int x1), (2, .int x2), (3, .int x3), (4, .int x4), (5, .int x5)] [] M (zX12_credit_L44 k this x1 x2 x3 x4 x5 M) := by
  induction k with
  | zero => intro this x1 x2 x3 x4 x5 M _; exact AW.none
  | succ k ih =>
    intro this x1 x2 x3 x4 x5 M hthis
    exact kX12_credit_B44 l E n hn ct hct ex (zX12_credit_L44 k) ih this x1 x2 x3 x4 x5 M hthis
set_option maxRecDepth 20000 in
set_option maxHeartbeats 4000000 in
theorem kX12_credit_B21 (l : Launch) (E : Ev) (n : Nat) (hn : 11 ≤ n) (ct : Nat) (hct : 111 ≤ ct) (ex : Bool) (this : Nat) (M : Mem) (hthis : K0 this = (0, 12)) : AW l E fX12_credit (fun _ => rmN n 0 0) (PQr E 0 0 ct ex enI) ct ex 0 0 21 [(0, .ref (ad E this))] [] M (zX12_credit_B21 this M) := by
  unfold zX12_credit_B21
  refine AW.aload_n (pc := 21) dX12_credit_21 rfl 0 rfl ?_
  refine AW.iconst (pc := 22) dX12_credit_22 ci_1 ?_
  refine AW.cV1i (pc := 23) dX12_credit_23 mlX12_289 mbX12_fail rfl hthis (kct hthis rfl hct) (fun _ => okR_N (by omega)) (kX12_fail l E (n - 1) (by omega) ct hct ex this 1 M) (Nat.le_of_ble_eq_true rfl) (fun v1 M2 => ?_)
  exact AW.iret (pc := 26) dX12_credit_26 rfl (fun _ _ _ => rfl) (Nat.le_refl _) (Nat.le_refl _)
set_option maxRecDepth 20000 in
set_option maxHeartbeats 4000000 in
theorem kX12_credit (l : Launch) (E : Ev) (n : Nat) (hn : 11 ≤ n) (ct : Nat) (hct : 111 ≤ ct) (ex : Bool) (this : Nat) (x1 : Int32) (x2 : Int32) (M : Mem) : AM l E n ct ex yX12_credit fX12_credit enI [.ref (ad E this), .int x1, .int x2] M (zX12_credit this x1 x2 M) := by
  unfold zX12_credit
  refine AM.of (by decide +kernel) ⟨rfl, rfl, rfl⟩ (Nat.le_of_ble_eq_true rfl) ?_
  refine AW.chk (fun hthis => ?_)
  refine AW.aload_n (pc := 0) dX12_credit_0 rfl 0 rfl ?_
  refine AW.iconst (pc := 1) dX12_credit_1 ci_0 ?_
  refine AW.putI (pc := 2) dX12_credit_2 flX12_159 hthis (kct hthis rfl hct) ?_
  refine AW.genM (fun M1 => ?_)
  refine AW.iload_n (pc := 5) dX12_credit_5 rfl 1 rfl ?_
  refine AW.cS1i (pc := 6) dX12_credit_6 mlX12_166 mbX12_isGate (fun _ => okR_N (by omega)) (kX12_isGate l E (n - 1) (by omega) ct hct ex x1 M1) (Nat.le_of_ble_eq_true rfl) (fun v2 M3 => ?_)
  refine AW.if_eq (pc := 9) 21 dX12_credit_9 (by decide) (fun h4 => ?_) (fun h4 => ?_)
  · exact AW.sub [0] rfl (kX12_credit_B21 l E n hn ct hct ex this M3 hthis)
  · refine AW.iload_n (pc := 12) dX12_credit_12 rfl 2 rfl ?_
    refine AW.iconst (pc := 13) dX12_credit_13 ci_0 ?_
    refine AW.iconst (pc := 14) dX12_credit_14 ci_3 ?_
    refine AW.cS3i (pc := 15) dX12_credit_15 mlX12_162 mbX12_isIn (fun _ => okR_N (by omega)) (kX12_isIn l E (n - 1) (by omega) ct hct ex x2 0 3 M3) (Nat.le_of_ble_eq_true rfl) (fun v5 M6 => ?_)
    refine AW.if_ne (pc := 18) 27 dX12_credit_18 (by decide) (fun h7 => ?_) (fun h7 => ?_)
    · exact AW.sub [0] rfl (kX12_credit_B21 l E n hn ct hct ex this M6 hthis)
    · refine AW.iconst (pc := 27) dX12_credit_27 ci_1 ?_
      refine AW.aload_n (pc := 28) dX12_credit_28 rfl 0 rfl ?_
      refine AW.chk (fun g8 => ?_)
      refine AW.getR (pc := 29) dX12_credit_29 flX12_42 hthis (kct hthis rfl hct) g8 ?_
      refine AW.iload_n (pc := 32) dX12_credit_32 rfl 1 rfl ?_
      refine AW.chk (fun g9 => ?_)
      refine AW.iald (pc := 33) dX12_credit_33 (k0e g9.1) (kct (k0e g9.1) rfl hct) g9.2 ?_
      refine AW.ishl (pc := 34) dX12_credit_34 ?_
      refine AW.iconst (pc := 35) dX12_credit_35 ci_1 ?_
      refine AW.isub (pc := 36) dX12_credit_36 ?_
      refine AW.genI (fun v10 => ?_)
      refine AW.istore_n (pc := 37) [1, 2, 3, 0] [(0, .ref (ad E this)), (1, .int x1), (2, .int x2), (3, .int v10)] dX12_credit_37 rfl (by decide) rfl ?_
      refine AW.iconst (pc := 38) dX12_credit_38 ci_0 ?_
      refine AW.istore (pc := 39) [1, 2, 3, 4, 0] [(0, .ref (ad E this)), (1, .int x1), (2, .int x2), (3, .int v10), (4, .int 0)] dX12_credit_39 (by decide) rfl ?_
      refine AW.iconst (pc := 41) dX12_credit_41 ci_0 ?_
      refine AW.istore (pc := 42) [1, 2, 3, 4, 5, 0] [(0, .ref (ad E this)), (1, .int x1), (2, .int x2), (3, .int v10), (4, .int 0), (5, .int 0)] dX12_credit_42 (by decide) rfl ?_
      exact kX12_credit_L44 l E n hn ct hct ex FU this x1 x2 v10 0 0 M6 hthis
-- GateBoxModel.draw(I)I
def zX12_draw (this : Nat) (x1 : Int32) (M : Mem) : Option (Int32 × Mem) :=
  if K0 this = (0, 12) then
  lt (sI M this 48 (((mI M this 48) * 1103515245) + 12345)) fun M1 =>
  if ¬ x1 = 0 then
  some ((((mI M1 this 48) >>> (16 &&& 31)) &&& 32767) % x1, M1)
  else none
  else none
set_option maxRecDepth 20000 in
set_option maxHeartbeats 4000000 in
theorem kX12_draw (l : Launch) (E : Ev) (n : Nat) (hn : 1 ≤ n) (ct : Nat) (hct : 111 ≤ ct) (ex : Bool) (this : Nat) (x1 : Int32) (M : Mem) : AM l E n ct ex yX12_draw fX12_draw enI [.ref (ad E this), .int x1] M (zX12_draw this x1 M) := by
  unfold zX12_draw
  refine AM.of (by decide +kernel) ⟨rfl, rfl, rfl⟩ (Nat.le_of_ble_eq_true rfl) ?_
  refine AW.chk (fun hthis => ?_)
  refine AW.aload_n (pc := 0) dX12_draw_0 rfl 0 rfl ?_
  refine AW.aload_n (pc := 1) dX12_draw_1 rfl 0 rfl ?_
  refine AW.getI (pc := 2) dX12_draw_2 flX12_435 hthis (kct hthis rfl hct) ?_
  refine AW.ldcw (pc := 5) dX12_draw_5 ccX12_438 ?_
  refine AW.imul (pc := 8) dX12_draw_8 ?_
  refine AW.sipush (pc := 9) dX12_draw_9 cs_12345 ?_
  refine AW.iadd (pc := 12) dX12_draw_12 ?_
  refine AW.putI (pc := 13) dX12_draw_13 flX12_435 hthis (kct hthis rfl hct) ?_
  refine AW.genM (fun M1 => ?_)
  refine AW.aload_n (pc := 16) dX12_draw_16 rfl 0 rfl ?_
  refine AW.getI (pc := 17) dX12_draw_17 flX12_435 hthis (kct hthis rfl hct) ?_
  refine AW.bipush (pc := 20) dX12_draw_20 cb_16 ?_
  refine AW.ishr (pc := 22) dX12_draw_22 ?_
  refine AW.sipush (pc := 23) dX12_draw_23 cs_32767 ?_
  refine AW.iand (pc := 26) dX12_draw_26 ?_
  refine AW.iload_n (pc := 27) dX12_draw_27 rfl 1 rfl ?_
  refine AW.chk (fun g2 => ?_)
  refine AW.irem (pc := 28) dX12_draw_28 g2 ?_
  exact AW.iret (pc := 29) dX12_draw_29 rfl (fun _ _ _ => rfl) (Nat.le_refl _) (Nat.le_refl _)
-- GateBoxModel.drawn(III)I
def zX12_drawn_B232 (KK55 : Nat → Int32 → Int32 → Int32 → Int32 → Mem → Option (Int32 × Mem)) (this : Nat) (x1 : Int32) (x2 : Int32) (x4 : Int32) (x5 : Int32) (M : Mem) : Option (Int32 × Mem) :=
  KK55 this x1 x2 x4 (x5 + 1) M
def zX12_drawn_B161 (KK55 : Nat → Int32 → Int32 → Int32 → Int32 → Mem → Option (Int32 × Mem)) (this : Nat) (x1 : Int32) (x2 : Int32) (x4 : Int32) (x5 : Int32) (M : Mem) : Option (Int32 × Mem) :=
  if (x5 % 10) = 0 then
    if mR M this 15 ≠ 0 then
    if (K0 (mR M this 15)).1 = 1 ∧ inb x1 (K0 (mR M this 15)).2 = true then
    if mR M this 4 ≠ 0 then
    if (K0 (mR M this 4)).1 = 1 ∧ inb ((7 * x1) + 6) (K0 (mR M this 4)).2 = true then
    if (mI M (mR M this 15) (Int32.toNatClampNeg x1)) < (mI M (mR M this 4) (Int32.toNatClampNeg ((7 * x1) + 6))) then
      zX12_drawn_B232 KK55 this x1 x2 x4 x5 M
    else
      bnd (zX12_draw this 100 M) fun v7 M8 =>
      if mR M8 this 4 ≠ 0 then
      if (K0 (mR M8 this 4)).1 = 1 ∧ inb ((7 * x1) + 5) (K0 (mR M8 this 4)).2 = true then
      if (mI M8 (mR M8 this 4) (Int32.toNatClampNeg ((7 * x1) + 5))) ≤ v7 then
        zX12_drawn_B232 KK55 this x1 x2 x4 x5 M8
      else
        if mR M8 this 16 ≠ 0 then
        if (K0 (mR M8 this 16)).1 = 1 ∧ inb x1 (K0 (mR M8 this 16)).2 = true then
        if mR M8 this 15 ≠ 0 then
        if (K0 (mR M8 this 15)).1 = 1 ∧ inb x1 (K0 (mR M8 this 15)).2 = true then
        if inb x1 (K0 (mR M8 this 16)).2 = true then
        lt (sI M8 (mR M8 this 16) (Int32.toNatClampNeg x1) ((mI M8 (mR M8 this 16) (Int32.toNatClampNeg x1)) + (mI M8 (mR M8 this 15) (Int32.toNatClampNeg x1)))) fun M17 =>
        if mR M17 this 15 ≠ 0 then
        if (K0 (mR M17 this 15)).1 = 1 ∧ inb x1 (K0 (mR M17 this 15)).2 = true then
        lt (sI M17 (mR M17 this 15) (Int32.toNatClampNeg x1) 0) fun M20 =>
        zX12_drawn_B232 KK55 this x1 x2 x4 x5 M20
        else none
        else none
        else none
        else none
        else none
        else none
        else none
      else none
      else none
    else none
    else none
    else none
    else none
  else
    zX12_drawn_B232 KK55 this x1 x2 x4 x5 M
def zX12_drawn_B75 (KK55 : Nat → Int32 → Int32 → Int32 → Int32 → Mem → Option (Int32 × Mem)) (KK75 : Nat → Int32 → Int32 → Int32 → Int32 → Int32 → Int32 → Mem → Option (Int32 × Mem)) (this : Nat) (x1 : Int32) (x2 : Int32) (x4 : Int32) (x5 : Int32) (x6 : Int32) (x7 : Int32) (M : Mem) : Option (Int32 × Mem) :=
  if mR M this 5 ≠ 0 then
  if (K0 (mR M this 5)).1 = 1 ∧ inb ((8 * x1) + x7) (K0 (mR M this 5)).2 = true then
  if x6 < (mI M (mR M this 5) (Int32.toNatClampNeg ((8 * x1) + x7))) then
    if mR M this 12 ≠ 0 then
    if (K0 (mR M this 12)).1 = 1 ∧ inb x1 (K0 (mR M this 12)).2 = true then
    bnd (zX12_gift this x1 x7 (mI M (mR M this 12) (Int32.toNatClampNeg x1)) M) fun v6 M7 =>
    if v6 = (-1) then
      zX12_drawn_B161 KK55 this x1 x2 x4 x5 M7
    else
      bnd (zX12_enter this x1 v6 M7) fun _ M9 =>
      if mR M9 this 15 ≠ 0 then
      if (K0 (mR M9 this 15)).1 = 1 ∧ inb x1 (K0 (mR M9 this 15)).2 = true then
      if inb x1 (K0 (mR M9 this 15)).2 = true then
      lt (sI M9 (mR M9 this 15) (Int32.toNatClampNeg x1) ((mI M9 (mR M9 this 15) (Int32.toNatClampNeg x1)) + v6)) fun M13 =>
      lt (x4 + v6) fun v14 =>
      zX12_drawn_B161 KK55 this x1 x2 v14 x5 M13
      else none
      else none
      else none
    else none
    else none
  else
    if inb ((8 * x1) + x7) (K0 (mR M this 5)).2 = true then
    lt (x6 - (mI M (mR M this 5) (Int32.toNatClampNeg ((8 * x1) + x7)))) fun v16 =>
    KK75 this x1 x2 x4 x5 v16 (x7 + 1) M
    else none
  else none
  else none
def zX12_drawn_L75 (KK55 : Nat → Int32 → Int32 → Int32 → Int32 → Mem → Option (Int32 × Mem)) : Nat → Nat → Int32 → Int32 → Int32 → Int32 → Int32 → Int32 → Mem → Option (Int32 × Mem)
  | 0 => fun _ _ _ _ _ _ _ _ => none
  | k + 1 => zX12_drawn_B75 KK55 (zX12_drawn_L75 KK55 k)
def zX12_drawn_B55 (KK55 : Nat → Int32 → Int32 → Int32 → Int32 → Mem → Option (Int32 × Mem)) (this : Nat) (x1 : Int32) (x2 : Int32) (x4 : Int32) (x5 : Int32) (M : Mem) : Option (Int32 × Mem) :=
  if x2 < x5 then
    some (x4, M)
  else
    bnd (zX12_oddsOf this x1 M) fun v2 M3 =>
    bnd (zX12_draw this v2 M3) fun v4 M5 =>
    zX12_drawn_L75 KK55 FU this x1 x2 x4 x5 v4 0 M5
def zX12_drawn_L55 : Nat → Nat → Int32 → Int32 → Int32 → Int32 → Mem → Option (Int32 × Mem)
  | 0 => fun _ _ _ _ _ _ => none
  | k + 1 => zX12_drawn_B55 (zX12_drawn_L55 k)
def zX12_drawn_B38 (this : Nat) (M : Mem) : Option (Int32 × Mem) :=
  bnd (zX12_fail this 2 M) fun v1 M2 =>
  some (v1, M2)
def zX12_drawn (this : Nat) (x1 : Int32) (x2 : Int32) (x3 : Int32) (M : Mem) : Option (Int32 × Mem) :=
  if K0 this = (0, 12) then
  lt (sI M this 2 0) fun M1 =>
  bnd (zX12_isGate x1 M1) fun v2 M3 =>
  if v2 = 0 then
    bnd (zX12_fail this 1 M3) fun v5 M6 =>
    some (v5, M6)
  else
    bnd (zX12_isIn x2 1 400 M3) fun v7 M8 =>
    if v7 = 0 then
      zX12_drawn_B38 this M8
    else
      if mR M8 this 3 ≠ 0 then
      if (K0 (mR M8 this 3)).1 = 1 ∧ inb x1 (K0 (mR M8 this 3)).2 = true then
      if (mI M8 (mR M8 this 3) (Int32.toNatClampNeg x1)) = 0 then
        zX12_drawn_B38 this M8
      else
        lt (sI M8 this 48 x3) fun M13 =>
        zX12_drawn_L55 FU this x1 x2 0 1 M13
      else none
      else none
  else none
set_option maxRecDepth 20000 in
set_option maxHeartbeats 4000000 in
theorem kX12_drawn_B232 (l : Launch) (E : Ev) (n : Nat) (hn : 10 ≤ n) (ct : Nat) (hct : 111 ≤ ct) (ex : Bool) (KK55 : Nat → Int32 → Int32 → Int32 → Int32 → Mem → Option (Int32 × Mem)) (hKK55 : ∀ (this : Nat) (x1 : Int32) (x2 : Int32) (x4 : Int32) (x5 : Int32) (M : Mem) (_ : K0 this = (0, 12)), AW l E fX12_drawn (fun _ => rmN n 0 0) (PQr E 0 0 ct ex enI) ct ex 0 0 55 [(0, .ref (ad E this)), (1, .int x1), (2, .int x2), (4, .int x4), (5, .int x5)] [] M (KK55 this x1 x2 x4 x5 M)) (this : Nat) (x1 : Int32) (x2 : Int32) (x4 : Int32) (x5 : Int32) (M : Mem) (hthis : K0 this = (0, 12)) : AW l E fX12_drawn (fun _ => rmN n 0 0) (PQr E 0 0 ct ex enI) ct ex 0 0 232 [(0, .ref (ad E this)), (1, .int x1), (2, .int x2), (4, .int x4), (5, .int x5)] [] M (zX12_drawn_B232 KK55 this x1 x2 x4 x5 M) := by
  unfold zX12_drawn_B232
  refine AW.iinc (pc := 232) (w := 4) [1, 2, 3, 4, 0] [(0, .ref (ad E this)), (1, .int x1), (2, .int x2), (4, .int x4), (5, .int (x5 + 1))] dX12_drawn_232 rfl (inc_1 _) (by decide) rfl ?_
  refine AW.goto (pc := 235) 55 dX12_drawn_235 (by decide) ?_
  exact hKK55 this x1 x2 x4 (x5 + 1) M hthis
set_option maxRecDepth 20000 in
set_option maxHeartbeats 4000000 in
theorem kX12_drawn_B161 (l : Launch) (E : Ev) (n : Nat) (hn : 10 ≤ n) (ct : Nat) (hct : 111 ≤ ct) (ex : Bool) (KK55 : Nat → Int32 → Int32 → Int32 → Int32 → Mem → Option (Int32 × Mem)) (hKK55 : ∀ (this : Nat) (x1 : Int32) (x2 : Int32) (x4 : Int32) (x5 : Int32) (M : Mem) (_ : K0 this = (0, 12)), AW l E fX12_drawn (fun _ => rmN n 0 0) (PQr E 0 0 ct ex enI) ct ex 0 0 55 [(0, .ref (ad E this)), (1, .int x1), (2, .int x2), (4, .int x4), (5, .int x5)] [] M (KK55 this x1 x2 x4 x5 M)) (this : Nat) (x1 : Int32) (x2 : Int32) (x4 : Int32) (x5 : Int32) (M : Mem) (hthis : K0 this = (0, 12)) : AW l E fX12_drawn (fun _ => rmN n 0 0) (PQr E 0 0 ct ex enI) ct ex 0 0 161 [(0, .ref (ad E this)), (1, .int x1), (2, .int x2), (4, .int x4), (5, .int x5)] [] M (zX12_drawn_B161 KK55 this x1 x2 x4 x5 M) := by
  unfold zX12_drawn_B161
  refine AW.iload (pc := 161) dX12_drawn_161 4 rfl ?_
  refine AW.bipush (pc := 163) dX12_drawn_163 cb_10 ?_
  refine AW.irem (pc := 165) dX12_drawn_165 (by decide) ?_
  refine AW.if_ne (pc := 166) 232 dX12_drawn_166 (by decide) (fun h1 => ?_) (fun h1 => ?_)
  · refine AW.aload_n (pc := 169) dX12_drawn_169 rfl 0 rfl ?_
    refine AW.chk (fun g2 => ?_)
    refine AW.getR (pc := 170) dX12_drawn_170 flX12_77 hthis (kct hthis rfl hct) g2 ?_
    refine AW.iload_n (pc := 173) dX12_drawn_173 rfl 1 rfl ?_
    refine AW.chk (fun g3 => ?_)
    refine AW.iald (pc := 174) dX12_drawn_174 (k0e g3.1) (kct (k0e g3.1) rfl hct) g3.2 ?_
    refine AW.aload_n (pc := 175) dX12_drawn_175 rfl 0 rfl ?_
    refine AW.chk (fun g4 => ?_)
    refine AW.getR (pc := 176) dX12_drawn_176 flX12_46 hthis (kct hthis rfl hct) g4 ?_
    refine AW.bipush (pc := 179) dX12_drawn_179 cb_7 ?_
    refine AW.iload_n (pc := 181) dX12_drawn_181 rfl 1 rfl ?_
    refine AW.imul (pc := 182) dX12_drawn_182 ?_
    refine AW.bipush (pc := 183) dX12_drawn_183 cb_6 ?_
    refine AW.iadd (pc := 185) dX12_drawn_185 ?_
    refine AW.chk (fun g5 => ?_)
    refine AW.iald (pc := 186) dX12_drawn_186 (k0e g5.1) (kct (k0e g5.1) rfl hct) g5.2 ?_
    refine AW.icmp_lt (pc := 187) 232 dX12_drawn_187 (by decide) (fun h6 => ?_) (fun h6 => ?_)
    · exact kX12_drawn_B232 l E n hn ct hct ex KK55 hKK55 this x1 x2 x4 x5 M hthis
    · refine AW.aload_n (pc := 190) dX12_drawn_190 rfl 0 rfl ?_
      refine AW.bipush (pc := 191) dX12_drawn_191 cb_100 ?_
      refine AW.cV1i (pc := 193) dX12_drawn_193 mlX12_439 mbX12_draw rfl hthis (kct hthis rfl hct) (fun _ => okR_N (by omega)) (kX12_draw l E (n - 1) (by omega) ct hct ex this 100 M) (Nat.le_of_ble_eq_true rfl) (fun v7 M8 => ?_)
      refine AW.aload_n (pc := 196) dX12_drawn_196 rfl 0 rfl ?_
      refine AW.chk (fun g9 => ?_)
      refine AW.getR (pc := 197) dX12_drawn_197 flX12_46 hthis (kct hthis rfl hct) g9 ?_
      refine AW.bipush (pc := 200) dX12_drawn_200 cb_7 ?_
      refine AW.iload_n (pc := 202) dX12_drawn_202 rfl 1 rfl ?_
      refine AW.imul (pc := 203) dX12_drawn_203 ?_
      refine AW.iconst (pc := 204) dX12_drawn_204 ci_5 ?_
      refine AW.iadd (pc := 205) dX12_drawn_205 ?_
      refine AW.chk (fun g10 => ?_)
      refine AW.iald (pc := 206) dX12_drawn_206 (k0e g10.1) (kct (k0e g10.1) rfl hct) g10.2 ?_
      refine AW.icmp_ge (pc := 207) 232 dX12_drawn_207 (by decide) (fun h11 => ?_) (fun h11 => ?_)
      · exact kX12_drawn_B232 l E n hn ct hct ex KK55 hKK55 this x1 x2 x4 x5 M8 hthis
      · refine AW.aload_n (pc := 210) dX12_drawn_210 rfl 0 rfl ?_
        refine AW.chk (fun g12 => ?_)
        refine AW.getR (pc := 211) dX12_drawn_211 flX12_80 hthis (kct hthis rfl hct) g12 ?_
        refine AW.iload_n (pc := 214) dX12_drawn_214 rfl 1 rfl ?_
        refine AW.dup2 (pc := 215) dX12_drawn_215 rfl rfl ?_
        refine AW.chk (fun g13 => ?_)
        refine AW.iald (pc := 216) dX12_drawn_216 (k0e g13.1) (kct (k0e g13.1) rfl hct) g13.2 ?_
        refine AW.aload_n (pc := 217) dX12_drawn_217 rfl 0 rfl ?_
        refine AW.chk (fun g14 => ?_)
        refine AW.getR (pc := 218) dX12_drawn_218 flX12_77 hthis (kct hthis rfl hct) g14 ?_
        refine AW.iload_n (pc := 221) dX12_drawn_221 rfl 1 rfl ?_
        refine AW.chk (fun g15 => ?_)
        refine AW.iald (pc := 222) dX12_drawn_222 (k0e g15.1) (kct (k0e g15.1) rfl hct) g15.2 ?_
        refine AW.iadd (pc := 223) dX12_drawn_223 ?_
        refine AW.chk (fun g16 => ?_)
        refine AW.iast (pc := 224) dX12_drawn_224 (k0e g13.1) (kct (k0e g13.1) rfl hct) g16 ?_
        refine AW.genM (fun M17 => ?_)
        refine AW.aload_n (pc := 225) dX12_drawn_225 rfl 0 rfl ?_
        refine AW.chk (fun g18 => ?_)
        refine AW.getR (pc := 226) dX12_drawn_226 flX12_77 hthis (kct hthis rfl hct) g18 ?_
        refine AW.iload_n (pc := 229) dX12_drawn_229 rfl 1 rfl ?_
        refine AW.iconst (pc := 230) dX12_drawn_230 ci_0 ?_
        refine AW.chk (fun g19 => ?_)
        refine AW.iast (pc := 231) dX12_drawn_231 (k0e g19.1) (kct (k0e g19.1) rfl hct) g19.2 ?_
        refine AW.genM (fun M20 => ?_)
        exact kX12_drawn_B232 l E n hn ct hct ex KK55 hKK55 this x1 x2 x4 x5 M20 hthis
  · exact kX12_drawn_B232 l E n hn ct hct ex KK55 hKK55 this x1 x2 x4 x5 M hthis
set_option maxRecDepth 20000 in
set_option maxHeartbeats 4000000 in
theorem kX12_drawn_B75 (l : Launch) (E : Ev) (n : Nat) (hn : 10 ≤ n) (ct : Nat) (hct : 111 ≤ ct) (ex : Bool) (KK55 : Nat → Int32 → Int32 → Int32 → Int32 → Mem → Option (Int32 × Mem)) (hKK55 : ∀ (this : Nat) (x1 : Int32) (x2 : Int32) (x4 : Int32) (x5 : Int32) (M : Mem) (_ : K0 this = (0, 12)), AW l E fX12_drawn (fun _ => rmN n 0 0) (PQr E 0 0 ct ex enI) ct ex 0 0 55 [(0, .ref (ad E this)), (1, .int x1), (2, .int x2), (4, .int x4), (5, .int x5)] [] M (KK55 this x1 x2 x4 x5 M)) (KK75 : Nat → Int32 → Int32 → Int32 → Int32 → Int32 → Int32 → Mem → Option (Int32 × Mem)) (hKK75 : ∀ (this : Nat) (x1 : Int32) (x2 : Int32) (x4 : Int32) (x5 : Int32) (x6 : Int32) (x7 : Int32) (M : Mem) (_ : K0 this = (0, 12)), AW l E fX12_drawn (fun _ => rmN n 0 0) (PQr E 0 0 ct ex enI) ct ex 0 0 75 [(0, .ref (ad E this)), (1, .int x1), (2, .int x2), (4, .int x4), (5, .int x5), (6, .int x6), (7, .int x7)] [] M (KK75 this x1 x2 x4 x5 x6 x7 M)) (this : Nat) (x1 : Int32) (x2 : Int32) (x4 : Int32) (x5 : Int32) (x6 : Int32) (x7 : Int32) (M : Mem) (hthis : K0 this = (0, 12)) : AW l E fX12_drawn (fun _ => rmN n 0 0) (PQr E 0 0 ct ex enI) ct ex 0 0 75 [(0, .ref (ad E this)), (1, .int x1), (2, .int x2), (4, .int x4), (5, .int x5), (6, .int x6), (7, .int x7)] [] M (zX12_drawn_B75 KK55 KK75 this x1 x2 x4 x5 x6 x7 M) := by
  unfold zX12_drawn_B75
  refine AW.iload (pc := 75) dX12_drawn_75 5 rfl ?_
  refine AW.aload_n (pc := 77) dX12_drawn_77 rfl 0 rfl ?_
  refine AW.chk (fun g1 => ?_)
  refine AW.getR (pc := 78) dX12_drawn_78 flX12_49 hthis (kct hthis rfl hct) g1 ?_
  refine AW.bipush (pc := 81) dX12_drawn_81 cb_8 ?_
  refine AW.iload_n (pc := 83) dX12_drawn_83 rfl 1 rfl ?_
  refine AW.imul (pc := 84) dX12_drawn_84 ?_
  refine AW.iload (pc := 85) dX12_drawn_85 6 rfl ?_
  refine AW.iadd (pc := 87) dX12_drawn_87 ?_
  refine AW.chk (fun g2 => ?_)
  refine AW.iald (pc := 88) dX12_drawn_88 (k0e g2.1) (kct (k0e g2.1) rfl hct) g2.2 ?_
  refine AW.icmp_lt (pc := 89) 115 dX12_drawn_89 (by decide) (fun h3 => ?_) (fun h3 => ?_)
  · refine AW.aload_n (pc := 115) dX12_drawn_115 rfl 0 rfl ?_
    refine AW.iload_n (pc := 116) dX12_drawn_116 rfl 1 rfl ?_
    refine AW.iload (pc := 117) dX12_drawn_117 6 rfl ?_
    refine AW.aload_n (pc := 119) dX12_drawn_119 rfl 0 rfl ?_
    refine AW.chk (fun g4 => ?_)
    refine AW.getR (pc := 120) dX12_drawn_120 flX12_68 hthis (kct hthis rfl hct) g4 ?_
    refine AW.iload_n (pc := 123) dX12_drawn_123 rfl 1 rfl ?_
    refine AW.chk (fun g5 => ?_)
    refine AW.iald (pc := 124) dX12_drawn_124 (k0e g5.1) (kct (k0e g5.1) rfl hct) g5.2 ?_
    refine AW.cV3i (pc := 125) dX12_drawn_125 mlX12_330 mbX12_gift rfl hthis (kct hthis rfl hct) (fun _ => okR_N (by omega)) (kX12_gift l E (n - 1) (by omega) ct hct ex this x1 x7 (mI M (mR M this 12) (Int32.toNatClampNeg x1)) M) (Nat.le_of_ble_eq_true rfl) (fun v6 M7 => ?_)
    refine AW.istore (pc := 128) [1, 2, 3, 4, 5, 0] [(0, .ref (ad E this)), (1, .int x1), (2, .int x2), (4, .int x4), (5, .int x5), (8, .int v6)] dX12_drawn_128 (by decide) rfl ?_
    refine AW.iload (pc := 130) dX12_drawn_130 5 rfl ?_
    refine AW.iconst (pc := 132) dX12_drawn_132 ci_m1 ?_
    refine AW.icmp_eq (pc := 133) 161 dX12_drawn_133 (by decide) (fun h8 => ?_) (fun h8 => ?_)
    · exact AW.sub [0, 1, 2, 3, 4] rfl (kX12_drawn_B161 l E n hn ct hct ex KK55 hKK55 this x1 x2 x4 x5 M7 hthis)
    · refine AW.aload_n (pc := 136) dX12_drawn_136 rfl 0 rfl ?_
      refine AW.iload_n (pc := 137) dX12_drawn_137 rfl 1 rfl ?_
      refine AW.iload (pc := 138) dX12_drawn_138 5 rfl ?_
      refine AW.cV2v (pc := 140) dX12_drawn_140 mlX12_413 mbX12_enter rfl hthis (kct hthis rfl hct) (fun _ => okR_N (by omega)) (kX12_enter l E (n - 1) (by omega) ct hct ex this x1 v6 M7) (Nat.le_of_ble_eq_true rfl) (fun _ M9 => ?_)
      refine AW.aload_n (pc := 143) dX12_drawn_143 rfl 0 rfl ?_
      refine AW.chk (fun g10 => ?_)
      refine AW.getR (pc := 144) dX12_drawn_144 flX12_77 hthis (kct hthis rfl hct) g10 ?_
      refine AW.iload_n (pc := 147) dX12_drawn_147 rfl 1 rfl ?_
      refine AW.dup2 (pc := 148) dX12_drawn_148 rfl rfl ?_
      refine AW.chk (fun g11 => ?_)
      refine AW.iald (pc := 149) dX12_drawn_149 (k0e g11.1) (kct (k0e g11.1) rfl hct) g11.2 ?_
      refine AW.iload (pc := 150) dX12_drawn_150 5 rfl ?_
      refine AW.iadd (pc := 152) dX12_drawn_152 ?_
      refine AW.chk (fun g12 => ?_)
      refine AW.iast (pc := 153) dX12_drawn_153 (k0e g11.1) (kct (k0e g11.1) rfl hct) g12 ?_
      refine AW.genM (fun M13 => ?_)
      refine AW.iload (pc := 154) dX12_drawn_154 3 rfl ?_
      refine AW.iload (pc := 156) dX12_drawn_156 5 rfl ?_
      refine AW.iadd (pc := 158) dX12_drawn_158 ?_
      refine AW.genI (fun v14 => ?_)
      refine AW.istore (pc := 159) [1, 2, 3, 0, 4] [(0, .ref (ad E this)), (1, .int x1), (2, .int x2), (4, .int v14), (5, .int x5)] dX12_drawn_159 (by decide) rfl ?_
      exact kX12_drawn_B161 l E n hn ct hct ex KK55 hKK55 this x1 x2 v14 x5 M13 hthis
  · refine AW.iload (pc := 92) dX12_drawn_92 5 rfl ?_
    refine AW.aload_n (pc := 94) dX12_drawn_94 rfl 0 rfl ?_
    refine AW.getR (pc := 95) dX12_drawn_95 flX12_49 hthis (kct hthis rfl hct) g1 ?_
    refine AW.bipush (pc := 98) dX12_drawn_98 cb_8 ?_
    refine AW.iload_n (pc := 100) dX12_drawn_100 rfl 1 rfl ?_
    refine AW.imul (pc := 101) dX12_drawn_101 ?_
    refine AW.iload (pc := 102) dX12_drawn_102 6 rfl ?_
    refine AW.iadd (pc := 104) dX12_drawn_104 ?_
    refine AW.chk (fun g15 => ?_)
    refine AW.iald (pc := 105) dX12_drawn_105 (k0e g2.1) (kct (k0e g2.1) rfl hct) g15 ?_
    refine AW.isub (pc := 106) dX12_drawn_106 ?_
    refine AW.genI (fun v16 => ?_)
    refine AW.istore (pc := 107) [1, 2, 3, 4, 5, 0, 6] [(0, .ref (ad E this)), (1, .int x1), (2, .int x2), (4, .int x4), (5, .int x5), (6, .int v16), (7, .int x7)] dX12_drawn_107 (by decide) rfl ?_
    refine AW.iinc (pc := 109) (w := 6) [1, 2, 3, 4, 5, 6, 0] [(0, .ref (ad E this)), (1, .int x1), (2, .int x2), (4, .int x4), (5, .int x5), (6, .int v16), (7, .int (x7 + 1))] dX12_drawn_109 rfl (inc_1 _) (by decide) rfl ?_
    refine AW.goto (pc := 112) 75 dX12_drawn_112 (by decide) ?_
    exact hKK75 this x1 x2 x4 x5 v16 (x7 + 1) M hthis
set_option maxRecDepth 20000 in
set_option maxHeartbeats 4000000 in
theorem kX12_drawn_L75 (l : Launch) (E : Ev) (n : Nat) (hn : 10 ≤ n) (ct : Nat) (hct : 111 ≤ ct) (ex : Bool) (KK55 : Nat → Int32 → Int32 → Int32 → Int32 → Mem → Option (Int32 × Mem)) (hKK55 : ∀ (this : Nat) (x1 : Int32) (x2 : Int32) (x4 : Int32) (x5 : Int32) (M : Mem) (_ : K0 this = (0, 12)), AW l E fX12_drawn (fun _ => rmN n 0 0) (PQr E 0 0 ct ex enI) ct ex 0 0 55 [(0, .ref (ad E this)), (1, .int x1), (2, .int x2), (4, .int x4), (5, .int x5)] [] M (KK55 this x1 x2 x4 x5 M)) (k : Nat) : ∀ (this : Nat) (x1 : Int32) (x2 : Int32) (x4 : Int32) (x5 : Int32) (x6 : Int32) (x7 : Int32) (M : Mem) (_ : K0 this = (0, 12)), AW l E fX12_drawn (fun _ => rmN n 0 0) (PQr E 0 0 ct ex enI) ct ex 0 0 75 [(0, .ref (ad E this)), (1, .int x1), (2, .int x2), (4, .int x4), (5, .int x5), (6, .int x6), (7, .int x7)] [] M (zX12_drawn_L75 KK55 k this x1 x2 x4 x5 x6 x7 M) := by
  induction k with
  | zero => intro this x1 x2 x4 x5 x6 x7 M _; exact AW.none
  | succ k ih =>
    intro this x1 x2 x4 x5 x6 x7 M hthis
    exact kX12_drawn_B75 l E n hn ct hct ex KK55 hKK55 (zX12_drawn_L75 KK55 k) ih this x1 x2 x4 x5 x6 x7 M hthis
set_option maxRecDepth 20000 in
set_option maxHeartbeats 4000000 in
theorem kX12_drawn_B55 (l : Launch) (E : Ev) (n : Nat) (hn : 10 ≤ n) (ct : Nat) (hct : 111 ≤ ct) (ex : Bool) (KK55 : Nat → Int32 → Int32 → Int32 → Int32 → Mem → Option (Int32 × Mem)) (hKK55 : ∀ (this : Nat) (x1 : Int32) (x2 : Int32) (x4 : Int32) (x5 : Int32) (M : Mem) (_ : K0 this = (0, 12)), AW l E fX12_drawn (fun _ => rmN n 0 0) (PQr E 0 0 ct ex enI) ct ex 0 0 55 [(0, .ref (ad E this)), (1, .int x1), (2, .int x2), (4, .int x4), (5, .int x5)] [] M (KK55 this x1 x2 x4 x5 M)) (this : Nat) (x1 : Int32) (x2 : Int32) (x4 : Int32) (x5 : Int32) (M : Mem) (hthis : K0 this = (0, 12)) : AW l E fX12_drawn (fun _ => rmN n 0 0) (PQr E 0 0 ct ex enI) ct ex 0 0 55 [(0, .ref (ad E this)), (1, .int x1), (2, .int x2), (4, .int x4), (5, .int x5)] [] M (zX12_drawn_B55 KK55 this x1 x2 x4 x5 M) := by
  unfold zX12_drawn_B55
  refine AW.iload (pc := 55) dX12_drawn_55 4 rfl ?_
  refine AW.iload_n (pc := 57) dX12_drawn_57 rfl 2 rfl ?_
  refine AW.icmp_gt (pc := 58) 238 dX12_drawn_58 (by decide) (fun h1 => ?_) (fun h1 => ?_)
  · refine AW.iload (pc := 238) dX12_drawn_238 3 rfl ?_
    exact AW.iret (pc := 240) dX12_drawn_240 rfl (fun _ _ _ => rfl) (Nat.le_refl _) (Nat.le_refl _)
  · refine AW.aload_n (pc := 61) dX12_drawn_61 rfl 0 rfl ?_
    refine AW.aload_n (pc := 62) dX12_drawn_62 rfl 0 rfl ?_
    refine AW.iload_n (pc := 63) dX12_drawn_63 rfl 1 rfl ?_
    refine AW.cV1i (pc := 64) dX12_drawn_64 mlX12_302 mbX12_oddsOf rfl hthis (kct hthis rfl hct) (fun _ => okR_N (by omega)) (kX12_oddsOf l E (n - 1) (by omega) ct hct ex this x1 M) (Nat.le_of_ble_eq_true rfl) (fun v2 M3 => ?_)
    refine AW.cV1i (pc := 67) dX12_drawn_67 mlX12_439 mbX12_draw rfl hthis (kct hthis rfl hct) (fun _ => okR_N (by omega)) (kX12_draw l E (n - 1) (by omega) ct hct ex this v2 M3) (Nat.le_of_ble_eq_true rfl) (fun v4 M5 => ?_)
    refine AW.istore (pc := 70) [1, 2, 3, 4, 5, 0] [(0, .ref (ad E this)), (1, .int x1), (2, .int x2), (4, .int x4), (5, .int x5), (6, .int v4)] dX12_drawn_70 (by decide) rfl ?_
    refine AW.iconst (pc := 72) dX12_drawn_72 ci_0 ?_
    refine AW.istore (pc := 73) [1, 2, 3, 4, 5, 6, 0] [(0, .ref (ad E this)), (1, .int x1), (2, .int x2), (4, .int x4), (5, .int x5), (6, .int v4), (7, .int 0)] dX12_drawn_73 (by decide) rfl ?_
    exact kX12_drawn_L75 l E n hn ct hct ex KK55 hKK55 FU this x1 x2 x4 x5 v4 0 M5 hthis
set_option maxRecDepth 20000 in
set_option maxHeartbeats 4000000 in
theorem kX12_drawn_L55 (l : Launch) (E : Ev) (n : Nat) (hn : 10 ≤ n) (ct : Nat) (hct : 111 ≤ ct) (ex : Bool) (k : Nat) : ∀ (this : Nat) (x1 : Int32) (x2 : Int32) (x4 : Int32) (x5 : Int32) (M : Mem) (_ : K0 this = (0, 12)), AW l E fX12_drawn (fun _ => rmN n 0 0) (PQr E 0 0 ct ex enI) ct ex 0 0 55 [(0, .ref (ad E this)), (1, .int x1), (2, .int x2), (4, .int x4), (5, .int x5)] [] M (zX12_drawn_L55 k this x1 x2 x4 x5 M) := by
  induction k with
  | zero => intro this x1 x2 x4 x5 M _; exact AW.none
  | succ k ih =>
    intro this x1 x2 x4 x5 M hthis
    exact kX12_drawn_B55 l E n hn ct hct ex (zX12_drawn_L55 k) ih this x1 x2 x4 x5 M hthis
set_option maxRecDepth 20000 in
set_option maxHeartbeats 4000000 in
theorem kX12_drawn_B38 (l : Launch) (E : Ev) (n : Nat) (hn : 10 ≤ n) (ct : Nat) (hct : 111 ≤ ct) (ex : Bool) (this : Nat) (M : Mem) (hthis : K0 this = (0, 12)) : AW l E fX12_drawn (fun _ => rmN n 0 0) (PQr E 0 0 ct ex enI) ct ex 0 0 38 [(0, .ref (ad E this))] [] M (zX12_drawn_B38 this M) := by
  unfold zX12_drawn_B38
  refine AW.aload_n (pc := 38) dX12_drawn_38 rfl 0 rfl ?_
  refine AW.iconst (pc := 39) dX12_drawn_39 ci_2 ?_
  refine AW.cV1i (pc := 40) dX12_drawn_40 mlX12_289 mbX12_fail rfl hthis (kct hthis rfl hct) (fun _ => okR_N (by omega)) (kX12_fail l E (n - 1) (by omega) ct hct ex this 2 M) (Nat.le_of_ble_eq_true rfl) (fun v1 M2 => ?_)
  exact AW.iret (pc := 43) dX12_drawn_43 rfl (fun _ _ _ => rfl) (Nat.le_refl _) (Nat.le_refl _)
set_option maxRecDepth 20000 in
set_option maxHeartbeats 4000000 in
theorem kX12_drawn (l : Launch) (E : Ev) (n : Nat) (hn : 10 ≤ n) (ct : Nat) (hct : 111 ≤ ct) (ex : Bool) (this : Nat) (x1 : Int32) (x2 : Int32) (x3 : Int32) (M : Mem) : AM l E n ct ex yX12_drawn fX12_drawn enI [.ref (ad E this), .int x1, .int x2, .int x3] M (zX12_drawn this x1 x2 x3 M) := by
  unfold zX12_drawn
  refine AM.of (by decide +kernel) ⟨rfl, rfl, rfl⟩ (Nat.le_of_ble_eq_true rfl) ?_
  refine AW.chk (fun hthis => ?_)
  refine AW.aload_n (pc := 0) dX12_drawn_0 rfl 0 rfl ?_
  refine AW.iconst (pc := 1) dX12_drawn_1 ci_0 ?_
  refine AW.putI (pc := 2) dX12_drawn_2 flX12_159 hthis (kct hthis rfl hct) ?_
  refine AW.genM (fun M1 => ?_)
  refine AW.iload_n (pc := 5) dX12_drawn_5 rfl 1 rfl ?_
  refine AW.cS1i (pc := 6) dX12_drawn_6 mlX12_166 mbX12_isGate (fun _ => okR_N (by omega)) (kX12_isGate l E (n - 1) (by omega) ct hct ex x1 M1) (Nat.le_of_ble_eq_true rfl) (fun v2 M3 => ?_)
  refine AW.if_ne (pc := 9) 18 dX12_drawn_9 (by decide) (fun h4 => ?_) (fun h4 => ?_)
  · refine AW.aload_n (pc := 12) dX12_drawn_12 rfl 0 rfl ?_
    refine AW.iconst (pc := 13) dX12_drawn_13 ci_1 ?_
    refine AW.cV1i (pc := 14) dX12_drawn_14 mlX12_289 mbX12_fail rfl hthis (kct hthis rfl hct) (fun _ => okR_N (by omega)) (kX12_fail l E (n - 1) (by omega) ct hct ex this 1 M3) (Nat.le_of_ble_eq_true rfl) (fun v5 M6 => ?_)
    exact AW.iret (pc := 17) dX12_drawn_17 rfl (fun _ _ _ => rfl) (Nat.le_refl _) (Nat.le_refl _)
  · refine AW.iload_n (pc := 18) dX12_drawn_18 rfl 2 rfl ?_
    refine AW.iconst (pc := 19) dX12_drawn_19 ci_1 ?_
    refine AW.sipush (pc := 20) dX12_drawn_20 cs_400 ?_
    refine AW.cS3i (pc := 23) dX12_drawn_23 mlX12_162 mbX12_isIn (fun _ => okR_N (by omega)) (kX12_isIn l E (n - 1) (by omega) ct hct ex x2 1 400 M3) (Nat.le_of_ble_eq_true rfl) (fun v7 M8 => ?_)
    refine AW.if_eq (pc := 26) 38 dX12_drawn_26 (by decide) (fun h9 => ?_) (fun h9 => ?_)
    · exact AW.sub [0] rfl (kX12_drawn_B38 l E n hn ct hct ex this M8 hthis)
    · refine AW.aload_n (pc := 29) dX12_drawn_29 rfl 0 rfl ?_
      refine AW.chk (fun g10 => ?_)
      refine AW.getR (pc := 30) dX12_drawn_30 flX12_42 hthis (kct hthis rfl hct) g10 ?_
      refine AW.iload_n (pc := 33) dX12_drawn_33 rfl 1 rfl ?_
      refine AW.chk (fun g11 => ?_)
      refine AW.iald (pc := 34) dX12_drawn_34 (k0e g11.1) (kct (k0e g11.1) rfl hct) g11.2 ?_
      refine AW.if_ne (pc := 35) 44 dX12_drawn_35 (by decide) (fun h12 => ?_) (fun h12 => ?_)
      · exact AW.sub [0] rfl (kX12_drawn_B38 l E n hn ct hct ex this M8 hthis)
      · refine AW.aload_n (pc := 44) dX12_drawn_44 rfl 0 rfl ?_
        refine AW.iload_n (pc := 45) dX12_drawn_45 rfl 3 rfl ?_
        refine AW.putI (pc := 46) dX12_drawn_46 flX12_435 hthis (kct hthis rfl hct) ?_
        refine AW.genM (fun M13 => ?_)
        refine AW.iconst (pc := 49) dX12_drawn_49 ci_0 ?_
        refine AW.istore (pc := 50) [1, 2, 3, 0] [(0, .ref (ad E this)), (1, .int x1), (2, .int x2), (4, .int 0)] dX12_drawn_50 (by decide) rfl ?_
        refine AW.iconst (pc := 52) dX12_drawn_52 ci_1 ?_
        refine AW.istore (pc := 53) [1, 2, 3, 4, 0] [(0, .ref (ad E this)), (1, .int x1), (2, .int x2), (4, .int 0), (5, .int 1)] dX12_drawn_53 (by decide) rfl ?_
        exact kX12_drawn_L55 l E n hn ct hct ex FU this x1 x2 0 1 M13 hthis
-- GateBoxModel.empty(I)I
def zX12_empty (this : Nat) (x1 : Int32) (M : Mem) : Option (Int32 × Mem) :=
  if K0 this = (0, 12) then
  lt (sI M this 2 0) fun M1 =>
  bnd (zX12_isGate x1 M1) fun v2 M3 =>
  if v2 = 0 then
    bnd (zX12_fail this 1 M3) fun v5 M6 =>
    some (v5, M6)
  else
    if mR M3 this 15 ≠ 0 then
    if (K0 (mR M3 this 15)).1 = 1 ∧ inb x1 (K0 (mR M3 this 15)).2 = true then
    lt (mI M3 (mR M3 this 15) (Int32.toNatClampNeg x1)) fun v9 =>
    if inb x1 (K0 (mR M3 this 15)).2 = true then
    lt (sI M3 (mR M3 this 15) (Int32.toNatClampNeg x1) 0) fun M11 =>
    some (v9, M11)
    else none
    else none
    else none
  else none
set_option maxRecDepth 20000 in
set_option maxHeartbeats 4000000 in
theorem kX12_empty (l : Launch) (E : Ev) (n : Nat) (hn : 3 ≤ n) (ct : Nat) (hct : 111 ≤ ct) (ex : Bool) (this : Nat) (x1 : Int32) (M : Mem) : AM l E n ct ex yX12_empty fX12_empty enI [.ref (ad E this), .int x1] M (zX12_empty this x1 M) := by
  unfold zX12_empty
  refine AM.of (by decide +kernel) ⟨rfl, rfl, rfl⟩ (Nat.le_of_ble_eq_true rfl) ?_
  refine AW.chk (fun hthis => ?_)
  refine AW.aload_n (pc := 0) dX12_empty_0 rfl 0 rfl ?_
  refine AW.iconst (pc := 1) dX12_empty_1 ci_0 ?_
  refine AW.putI (pc := 2) dX12_empty_2 flX12_159 hthis (kct hthis rfl hct) ?_
  refine AW.genM (fun M1 => ?_)
  refine AW.iload_n (pc := 5) dX12_empty_5 rfl 1 rfl ?_
  refine AW.cS1i (pc := 6) dX12_empty_6 mlX12_166 mbX12_isGate (fun _ => okR_N (by omega)) (kX12_isGate l E (n - 1) (by omega) ct hct ex x1 M1) (Nat.le_of_ble_eq_true rfl) (fun v2 M3 => ?_)
  refine AW.if_ne (pc := 9) 18 dX12_empty_9 (by decide) (fun h4 => ?_) (fun h4 => ?_)
  · refine AW.aload_n (pc := 12) dX12_empty_12 rfl 0 rfl ?_
    refine AW.iconst (pc := 13) dX12_empty_13 ci_1 ?_
    refine AW.cV1i (pc := 14) dX12_empty_14 mlX12_289 mbX12_fail rfl hthis (kct hthis rfl hct) (fun _ => okR_N (by omega)) (kX12_fail l E (n - 1) (by omega) ct hct ex this 1 M3) (Nat.le_of_ble_eq_true rfl) (fun v5 M6 => ?_)
    exact AW.iret (pc := 17) dX12_empty_17 rfl (fun _ _ _ => rfl) (Nat.le_refl _) (Nat.le_refl _)
  · refine AW.aload_n (pc := 18) dX12_empty_18 rfl 0 rfl ?_
    refine AW.chk (fun g7 => ?_)
    refine AW.getR (pc := 19) dX12_empty_19 flX12_77 hthis (kct hthis rfl hct) g7 ?_
    refine AW.iload_n (pc := 22) dX12_empty_22 rfl 1 rfl ?_
    refine AW.chk (fun g8 => ?_)
    refine AW.iald (pc := 23) dX12_empty_23 (k0e g8.1) (kct (k0e g8.1) rfl hct) g8.2 ?_
    refine AW.genI (fun v9 => ?_)
    refine AW.istore_n (pc := 24) [1, 2, 0] [(0, .ref (ad E this)), (1, .int x1), (2, .int v9)] dX12_empty_24 rfl (by decide) rfl ?_
    refine AW.aload_n (pc := 25) dX12_empty_25 rfl 0 rfl ?_
    refine AW.getR (pc := 26) dX12_empty_26 flX12_77 hthis (kct hthis rfl hct) g7 ?_
    refine AW.iload_n (pc := 29) dX12_empty_29 rfl 1 rfl ?_
    refine AW.iconst (pc := 30) dX12_empty_30 ci_0 ?_
    refine AW.chk (fun g10 => ?_)
    refine AW.iast (pc := 31) dX12_empty_31 (k0e g8.1) (kct (k0e g8.1) rfl hct) g10 ?_
    refine AW.genM (fun M11 => ?_)
    refine AW.iload_n (pc := 32) dX12_empty_32 rfl 2 rfl ?_
    exact AW.iret (pc := 33) dX12_empty_33 rfl (fun _ _ _ => rfl) (Nat.le_refl _) (Nat.le_refl _)
-- GateBoxModel.be([I[I)V
def zX12_be_B2 (KK2 : Nat → Nat → Int32 → Mem → Option (Unit × Mem)) (x0 : Nat) (x1 : Nat) (x2 : Int32) (M : Mem) : Option (Unit × Mem) :=
  if (K0 x0).1 = 1 then
  if (Int32.ofNat (K0 x0).2) ≤ x2 then
    some ((), M)
  else
    if (K0 x1).1 = 1 ∧ inb x2 (K0 x1).2 = true then
    if inb x2 (K0 x0).2 = true then
    lt (sI M x0 (Int32.toNatClampNeg x2) (mI M x1 (Int32.toNatClampNeg x2))) fun M5 =>
    KK2 x0 x1 (x2 + 1) M5
    else none
    else none
  else none
def zX12_be_L2 : Nat → Nat → Nat → Int32 → Mem → Option (Unit × Mem)
  | 0 => fun _ _ _ _ => none
  | k + 1 => zX12_be_B2 (zX12_be_L2 k)
def zX12_be (x0 : Nat) (x1 : Nat) (M : Mem) : Option (Unit × Mem) :=
  zX12_be_L2 FU x0 x1 0 M
set_option maxRecDepth 20000 in
set_option maxHeartbeats 4000000 in
theorem kX12_be_B2 (l : Launch) (E : Ev) (n : Nat) (hn : 1 ≤ n) (ct : Nat) (hct : 111 ≤ ct) (ex : Bool) (KK2 : Nat → Nat → Int32 → Mem → Option (Unit × Mem)) (hKK2 : ∀ (x0 : Nat) (x1 : Nat) (x2 : Int32) (M : Mem), AW l E fX12_be (fun _ => rmN n 0 0) (PQr E 0 0 ct ex enU) ct ex 0 0 2 [(0, .ref (ad E x0)), (1, .ref (ad E x1)), (2, .int x2)] [] M (KK2 x0 x1 x2 M)) (x0 : Nat) (x1 : Nat) (x2 : Int32) (M : Mem) : AW l E fX12_be (fun _ => rmN n 0 0) (PQr E 0 0 ct ex enU) ct ex 0 0 2 [(0, .ref (ad E x0)), (1, .ref (ad E x1)), (2, .int x2)] [] M (zX12_be_B2 KK2 x0 x1 x2 M) := by
  unfold zX12_be_B2
  refine AW.iload_n (pc := 2) dX12_be_2 rfl 2 rfl ?_
  refine AW.aload_n (pc := 3) dX12_be_3 rfl 0 rfl ?_
  refine AW.chk (fun g1 => ?_)
  refine AW.alen (pc := 4) dX12_be_4 (k0e g1) (by decide) (kct (k0e g1) rfl hct) rfl ?_
  refine AW.icmp_ge (pc := 5) 20 dX12_be_5 (by decide) (fun h2 => ?_) (fun h2 => ?_)
  · exact AW.vret (pc := 20) dX12_be_20 rfl (fun _ _ _ => rfl) (Nat.le_refl _) (Nat.le_refl _)
  · refine AW.aload_n (pc := 8) dX12_be_8 rfl 0 rfl ?_
    refine AW.iload_n (pc := 9) dX12_be_9 rfl 2 rfl ?_
    refine AW.aload_n (pc := 10) dX12_be_10 rfl 1 rfl ?_
    refine AW.iload_n (pc := 11) dX12_be_11 rfl 2 rfl ?_
    refine AW.chk (fun g3 => ?_)
    refine AW.iald (pc := 12) dX12_be_12 (k0e g3.1) (kct (k0e g3.1) rfl hct) g3.2 ?_
    refine AW.chk (fun g4 => ?_)
    refine AW.iast (pc := 13) dX12_be_13 (k0e g1) (kct (k0e g1) rfl hct) g4 ?_
    refine AW.genM (fun M5 => ?_)
    refine AW.iinc (pc := 14) (w := 2) [1, 2, 0] [(0, .ref (ad E x0)), (1, .ref (ad E x1)), (2, .int (x2 + 1))] dX12_be_14 rfl (inc_1 _) (by decide) rfl ?_
    refine AW.goto (pc := 17) 2 dX12_be_17 (by decide) ?_
    exact hKK2 x0 x1 (x2 + 1) M5
set_option maxRecDepth 20000 in
set_option maxHeartbeats 4000000 in
theorem kX12_be_L2 (l : Launch) (E : Ev) (n : Nat) (hn : 1 ≤ n) (ct : Nat) (hct : 111 ≤ ct) (ex : Bool) (k : Nat) : ∀ (x0 : Nat) (x1 : Nat) (x2 : Int32) (M : Mem), AW l E fX12_be (fun _ => rmN n 0 0) (PQr E 0 0 ct ex enU) ct ex 0 0 2 [(0, .ref (ad E x0)), (1, .ref (ad E x1)), (2, .int x2)] [] M (zX12_be_L2 k x0 x1 x2 M) := by
  induction k with
  | zero => intro x0 x1 x2 M; exact AW.none
  | succ k ih =>
    intro x0 x1 x2 M
    exact kX12_be_B2 l E n hn ct hct ex (zX12_be_L2 k) ih x0 x1 x2 M
set_option maxRecDepth 20000 in
set_option maxHeartbeats 4000000 in
theorem kX12_be (l : Launch) (E : Ev) (n : Nat) (hn : 1 ≤ n) (ct : Nat) (hct : 111 ≤ ct) (ex : Bool) (x0 : Nat) (x1 : Nat) (M : Mem) : AM l E n ct ex yX12_be fX12_be enU [.ref (ad E x0), .ref (ad E x1)] M (zX12_be x0 x1 M) := by
  unfold zX12_be
  refine AM.of (by decide +kernel) ⟨rfl, rfl, rfl⟩ (Nat.le_of_ble_eq_true rfl) ?_
  refine AW.iconst (pc := 0) dX12_be_0 ci_0 ?_
  refine AW.istore_n (pc := 1) [1, 2, 0] [(0, .ref (ad E x0)), (1, .ref (ad E x1)), (2, .int 0)] dX12_be_1 rfl (by decide) rfl ?_
  exact kX12_be_L2 l E n hn ct hct ex FU x0 x1 0 M
-- GateBoxModel.image()V
def zX12_image (this : Nat) (M : Mem) : Option (Unit × Mem) :=
  if K0 this = (0, 12) then
  lt (sI M this 2 0) fun M1 =>
  lt (sI M1 this 49 1) fun M2 =>
  if mR M2 this 50 ≠ 0 then
  if mR M2 this 11 ≠ 0 then
  bnd (zX12_be (mR M2 this 50) (mR M2 this 11) M2) fun _ M5 =>
  if mR M5 this 51 ≠ 0 then
  if mR M5 this 12 ≠ 0 then
  bnd (zX12_be (mR M5 this 51) (mR M5 this 12) M5) fun _ M8 =>
  if mR M8 this 52 ≠ 0 then
  if mR M8 this 13 ≠ 0 then
  bnd (zX12_be (mR M8 this 52) (mR M8 this 13) M8) fun _ M11 =>
  if mR M11 this 53 ≠ 0 then
  if mR M11 this 14 ≠ 0 then
  bnd (zX12_be (mR M11 this 53) (mR M11 this 14) M11) fun _ M14 =>
  if mR M14 this 54 ≠ 0 then
  if mR M14 this 15 ≠ 0 then
  bnd (zX12_be (mR M14 this 54) (mR M14 this 15) M14) fun _ M17 =>
  if mR M17 this 55 ≠ 0 then
  if mR M17 this 16 ≠ 0 then
  bnd (zX12_be (mR M17 this 55) (mR M17 this 16) M17) fun _ M20 =>
  if mR M20 this 56 ≠ 0 then
  if mR M20 this 17 ≠ 0 then
  bnd (zX12_be (mR M20 this 56) (mR M20 this 17) M20) fun _ M23 =>
  if mR M23 this 57 ≠ 0 then
  if mR M23 this 18 ≠ 0 then
  bnd (zX12_be (mR M23 this 57) (mR M23 this 18) M23) fun _ M26 =>
  some ((), M26)
  else none
  else none
  else none
  else none
  else none
  else none
  else none
  else none
  else none
  else none
  else none
  else none
  else none
  else none
  else none
  else none
  else none
set_option maxRecDepth 20000 in
set_option maxHeartbeats 4000000 in
theorem kX12_image (l : Launch) (E : Ev) (n : Nat) (hn : 2 ≤ n) (ct : Nat) (hct : 111 ≤ ct) (ex : Bool) (this : Nat) (M : Mem) : AM l E n ct ex yX12_image fX12_image enU [.ref (ad E this)] M (zX12_image this M) := by
  unfold zX12_image
  refine AM.of (by decide +kernel) ⟨rfl, rfl, rfl⟩ (Nat.le_of_ble_eq_true rfl) ?_
  refine AW.chk (fun hthis => ?_)
  refine AW.aload_n (pc := 0) dX12_image_0 rfl 0 rfl ?_
  refine AW.iconst (pc := 1) dX12_image_1 ci_0 ?_
  refine AW.putI (pc := 2) dX12_image_2 flX12_159 hthis (kct hthis rfl hct) ?_
  refine AW.genM (fun M1 => ?_)
  refine AW.aload_n (pc := 5) dX12_image_5 rfl 0 rfl ?_
  refine AW.iconst (pc := 6) dX12_image_6 ci_1 ?_
  refine AW.putZ (pc := 7) dX12_image_7 flX12_298 hthis (kct hthis rfl hct) (Or.inr rfl) ?_
  refine AW.genM (fun M2 => ?_)
  refine AW.aload_n (pc := 10) dX12_image_10 rfl 0 rfl ?_
  refine AW.chk (fun g3 => ?_)
  refine AW.getR (pc := 11) dX12_image_11 flX12_131 hthis (kct hthis rfl hct) g3 ?_
  refine AW.aload_n (pc := 14) dX12_image_14 rfl 0 rfl ?_
  refine AW.chk (fun g4 => ?_)
  refine AW.getR (pc := 15) dX12_image_15 flX12_65 hthis (kct hthis rfl hct) g4 ?_
  refine AW.cS2v (pc := 18) dX12_image_18 mlX12_442 mbX12_be (fun _ => okR_N (by omega)) (kX12_be l E (n - 1) (by omega) ct hct ex (mR M2 this 50) (mR M2 this 11) M2) (Nat.le_of_ble_eq_true rfl) (fun _ M5 => ?_)
  refine AW.aload_n (pc := 21) dX12_image_21 rfl 0 rfl ?_
  refine AW.chk (fun g6 => ?_)
  refine AW.getR (pc := 22) dX12_image_22 flX12_134 hthis (kct hthis rfl hct) g6 ?_
  refine AW.aload_n (pc := 25) dX12_image_25 rfl 0 rfl ?_
  refine AW.chk (fun g7 => ?_)
  refine AW.getR (pc := 26) dX12_image_26 flX12_68 hthis (kct hthis rfl hct) g7 ?_
  refine AW.cS2v (pc := 29) dX12_image_29 mlX12_442 mbX12_be (fun _ => okR_N (by omega)) (kX12_be l E (n - 1) (by omega) ct hct ex (mR M5 this 51) (mR M5 this 12) M5) (Nat.le_of_ble_eq_true rfl) (fun _ M8 => ?_)
  refine AW.aload_n (pc := 32) dX12_image_32 rfl 0 rfl ?_
  refine AW.chk (fun g9 => ?_)
  refine AW.getR (pc := 33) dX12_image_33 flX12_137 hthis (kct hthis rfl hct) g9 ?_
  refine AW.aload_n (pc := 36) dX12_image_36 rfl 0 rfl ?_
  refine AW.chk (fun g10 => ?_)
  refine AW.getR (pc := 37) dX12_image_37 flX12_71 hthis (kct hthis rfl hct) g10 ?_
  refine AW.cS2v (pc := 40) dX12_image_40 mlX12_442 mbX12_be (fun _ => okR_N (by omega)) (kX12_be l E (n - 1) (by omega) ct hct ex (mR M8 this 52) (mR M8 this 13) M8) (Nat.le_of_ble_eq_true rfl) (fun _ M11 => ?_)
  refine AW.aload_n (pc := 43) dX12_image_43 rfl 0 rfl ?_
  refine AW.chk (fun g12 => ?_)
  refine AW.getR (pc := 44) dX12_image_44 flX12_140 hthis (kct hthis rfl hct) g12 ?_
  refine AW.aload_n (pc := 47) dX12_image_47 rfl 0 rfl ?_
  refine AW.chk (fun g13 => ?_)
  refine AW.getR (pc := 48) dX12_image_48 flX12_74 hthis (kct hthis rfl hct) g13 ?_
  refine AW.cS2v (pc := 51) dX12_image_51 mlX12_442 mbX12_be (fun _ => okR_N (by omega)) (kX12_be l E (n - 1) (by omega) ct hct ex (mR M11 this 53) (mR M11 this 14) M11) (Nat.le_of_ble_eq_true rfl) (fun _ M14 => ?_)
  refine AW.aload_n (pc := 54) dX12_image_54 rfl 0 rfl ?_
  refine AW.chk (fun g15 => ?_)
  refine AW.getR (pc := 55) dX12_image_55 flX12_143 hthis (kct hthis rfl hct) g15 ?_
  refine AW.aload_n (pc := 58) dX12_image_58 rfl 0 rfl ?_
  refine AW.chk (fun g16 => ?_)
  refine AW.getR (pc := 59) dX12_image_59 flX12_77 hthis (kct hthis rfl hct) g16 ?_
  refine AW.cS2v (pc := 62) dX12_image_62 mlX12_442 mbX12_be (fun _ => okR_N (by omega)) (kX12_be l E (n - 1) (by omega) ct hct ex (mR M14 this 54) (mR M14 this 15) M14) (Nat.le_of_ble_eq_true rfl) (fun _ M17 => ?_)
  refine AW.aload_n (pc := 65) dX12_image_65 rfl 0 rfl ?_
  refine AW.chk (fun g18 => ?_)
  refine AW.getR (pc := 66) dX12_image_66 flX12_146 hthis (kct hthis rfl hct) g18 ?_
  refine AW.aload_n (pc := 69) dX12_image_69 rfl 0 rfl ?_
  refine AW.chk (fun g19 => ?_)
  refine AW.getR (pc := 70) dX12_image_70 flX12_80 hthis (kct hthis rfl hct) g19 ?_
  refine AW.cS2v (pc := 73) dX12_image_73 mlX12_442 mbX12_be (fun _ => okR_N (by omega)) (kX12_be l E (n - 1) (by omega) ct hct ex (mR M17 this 55) (mR M17 this 16) M17) (Nat.le_of_ble_eq_true rfl) (fun _ M20 => ?_)
  refine AW.aload_n (pc := 76) dX12_image_76 rfl 0 rfl ?_
  refine AW.chk (fun g21 => ?_)
  refine AW.getR (pc := 77) dX12_image_77 flX12_149 hthis (kct hthis rfl hct) g21 ?_
  refine AW.aload_n (pc := 80) dX12_image_80 rfl 0 rfl ?_
  refine AW.chk (fun g22 => ?_)
  refine AW.getR (pc := 81) dX12_image_81 flX12_83 hthis (kct hthis rfl hct) g22 ?_
  refine AW.cS2v (pc := 84) dX12_image_84 mlX12_442 mbX12_be (fun _ => okR_N (by omega)) (kX12_be l E (n - 1) (by omega) ct hct ex (mR M20 this 56) (mR M20 this 17) M20) (Nat.le_of_ble_eq_true rfl) (fun _ M23 => ?_)
  refine AW.aload_n (pc := 87) dX12_image_87 rfl 0 rfl ?_
  refine AW.chk (fun g24 => ?_)
  refine AW.getR (pc := 88) dX12_image_88 flX12_152 hthis (kct hthis rfl hct) g24 ?_
  refine AW.aload_n (pc := 91) dX12_image_91 rfl 0 rfl ?_
  refine AW.chk (fun g25 => ?_)
  refine AW.getR (pc := 92) dX12_image_92 flX12_86 hthis (kct hthis rfl hct) g25 ?_
  refine AW.cS2v (pc := 95) dX12_image_95 mlX12_442 mbX12_be (fun _ => okR_N (by omega)) (kX12_be l E (n - 1) (by omega) ct hct ex (mR M23 this 57) (mR M23 this 18) M23) (Nat.le_of_ble_eq_true rfl) (fun _ M26 => ?_)
  exact AW.vret (pc := 98) dX12_image_98 rfl (fun _ _ _ => rfl) (Nat.le_refl _) (Nat.le_refl _)
-- GateBoxModel.restore()Z
def zX12_restore (this : Nat) (M : Mem) : Option (Int32 × Mem) :=
  if K0 this = (0, 12) then
  lt (sI M this 2 0) fun M1 =>
  if (mI M1 this 49) = 0 then
    some (0, M1)
  else
    if mR M1 this 11 ≠ 0 then
    if mR M1 this 50 ≠ 0 then
    bnd (zX12_be (mR M1 this 11) (mR M1 this 50) M1) fun _ M5 =>
    if mR M5 this 12 ≠ 0 then
    if mR M5 this 51 ≠ 0 then
    bnd (zX12_be (mR M5 this 12) (mR M5 this 51) M5) fun _ M8 =>
    if mR M8 this 13 ≠ 0 then
    if mR M8 this 52 ≠ 0 then
    bnd (zX12_be (mR M8 this 13) (mR M8 this 52) M8) fun _ M11 =>
    if mR M11 this 14 ≠ 0 then
    if mR M11 this 53 ≠ 0 then
    bnd (zX12_be (mR M11 this 14) (mR M11 this 53) M11) fun _ M14 =>
    if mR M14 this 15 ≠ 0 then
    if mR M14 this 54 ≠ 0 then
    bnd (zX12_be (mR M14 this 15) (mR M14 this 54) M14) fun _ M17 =>
    if mR M17 this 16 ≠ 0 then
    if mR M17 this 55 ≠ 0 then
    bnd (zX12_be (mR M17 this 16) (mR M17 this 55) M17) fun _ M20 =>
    if mR M20 this 17 ≠ 0 then
    if mR M20 this 56 ≠ 0 then
    bnd (zX12_be (mR M20 this 17) (mR M20 this 56) M20) fun _ M23 =>
    if mR M23 this 18 ≠ 0 then
    if mR M23 this 57 ≠ 0 then
    bnd (zX12_be (mR M23 this 18) (mR M23 this 57) M23) fun _ M26 =>
    some (1, M26)
    else none
    else none
    else none
    else none
    else none
    else none
    else none
    else none
    else none
    else none
    else none
    else none
    else none
    else none
    else none
    else none
  else none
set_option maxRecDepth 20000 in
set_option maxHeartbeats 4000000 in
theorem kX12_restore (l : Launch) (E : Ev) (n : Nat) (hn : 2 ≤ n) (ct : Nat) (hct : 111 ≤ ct) (ex : Bool) (this : Nat) (M : Mem) : AM l E n ct ex yX12_restore fX12_restore enI [.ref (ad E this)] M (zX12_restore this M) := by
  unfold zX12_restore
  refine AM.of (by decide +kernel) ⟨rfl, rfl, rfl⟩ (Nat.le_of_ble_eq_true rfl) ?_
  refine AW.chk (fun hthis => ?_)
  refine AW.aload_n (pc := 0) dX12_restore_0 rfl 0 rfl ?_
  refine AW.iconst (pc := 1) dX12_restore_1 ci_0 ?_
  refine AW.putI (pc := 2) dX12_restore_2 flX12_159 hthis (kct hthis rfl hct) ?_
  refine AW.genM (fun M1 => ?_)
  refine AW.aload_n (pc := 5) dX12_restore_5 rfl 0 rfl ?_
  refine AW.getZ (pc := 6) dX12_restore_6 flX12_298 hthis (kct hthis rfl hct) ?_
  refine AW.if_ne (pc := 9) 14 dX12_restore_9 (by decide) (fun h2 => ?_) (fun h2 => ?_)
  · refine AW.iconst (pc := 12) dX12_restore_12 ci_0 ?_
    exact AW.zret (pc := 13) dX12_restore_13 rfl (Or.inl rfl) (fun _ _ _ => rfl) (Nat.le_refl _) (Nat.le_refl _)
  · refine AW.aload_n (pc := 14) dX12_restore_14 rfl 0 rfl ?_
    refine AW.chk (fun g3 => ?_)
    refine AW.getR (pc := 15) dX12_restore_15 flX12_65 hthis (kct hthis rfl hct) g3 ?_
    refine AW.aload_n (pc := 18) dX12_restore_18 rfl 0 rfl ?_
    refine AW.chk (fun g4 => ?_)
    refine AW.getR (pc := 19) dX12_restore_19 flX12_131 hthis (kct hthis rfl hct) g4 ?_
    refine AW.cS2v (pc := 22) dX12_restore_22 mlX12_442 mbX12_be (fun _ => okR_N (by omega)) (kX12_be l E (n - 1) (by omega) ct hct ex (mR M1 this 11) (mR M1 this 50) M1) (Nat.le_of_ble_eq_true rfl) (fun _ M5 => ?_)
    refine AW.aload_n (pc := 25) dX12_restore_25 rfl 0 rfl ?_
    refine AW.chk (fun g6 => ?_)
    refine AW.getR (pc := 26) dX12_restore_26 flX12_68 hthis (kct hthis rfl hct) g6 ?_
    refine AW.aload_n (pc := 29) dX12_restore_29 rfl 0 rfl ?_
    refine AW.chk (fun g7 => ?_)
    refine AW.getR (pc := 30) dX12_restore_30 flX12_134 hthis (kct hthis rfl hct) g7 ?_
    refine AW.cS2v (pc := 33) dX12_restore_33 mlX12_442 mbX12_be (fun _ => okR_N (by omega)) (kX12_be l E (n - 1) (by omega) ct hct ex (mR M5 this 12) (mR M5 this 51) M5) (Nat.le_of_ble_eq_true rfl) (fun _ M8 => ?_)
    refine AW.aload_n (pc := 36) dX12_restore_36 rfl 0 rfl ?_
    refine AW.chk (fun g9 => ?_)
    refine AW.getR (pc := 37) dX12_restore_37 flX12_71 hthis (kct hthis rfl hct) g9 ?_
    refine AW.aload_n (pc := 40) dX12_restore_40 rfl 0 rfl ?_
    refine AW.chk (fun g10 => ?_)
    refine AW.getR (pc := 41) dX12_restore_41 flX12_137 hthis (kct hthis rfl hct) g10 ?_
    refine AW.cS2v (pc := 44) dX12_restore_44 mlX12_442 mbX12_be (fun _ => okR_N (by omega)) (kX12_be l E (n - 1) (by omega) ct hct ex (mR M8 this 13) (mR M8 this 52) M8) (Nat.le_of_ble_eq_true rfl) (fun _ M11 => ?_)
    refine AW.aload_n (pc := 47) dX12_restore_47 rfl 0 rfl ?_
    refine AW.chk (fun g12 => ?_)
    refine AW.getR (pc := 48) dX12_restore_48 flX12_74 hthis (kct hthis rfl hct) g12 ?_
    refine AW.aload_n (pc := 51) dX12_restore_51 rfl 0 rfl ?_
    refine AW.chk (fun g13 => ?_)
    refine AW.getR (pc := 52) dX12_restore_52 flX12_140 hthis (kct hthis rfl hct) g13 ?_
    refine AW.cS2v (pc := 55) dX12_restore_55 mlX12_442 mbX12_be (fun _ => okR_N (by omega)) (kX12_be l E (n - 1) (by omega) ct hct ex (mR M11 this 14) (mR M11 this 53) M11) (Nat.le_of_ble_eq_true rfl) (fun _ M14 => ?_)
    refine AW.aload_n (pc := 58) dX12_restore_58 rfl 0 rfl ?_
    refine AW.chk (fun g15 => ?_)
    refine AW.getR (pc := 59) dX12_restore_59 flX12_77 hthis (kct hthis rfl hct) g15 ?_
    refine AW.aload_n (pc := 62) dX12_restore_62 rfl 0 rfl ?_
    refine AW.chk (fun g16 => ?_)
    refine AW.getR (pc := 63) dX12_restore_63 flX12_143 hthis (kct hthis rfl hct) g16 ?_
    refine AW.cS2v (pc := 66) dX12_restore_66 mlX12_442 mbX12_be (fun _ => okR_N (by omega)) (kX12_be l E (n - 1) (by omega) ct hct ex (mR M14 this 15) (mR M14 this 54) M14) (Nat.le_of_ble_eq_true rfl) (fun _ M17 => ?_)
    refine AW.aload_n (pc := 69) dX12_restore_69 rfl 0 rfl ?_
    refine AW.chk (fun g18 => ?_)
    refine AW.getR (pc := 70) dX12_restore_70 flX12_80 hthis (kct hthis rfl hct) g18 ?_
    refine AW.aload_n (pc := 73) dX12_restore_73 rfl 0 rfl ?_
    refine AW.chk (fun g19 => ?_)
    refine AW.getR (pc := 74) dX12_restore_74 flX12_146 hthis (kct hthis rfl hct) g19 ?_
    refine AW.cS2v (pc := 77) dX12_restore_77 mlX12_442 mbX12_be (fun _ => okR_N (by omega)) (kX12_be l E (n - 1) (by omega) ct hct ex (mR M17 this 16) (mR M17 this 55) M17) (Nat.le_of_ble_eq_true rfl) (fun _ M20 => ?_)
    refine AW.aload_n (pc := 80) dX12_restore_80 rfl 0 rfl ?_
    refine AW.chk (fun g21 => ?_)
    refine AW.getR (pc := 81) dX12_restore_81 flX12_83 hthis (kct hthis rfl hct) g21 ?_
    refine AW.aload_n (pc := 84) dX12_restore_84 rfl 0 rfl ?_
    refine AW.chk (fun g22 => ?_)
    refine AW.getR (pc := 85) dX12_restore_85 flX12_149 hthis (kct hthis rfl hct) g22 ?_
    refine AW.cS2v (pc := 88) dX12_restore_88 mlX12_442 mbX12_be (fun _ => okR_N (by omega)) (kX12_be l E (n - 1) (by omega) ct hct ex (mR M20 this 17) (mR M20 this 56) M20) (Nat.le_of_ble_eq_true rfl) (fun _ M23 => ?_)
    refine AW.aload_n (pc := 91) dX12_restore_91 rfl 0 rfl ?_
    refine AW.chk (fun g24 => ?_)
    refine AW.getR (pc := 92) dX12_restore_92 flX12_86 hthis (kct hthis rfl hct) g24 ?_
    refine AW.aload_n (pc := 95) dX12_restore_95 rfl 0 rfl ?_
    refine AW.chk (fun g25 => ?_)
    refine AW.getR (pc := 96) dX12_restore_96 flX12_152 hthis (kct hthis rfl hct) g25 ?_
    refine AW.cS2v (pc := 99) dX12_restore_99 mlX12_442 mbX12_be (fun _ => okR_N (by omega)) (kX12_be l E (n - 1) (by omega) ct hct ex (mR M23 this 18) (mR M23 this 57) M23) (Nat.le_of_ble_eq_true rfl) (fun _ M26 => ?_)
    refine AW.iconst (pc := 102) dX12_restore_102 ci_1 ?_
    exact AW.zret (pc := 103) dX12_restore_103 rfl (Or.inr rfl) (fun _ _ _ => rfl) (Nat.le_refl _) (Nat.le_refl _)
