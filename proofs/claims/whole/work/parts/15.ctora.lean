/-! ===== functions over the memory and their contracts: printed by wip/whole/lay.py ===== -/
-- GateBox$Setting.<init>()V
def zX9_init (ct : Nat) (this : Nat) (M : Mem) : Option (Unit × Mem) :=
  if K0 this = (0, 9) then
  if this ≤ ct then
  lt (sI M this 0 (-1)) fun M2 =>
  lt (sI M2 this 1 0) fun M3 =>
  lt (sI M3 this 2 0) fun M4 =>
  lt (sI M4 this 3 0) fun M5 =>
  some ((), M5)
  else none
  else none
set_option maxRecDepth 20000 in
set_option maxHeartbeats 4000000 in
theorem kX9_init (l : Launch) (E : Ev) (n : Nat) (hn : 1 ≤ n) (ct : Nat) (hct : 0 ≤ ct) (this : Nat) (M : Mem) : AMg l E n 0 0 ct true ct true yX9_init fX9_init enU [.ref (ad E this)] M (zX9_init ct this M) := by
  unfold zX9_init
  refine AMg.of (by decide +kernel) ⟨rfl, rfl, rfl⟩ (Nat.le_of_ble_eq_true rfl) ?_
  refine AW.chk (fun hthis => ?_)
  refine AW.aload_n (pc := 0) dX9_init_0 rfl 0 rfl ?_
  refine AW.objI (pc := 1) dX9_init_1 oiX9_3 oi_w (fun _ => okR_M (by omega) (Nat.le_of_ble_eq_true rfl) (Nat.le_of_ble_eq_true rfl)) (Nat.le_of_ble_eq_true rfl) ?_
  refine AW.aload_n (pc := 4) dX9_init_4 rfl 0 rfl ?_
  refine AW.iconst (pc := 5) dX9_init_5 ci_m1 ?_
  refine AW.chk (fun b1 => ?_)
  refine AW.putI (pc := 6) dX9_init_6 flX9_9 hthis (by omega) ?_
  refine AW.genM (fun M2 => ?_)
  refine AW.aload_n (pc := 9) dX9_init_9 rfl 0 rfl ?_
  refine AW.iconst (pc := 10) dX9_init_10 ci_0 ?_
  refine AW.putI (pc := 11) dX9_init_11 flX9_15 hthis (by omega) ?_
  refine AW.genM (fun M3 => ?_)
  refine AW.aload_n (pc := 14) dX9_init_14 rfl 0 rfl ?_
  refine AW.iconst (pc := 15) dX9_init_15 ci_0 ?_
  refine AW.putI (pc := 16) dX9_init_16 flX9_18 hthis (by omega) ?_
  refine AW.genM (fun M4 => ?_)
  refine AW.aload_n (pc := 19) dX9_init_19 rfl 0 rfl ?_
  refine AW.iconst (pc := 20) dX9_init_20 ci_0 ?_
  refine AW.putI (pc := 21) dX9_init_21 flX9_21 hthis (by omega) ?_
  refine AW.genM (fun M5 => ?_)
  exact AW.vret (pc := 24) dX9_init_24 rfl (fun _ _ _ => rfl) (Nat.le_refl _) (Nat.le_refl _)
-- GateBox$Rules.<init>()V
def zX8_init (ct : Nat) (this : Nat) (M : Mem) : Option (Unit × Mem) :=
  if K0 this = (0, 8) then
  if this ≤ ct then
  lt (sI M this 0 0) fun M2 =>
  lt (sI M2 this 1 0) fun M3 =>
  lt (sI M3 this 2 1) fun M4 =>
  lt (sI M4 this 3 0) fun M5 =>
  lt (sI M5 this 4 100) fun M6 =>
  lt (sI M6 this 5 0) fun M7 =>
  lt (sI M7 this 6 0) fun M8 =>
  if K0 (ct + 1) = (1, 8) then
  lt (zr M8 (ct + 1)) fun M10 =>
  lt (sR M10 this 7 (ct + 1)) fun M11 =>
  if K0 (ct + 2) = (1, 8) then
  lt (zr M11 (ct + 2)) fun M13 =>
  lt (sR M13 this 8 (ct + 2)) fun M14 =>
  if K0 (ct + 3) = (1, 8) then
  lt (zr M14 (ct + 3)) fun M16 =>
  lt (sR M16 this 9 (ct + 3)) fun M17 =>
  if K0 (ct + 4) = (1, 9) then
  lt (zr M17 (ct + 4)) fun M19 =>
  lt (sR M19 this 10 (ct + 4)) fun M20 =>
  if K0 (ct + 5) = (1, 700) then
  lt (zr M20 (ct + 5)) fun M22 =>
  lt (sR M22 this 11 (ct + 5)) fun M23 =>
  if K0 (ct + 6) = (0, 9) then
  lt (zr M23 (ct + 6)) fun M25 =>
  bnd (zX9_init (ct + 6) (ct + 6) M25) fun _ M26 =>
  lt (sR M26 this 12 (ct + 6)) fun M27 =>
  some ((), M27)
  else none
  else none
  else none
  else none
  else none
  else none
  else none
  else none
set_option maxRecDepth 20000 in
set_option maxHeartbeats 4000000 in
theorem kX8_init (l : Launch) (E : Ev) (n : Nat) (hn : 2 ≤ n) (ct : Nat) (hct : 0 ≤ ct) (this : Nat) (M : Mem) : AMg l E n 6 737 ct true (ct + 6) true yX8_init fX8_init enU [.ref (ad E this)] M (zX8_init ct this M) := by
  unfold zX8_init
  refine AMg.of (by decide +kernel) ⟨rfl, rfl, rfl⟩ (Nat.le_of_ble_eq_true rfl) ?_
  refine AW.chk (fun hthis => ?_)
  refine AW.aload_n (pc := 0) dX8_init_0 rfl 0 rfl ?_
  refine AW.objI (pc := 1) dX8_init_1 oiX8_3 oi_w (fun _ => okR_M (by omega) (Nat.le_of_ble_eq_true rfl) (Nat.le_of_ble_eq_true rfl)) (Nat.le_of_ble_eq_true rfl) ?_
  refine AW.aload_n (pc := 4) dX8_init_4 rfl 0 rfl ?_
  refine AW.iconst (pc := 5) dX8_init_5 ci_0 ?_
  refine AW.chk (fun b1 => ?_)
  refine AW.putI (pc := 6) dX8_init_6 flX8_9 hthis (by omega) ?_
  refine AW.genM (fun M2 => ?_)
  refine AW.aload_n (pc := 9) dX8_init_9 rfl 0 rfl ?_
  refine AW.iconst (pc := 10) dX8_init_10 ci_0 ?_
  refine AW.putI (pc := 11) dX8_init_11 flX8_15 hthis (by omega) ?_
  refine AW.genM (fun M3 => ?_)
  refine AW.aload_n (pc := 14) dX8_init_14 rfl 0 rfl ?_
  refine AW.iconst (pc := 15) dX8_init_15 ci_1 ?_
  refine AW.putI (pc := 16) dX8_init_16 flX8_18 hthis (by omega) ?_
  refine AW.genM (fun M4 => ?_)
  refine AW.aload_n (pc := 19) dX8_init_19 rfl 0 rfl ?_
  refine AW.iconst (pc := 20) dX8_init_20 ci_0 ?_
  refine AW.putI (pc := 21) dX8_init_21 flX8_21 hthis (by omega) ?_
  refine AW.genM (fun M5 => ?_)
  refine AW.aload_n (pc := 24) dX8_init_24 rfl 0 rfl ?_
  refine AW.bipush (pc := 25) dX8_init_25 cb_100 ?_
  refine AW.putI (pc := 27) dX8_init_27 flX8_24 hthis (by omega) ?_
  refine AW.genM (fun M6 => ?_)
  refine AW.aload_n (pc := 30) dX8_init_30 rfl 0 rfl ?_
  refine AW.iconst (pc := 31) dX8_init_31 ci_0 ?_
  refine AW.putI (pc := 32) dX8_init_32 flX8_27 hthis (by omega) ?_
  refine AW.genM (fun M7 => ?_)
  refine AW.aload_n (pc := 35) dX8_init_35 rfl 0 rfl ?_
  refine AW.iconst (pc := 36) dX8_init_36 ci_0 ?_
  refine AW.putI (pc := 37) dX8_init_37 flX8_30 hthis (by omega) ?_
  refine AW.genM (fun M8 => ?_)
  refine AW.aload_n (pc := 40) dX8_init_40 rfl 0 rfl ?_
  refine AW.bipush (pc := 41) dX8_init_41 cb_8 ?_
  refine AW.chk (fun g9 => ?_)
  refine AW.newI (pc := 43) (ct' := (ct + 1)) (ce' := 1) (sl' := 8) dX8_init_43 ac_1 (by decide) rfl (Nat.le_of_ble_eq_true rfl) g9 rfl rfl rfl (fun _ => ⟨Nat.le_of_ble_eq_true rfl, Nat.le_of_ble_eq_true rfl⟩) ?_
  refine AW.genM (fun M10 => ?_)
  refine AW.putR (pc := 45) dX8_init_45 flX8_33 (fun _ => ⟨rfl, rfl⟩) hthis (by omega) (by omega) ?_
  refine AW.genM (fun M11 => ?_)
  refine AW.aload_n (pc := 48) dX8_init_48 rfl 0 rfl ?_
  refine AW.bipush (pc := 49) dX8_init_49 cb_8 ?_
  refine AW.chk (fun g12 => ?_)
  refine AW.newI (pc := 51) (ct' := (ct + 2)) (ce' := 2) (sl' := 16) dX8_init_51 ac_1 (by decide) rfl (Nat.le_of_ble_eq_true rfl) g12 rfl rfl rfl (fun _ => ⟨Nat.le_of_ble_eq_true rfl, Nat.le_of_ble_eq_true rfl⟩) ?_
  refine AW.genM (fun M13 => ?_)
  refine AW.putR (pc := 53) dX8_init_53 flX8_37 (fun _ => ⟨rfl, rfl⟩) hthis (by omega) (by omega) ?_
  refine AW.genM (fun M14 => ?_)
  refine AW.aload_n (pc := 56) dX8_init_56 rfl 0 rfl ?_
  refine AW.bipush (pc := 57) dX8_init_57 cb_8 ?_
  refine AW.chk (fun g15 => ?_)
  refine AW.newI (pc := 59) (ct' := (ct + 3)) (ce' := 3) (sl' := 24) dX8_init_59 ac_1 (by decide) rfl (Nat.le_of_ble_eq_true rfl) g15 rfl rfl rfl (fun _ => ⟨Nat.le_of_ble_eq_true rfl, Nat.le_of_ble_eq_true rfl⟩) ?_
  refine AW.genM (fun M16 => ?_)
  refine AW.putR (pc := 61) dX8_init_61 flX8_40 (fun _ => ⟨rfl, rfl⟩) hthis (by omega) (by omega) ?_
  refine AW.genM (fun M17 => ?_)
  refine AW.aload_n (pc := 64) dX8_init_64 rfl 0 rfl ?_
  refine AW.bipush (pc := 65) dX8_init_65 cb_9 ?_
  refine AW.chk (fun g18 => ?_)
  refine AW.newI (pc := 67) (ct' := (ct + 4)) (ce' := 4) (sl' := 33) dX8_init_67 ac_1 (by decide) rfl (Nat.le_of_ble_eq_true rfl) g18 rfl rfl rfl (fun _ => ⟨Nat.le_of_ble_eq_true rfl, Nat.le_of_ble_eq_true rfl⟩) ?_
  refine AW.genM (fun M19 => ?_)
  refine AW.putR (pc := 69) dX8_init_69 flX8_43 (fun _ => ⟨rfl, rfl⟩) hthis (by omega) (by omega) ?_
  refine AW.genM (fun M20 => ?_)
  refine AW.aload_n (pc := 72) dX8_init_72 rfl 0 rfl ?_
  refine AW.sipush (pc := 73) dX8_init_73 cs_700 ?_
  refine AW.chk (fun g21 => ?_)
  refine AW.newI (pc := 76) (ct' := (ct + 5)) (ce' := 5) (sl' := 733) dX8_init_76 ac_1 (by decide) rfl (Nat.le_of_ble_eq_true rfl) g21 rfl rfl rfl (fun _ => ⟨Nat.le_of_ble_eq_true rfl, Nat.le_of_ble_eq_true rfl⟩) ?_
  refine AW.genM (fun M22 => ?_)
  refine AW.putR (pc := 78) dX8_init_78 flX8_46 (fun _ => ⟨rfl, rfl⟩) hthis (by omega) (by omega) ?_
  refine AW.genM (fun M23 => ?_)
  refine AW.aload_n (pc := 81) dX8_init_81 rfl 0 rfl ?_
  refine AW.chk (fun g24 => ?_)
  refine AW.newO (pc := 82) (ct' := (ct + 6)) (ce' := 6) (sl' := 737) dX8_init_82 rfl nwX8_49 g24 rfl rfl rfl (fun _ => ⟨Nat.le_of_ble_eq_true rfl, Nat.le_of_ble_eq_true rfl⟩) ?_
  refine AW.genM (fun M25 => ?_)
  refine AW.dup (pc := 85) dX8_init_85 rfl ?_
  refine AW.callIN [] [.ref (ad E (ct + 6)), .ref (ad E this)] (pc := 86) (ct9 := (ct + 6)) (ce9 := 6) (sl9 := 737) dX8_init_86 nlX8_51 mbX9_init rfl rfl rfl (fun _ => okR_M (by omega) (Nat.le_of_ble_eq_true rfl) (Nat.le_of_ble_eq_true rfl)) rfl (kX9_init l E (n - 1) (by omega) (ct + 6) (by omega) (ct + 6) M25) rfl (Nat.le_of_ble_eq_true rfl) (fun _ M26 => ?_)
  refine AW.putR (pc := 89) dX8_init_89 flX8_52 (fun _ => ⟨rfl, rfl⟩) hthis (by omega) (by omega) ?_
  refine AW.genM (fun M27 => ?_)
  exact AW.vret (pc := 92) dX8_init_92 rfl (fun _ _ _ => rfl) (Nat.le_refl _) (Nat.le_refl _)
-- GateBox$Reader.<init>()V
def zX6_init (ct : Nat) (this : Nat) (M : Mem) : Option (Unit × Mem) :=
  if K0 this = (0, 6) then
  if K0 (ct + 1) = (1, 700) then
  lt (zr M (ct + 1)) fun M2 =>
  if this ≤ (ct + 1) then
  lt (sR M2 this 0 (ct + 1)) fun M4 =>
  lt (sI M4 this 1 0) fun M5 =>
  lt (sI M5 this 2 (-1)) fun M6 =>
  if K0 (ct + 2) = (0, 8) then
  lt (zr M6 (ct + 2)) fun M8 =>
  bnd (zX8_init (ct + 2) (ct + 2) M8) fun _ M9 =>
  lt (sR M9 this 3 (ct + 2)) fun M10 =>
  lt (sI M10 this 4 0) fun M11 =>
  lt (sI M11 this 5 0) fun M12 =>
  lt (sI M12 this 6 0) fun M13 =>
  lt (sI M13 this 7 0) fun M14 =>
  lt (sI M14 this 8 0) fun M15 =>
  lt (sI M15 this 9 0) fun M16 =>
  lt (sI M16 this 10 0) fun M17 =>
  lt (sI M17 this 11 0) fun M18 =>
  some ((), M18)
  else none
  else none
  else none
  else none
set_option maxRecDepth 20000 in
set_option maxHeartbeats 4000000 in
theorem kX6_init (l : Launch) (E : Ev) (n : Nat) (hn : 3 ≤ n) (ct : Nat) (hct : 0 ≤ ct) (this : Nat) (M : Mem) : AMg l E n 8 1450 ct true (ct + 8) true yX6_init fX6_init enU [.ref (ad E this)] M (zX6_init ct this M) := by
  unfold zX6_init
  refine AMg.of (by decide +kernel) ⟨rfl, rfl, rfl⟩ (Nat.le_of_ble_eq_true rfl) ?_
  refine AW.chk (fun hthis => ?_)
  refine AW.aload_n (pc := 0) dX6_init_0 rfl 0 rfl ?_
  refine AW.objI (pc := 1) dX6_init_1 oiX6_3 oi_w (fun _ => okR_M (by omega) (Nat.le_of_ble_eq_true rfl) (Nat.le_of_ble_eq_true rfl)) (Nat.le_of_ble_eq_true rfl) ?_
  refine AW.aload_n (pc := 4) dX6_init_4 rfl 0 rfl ?_
  refine AW.sipush (pc := 5) dX6_init_5 cs_700 ?_
  refine AW.chk (fun g1 => ?_)
  refine AW.newI (pc := 8) (ct' := (ct + 1)) (ce' := 1) (sl' := 700) dX6_init_8 ac_1 (by decide) rfl (Nat.le_of_ble_eq_true rfl) g1 rfl rfl rfl (fun _ => ⟨Nat.le_of_ble_eq_true rfl, Nat.le_of_ble_eq_true rfl⟩) ?_
  refine AW.genM (fun M2 => ?_)
  refine AW.chk (fun b3 => ?_)
  refine AW.putR (pc := 10) dX6_init_10 flX6_9 (fun _ => ⟨rfl, rfl⟩) hthis (by omega) (by omega) ?_
  refine AW.genM (fun M4 => ?_)
  refine AW.aload_n (pc := 13) dX6_init_13 rfl 0 rfl ?_
  refine AW.iconst (pc := 14) dX6_init_14 ci_0 ?_
  refine AW.putI (pc := 15) dX6_init_15 flX6_15 hthis (by omega) ?_
  refine AW.genM (fun M5 => ?_)
  refine AW.aload_n (pc := 18) dX6_init_18 rfl 0 rfl ?_
  refine AW.iconst (pc := 19) dX6_init_19 ci_m1 ?_
  refine AW.putI (pc := 20) dX6_init_20 flX6_19 hthis (by omega) ?_
  refine AW.genM (fun M6 => ?_)
  refine AW.aload_n (pc := 23) dX6_init_23 rfl 0 rfl ?_
  refine AW.chk (fun g7 => ?_)
  refine AW.newO (pc := 24) (ct' := (ct + 2)) (ce' := 2) (sl' := 713) dX6_init_24 rfl nwX6_22 g7 rfl rfl rfl (fun _ => ⟨Nat.le_of_ble_eq_true rfl, Nat.le_of_ble_eq_true rfl⟩) ?_
  refine AW.genM (fun M8 => ?_)
  refine AW.dup (pc := 27) dX6_init_27 rfl ?_
  refine AW.callIN [] [.ref (ad E (ct + 2)), .ref (ad E this)] (pc := 28) (ct9 := (ct + 8)) (ce9 := 8) (sl9 := 1450) dX6_init_28 nlX6_24 mbX8_init rfl rfl rfl (fun _ => okR_M (by omega) (Nat.le_of_ble_eq_true rfl) (Nat.le_of_ble_eq_true rfl)) rfl (kX8_init l E (n - 1) (by omega) (ct + 2) (by omega) (ct + 2) M8) rfl (Nat.le_of_ble_eq_true rfl) (fun _ M9 => ?_)
  refine AW.putR (pc := 31) dX6_init_31 flX6_25 (fun h => by cases h) hthis (by omega) (by omega) ?_
  refine AW.genM (fun M10 => ?_)
  refine AW.aload_n (pc := 34) dX6_init_34 rfl 0 rfl ?_
  refine AW.iconst (pc := 35) dX6_init_35 ci_0 ?_
  refine AW.putI (pc := 36) dX6_init_36 flX6_29 hthis (by omega) ?_
  refine AW.genM (fun M11 => ?_)
  refine AW.aload_n (pc := 39) dX6_init_39 rfl 0 rfl ?_
  refine AW.iconst (pc := 40) dX6_init_40 ci_0 ?_
  refine AW.putI (pc := 41) dX6_init_41 flX6_32 hthis (by omega) ?_
  refine AW.genM (fun M12 => ?_)
  refine AW.aload_n (pc := 44) dX6_init_44 rfl 0 rfl ?_
  refine AW.iconst (pc := 45) dX6_init_45 ci_0 ?_
  refine AW.putI (pc := 46) dX6_init_46 flX6_35 hthis (by omega) ?_
  refine AW.genM (fun M13 => ?_)
  refine AW.aload_n (pc := 49) dX6_init_49 rfl 0 rfl ?_
  refine AW.iconst (pc := 50) dX6_init_50 ci_0 ?_
  refine AW.putI (pc := 51) dX6_init_51 flX6_38 hthis (by omega) ?_
  refine AW.genM (fun M14 => ?_)
  refine AW.aload_n (pc := 54) dX6_init_54 rfl 0 rfl ?_
  refine AW.iconst (pc := 55) dX6_init_55 ci_0 ?_
  refine AW.putI (pc := 56) dX6_init_56 flX6_41 hthis (by omega) ?_
  refine AW.genM (fun M15 => ?_)
  refine AW.aload_n (pc := 59) dX6_init_59 rfl 0 rfl ?_
  refine AW.iconst (pc := 60) dX6_init_60 ci_0 ?_
  refine AW.putI (pc := 61) dX6_init_61 flX6_44 hthis (by omega) ?_
  refine AW.genM (fun M16 => ?_)
  refine AW.aload_n (pc := 64) dX6_init_64 rfl 0 rfl ?_
  refine AW.iconst (pc := 65) dX6_init_65 ci_0 ?_
  refine AW.putI (pc := 66) dX6_init_66 flX6_47 hthis (by omega) ?_
  refine AW.genM (fun M17 => ?_)
  refine AW.aload_n (pc := 69) dX6_init_69 rfl 0 rfl ?_
  refine AW.iconst (pc := 70) dX6_init_70 ci_0 ?_
  refine AW.putI (pc := 71) dX6_init_71 flX6_50 hthis (by omega) ?_
  refine AW.genM (fun M18 => ?_)
  exact AW.vret (pc := 74) dX6_init_74 rfl (fun _ _ _ => rfl) (Nat.le_refl _) (Nat.le_refl _)
-- GateBox$Book.<init>()V
def zX0_init (ct : Nat) (this : Nat) (M : Mem) : Option (Unit × Mem) :=
  if K0 this = (0, 0) then
  if this ≤ ct then
  lt (sI M this 0 0) fun M2 =>
  lt (sI M2 this 1 0) fun M3 =>
  lt (sI M3 this 2 0) fun M4 =>
  lt (sI M4 this 3 0) fun M5 =>
  lt (sI M5 this 4 0) fun M6 =>
  if K0 (ct + 1) = (1, 200) then
  lt (zr M6 (ct + 1)) fun M8 =>
  lt (sR M8 this 5 (ct + 1)) fun M9 =>
  if K0 (ct + 2) = (1, 32) then
  lt (zr M9 (ct + 2)) fun M11 =>
  lt (sR M11 this 6 (ct + 2)) fun M12 =>
  some ((), M12)
  else none
  else none
  else none
  else none
set_option maxRecDepth 20000 in
set_option maxHeartbeats 4000000 in
theorem kX0_init (l : Launch) (E : Ev) (n : Nat) (hn : 1 ≤ n) (ct : Nat) (hct : 0 ≤ ct) (this : Nat) (M : Mem) : AMg l E n 2 232 ct true (ct + 2) true yX0_init fX0_init enU [.ref (ad E this)] M (zX0_init ct this M) := by
  unfold zX0_init
  refine AMg.of (by decide +kernel) ⟨rfl, rfl, rfl⟩ (Nat.le_of_ble_eq_true rfl) ?_
  refine AW.chk (fun hthis => ?_)
  refine AW.aload_n (pc := 0) dX0_init_0 rfl 0 rfl ?_
  refine AW.objI (pc := 1) dX0_init_1 oiX0_3 oi_w (fun _ => okR_M (by omega) (Nat.le_of_ble_eq_true rfl) (Nat.le_of_ble_eq_true rfl)) (Nat.le_of_ble_eq_true rfl) ?_
  refine AW.aload_n (pc := 4) dX0_init_4 rfl 0 rfl ?_
  refine AW.iconst (pc := 5) dX0_init_5 ci_0 ?_
  refine AW.chk (fun b1 => ?_)
  refine AW.putI (pc := 6) dX0_init_6 flX0_9 hthis (by omega) ?_
  refine AW.genM (fun M2 => ?_)
  refine AW.aload_n (pc := 9) dX0_init_9 rfl 0 rfl ?_
  refine AW.iconst (pc := 10) dX0_init_10 ci_0 ?_
  refine AW.putI (pc := 11) dX0_init_11 flX0_15 hthis (by omega) ?_
  refine AW.genM (fun M3 => ?_)
  refine AW.aload_n (pc := 14) dX0_init_14 rfl 0 rfl ?_
  refine AW.iconst (pc := 15) dX0_init_15 ci_0 ?_
  refine AW.putI (pc := 16) dX0_init_16 flX0_18 hthis (by omega) ?_
  refine AW.genM (fun M4 => ?_)
  refine AW.aload_n (pc := 19) dX0_init_19 rfl 0 rfl ?_
  refine AW.iconst (pc := 20) dX0_init_20 ci_0 ?_
  refine AW.putI (pc := 21) dX0_init_21 flX0_21 hthis (by omega) ?_
  refine AW.genM (fun M5 => ?_)
  refine AW.aload_n (pc := 24) dX0_init_24 rfl 0 rfl ?_
  refine AW.iconst (pc := 25) dX0_init_25 ci_0 ?_
  refine AW.putI (pc := 26) dX0_init_26 flX0_24 hthis (by omega) ?_
  refine AW.genM (fun M6 => ?_)
  refine AW.aload_n (pc := 29) dX0_init_29 rfl 0 rfl ?_
  refine AW.sipush (pc := 30) dX0_init_30 cs_200 ?_
  refine AW.chk (fun g7 => ?_)
  refine AW.newI (pc := 33) (ct' := (ct + 1)) (ce' := 1) (sl' := 200) dX0_init_33 ac_1 (by decide) rfl (Nat.le_of_ble_eq_true rfl) g7 rfl rfl rfl (fun _ => ⟨Nat.le_of_ble_eq_true rfl, Nat.le_of_ble_eq_true rfl⟩) ?_
  refine AW.genM (fun M8 => ?_)
  refine AW.putR (pc := 35) dX0_init_35 flX0_27 (fun _ => ⟨rfl, rfl⟩) hthis (by omega) (by omega) ?_
  refine AW.genM (fun M9 => ?_)
  refine AW.aload_n (pc := 38) dX0_init_38 rfl 0 rfl ?_
  refine AW.bipush (pc := 39) dX0_init_39 cb_32 ?_
  refine AW.chk (fun g10 => ?_)
  refine AW.newI (pc := 41) (ct' := (ct + 2)) (ce' := 2) (sl' := 232) dX0_init_41 ac_1 (by decide) rfl (Nat.le_of_ble_eq_true rfl) g10 rfl rfl rfl (fun _ => ⟨Nat.le_of_ble_eq_true rfl, Nat.le_of_ble_eq_true rfl⟩) ?_
  refine AW.genM (fun M11 => ?_)
  refine AW.putR (pc := 43) dX0_init_43 flX0_31 (fun _ => ⟨rfl, rfl⟩) hthis (by omega) (by omega) ?_
  refine AW.genM (fun M12 => ?_)
  exact AW.vret (pc := 46) dX0_init_46 rfl (fun _ _ _ => rfl) (Nat.le_refl _) (Nat.le_refl _)
-- GateBox$Gate.<init>()V
def zX4_init (ct : Nat) (this : Nat) (M : Mem) : Option (Unit × Mem) :=
  if K0 this = (0, 4) then
  if K0 (ct + 1) = (0, 8) then
  lt (zr M (ct + 1)) fun M2 =>
  bnd (zX8_init (ct + 1) (ct + 1) M2) fun _ M3 =>
  if this ≤ (ct + 7) then
  lt (sR M3 this 0 (ct + 1)) fun M5 =>
  if K0 (ct + 8) = (0, 0) then
  lt (zr M5 (ct + 8)) fun M7 =>
  bnd (zX0_init (ct + 8) (ct + 8) M7) fun _ M8 =>
  lt (sR M8 this 1 (ct + 8)) fun M9 =>
  if K0 (ct + 11) = (0, 0) then
  lt (zr M9 (ct + 11)) fun M11 =>
  bnd (zX0_init (ct + 11) (ct + 11) M11) fun _ M12 =>
  lt (sR M12 this 2 (ct + 11)) fun M13 =>
  lt (sI M13 this 3 0) fun M14 =>
  some ((), M14)
  else none
  else none
  else none
  else none
  else none
set_option maxRecDepth 20000 in
set_option maxHeartbeats 4000000 in
theorem kX4_init (l : Launch) (E : Ev) (n : Nat) (hn : 3 ≤ n) (ct : Nat) (hct : 0 ≤ ct) (this : Nat) (M : Mem) : AMg l E n 13 1228 ct true (ct + 13) true yX4_init fX4_init enU [.ref (ad E this)] M (zX4_init ct this M) := by
  unfold zX4_init
  refine AMg.of (by decide +kernel) ⟨rfl, rfl, rfl⟩ (Nat.le_of_ble_eq_true rfl) ?_
  refine AW.chk (fun hthis => ?_)
  refine AW.aload_n (pc := 0) dX4_init_0 rfl 0 rfl ?_
  refine AW.objI (pc := 1) dX4_init_1 oiX4_3 oi_w (fun _ => okR_M (by omega) (Nat.le_of_ble_eq_true rfl) (Nat.le_of_ble_eq_true rfl)) (Nat.le_of_ble_eq_true rfl) ?_
  refine AW.aload_n (pc := 4) dX4_init_4 rfl 0 rfl ?_
  refine AW.chk (fun g1 => ?_)
  refine AW.newO (pc := 5) (ct' := (ct + 1)) (ce' := 1) (sl' := 13) dX4_init_5 rfl nwX4_9 g1 rfl rfl rfl (fun _ => ⟨Nat.le_of_ble_eq_true rfl, Nat.le_of_ble_eq_true rfl⟩) ?_
  refine AW.genM (fun M2 => ?_)
  refine AW.dup (pc := 8) dX4_init_8 rfl ?_
  refine AW.callIN [] [.ref (ad E (ct + 1)), .ref (ad E this)] (pc := 9) (ct9 := (ct + 7)) (ce9 := 7) (sl9 := 750) dX4_init_9 nlX4_11 mbX8_init rfl rfl rfl (fun _ => okR_M (by omega) (Nat.le_of_ble_eq_true rfl) (Nat.le_of_ble_eq_true rfl)) rfl (kX8_init l E (n - 1) (by omega) (ct + 1) (by omega) (ct + 1) M2) rfl (Nat.le_of_ble_eq_true rfl) (fun _ M3 => ?_)
  refine AW.chk (fun b4 => ?_)
  refine AW.putR (pc := 12) dX4_init_12 flX4_12 (fun h => by cases h) hthis (by omega) (by omega) ?_
  refine AW.genM (fun M5 => ?_)
  refine AW.aload_n (pc := 15) dX4_init_15 rfl 0 rfl ?_
  refine AW.chk (fun g6 => ?_)
  refine AW.newO (pc := 16) (ct' := (ct + 8)) (ce' := 8) (sl' := 757) dX4_init_16 rfl nwX4_18 g6 rfl rfl rfl (fun _ => ⟨Nat.le_of_ble_eq_true rfl, Nat.le_of_ble_eq_true rfl⟩) ?_
  refine AW.genM (fun M7 => ?_)
  refine AW.dup (pc := 19) dX4_init_19 rfl ?_
  refine AW.callIN [] [.ref (ad E (ct + 8)), .ref (ad E this)] (pc := 20) (ct9 := (ct + 10)) (ce9 := 10) (sl9 := 989) dX4_init_20 nlX4_20 mbX0_init rfl rfl rfl (fun _ => okR_M (by omega) (Nat.le_of_ble_eq_true rfl) (Nat.le_of_ble_eq_true rfl)) rfl (kX0_init l E (n - 1) (by omega) (ct + 8) (by omega) (ct + 8) M7) rfl (Nat.le_of_ble_eq_true rfl) (fun _ M8 => ?_)
  refine AW.putR (pc := 23) dX4_init_23 flX4_21 (fun _ => ⟨rfl, rfl⟩) hthis (by omega) (by omega) ?_
  refine AW.genM (fun M9 => ?_)
  refine AW.aload_n (pc := 26) dX4_init_26 rfl 0 rfl ?_
  refine AW.chk (fun g10 => ?_)
  refine AW.newO (pc := 27) (ct' := (ct + 11)) (ce' := 11) (sl' := 996) dX4_init_27 rfl nwX4_18 g10 rfl rfl rfl (fun _ => ⟨Nat.le_of_ble_eq_true rfl, Nat.le_of_ble_eq_true rfl⟩) ?_
  refine AW.genM (fun M11 => ?_)
  refine AW.dup (pc := 30) dX4_init_30 rfl ?_
  refine AW.callIN [] [.ref (ad E (ct + 11)), .ref (ad E this)] (pc := 31) (ct9 := (ct + 13)) (ce9 := 13) (sl9 := 1228) dX4_init_31 nlX4_20 mbX0_init rfl rfl rfl (fun _ => okR_M (by omega) (Nat.le_of_ble_eq_true rfl) (Nat.le_of_ble_eq_true rfl)) rfl (kX0_init l E (n - 1) (by omega) (ct + 11) (by omega) (ct + 11) M11) rfl (Nat.le_of_ble_eq_true rfl) (fun _ M12 => ?_)
  refine AW.putR (pc := 34) dX4_init_34 flX4_25 (fun _ => ⟨rfl, rfl⟩) hthis (by omega) (by omega) ?_
  refine AW.genM (fun M13 => ?_)
  refine AW.aload_n (pc := 37) dX4_init_37 rfl 0 rfl ?_
  refine AW.iconst (pc := 38) dX4_init_38 ci_0 ?_
  refine AW.putI (pc := 39) dX4_init_39 flX4_28 hthis (by omega) ?_
  refine AW.genM (fun M14 => ?_)
  exact AW.vret (pc := 42) dX4_init_42 rfl (fun _ _ _ => rfl) (Nat.le_refl _) (Nat.le_refl _)
-- GateBox$Giver.<init>(LGateBox$Rules;[I)V
def zX5_init (ct : Nat) (this : Nat) (x1 : Nat) (x2 : Nat) (M : Mem) : Option (Unit × Mem) :=
  if K0 this = (0, 5) then
  if K0 (ct + 1) = (1, 9) then
  lt (zr M (ct + 1)) fun M2 =>
  if this ≤ (ct + 1) then
  lt (sR M2 this 3 (ct + 1)) fun M4 =>
  if K0 (ct + 2) = (1, 64) then
  lt (zr M4 (ct + 2)) fun M6 =>
  lt (sR M6 this 4 (ct + 2)) fun M7 =>
  if x1 ≠ 0 then
  lt (sR M7 this 0 x1) fun M8 =>
  if x1 ≤ (ct + 2) then
  if K0 x1 = (0, 8) then
  if mR M8 x1 12 ≠ 0 then
  lt (sR M8 this 1 (mR M8 x1 12)) fun M13 =>
  if x2 ≠ 0 then
  lt (sR M13 this 2 x2) fun M14 =>
  some ((), M14)
  else none
  else none
  else none
  else none
  else none
  else none
  else none
  else none
  else none
set_option maxRecDepth 20000 in
set_option maxHeartbeats 4000000 in
theorem kX5_init (l : Launch) (E : Ev) (n : Nat) (hn : 1 ≤ n) (ct : Nat) (hct : 0 ≤ ct) (this : Nat) (x1 : Nat) (x2 : Nat) (M : Mem) : AMg l E n 2 73 ct true (ct + 2) true yX5_init fX5_init enU [.ref (ad E this), .ref (ad E x1), .ref (ad E x2)] M (zX5_init ct this x1 x2 M) := by
  unfold zX5_init
  refine AMg.of (by decide +kernel) ⟨rfl, rfl, rfl⟩ (Nat.le_of_ble_eq_true rfl) ?_
  refine AW.chk (fun hthis => ?_)
  refine AW.aload_n (pc := 0) dX5_init_0 rfl 0 rfl ?_
  refine AW.objI (pc := 1) dX5_init_1 oiX5_3 oi_w (fun _ => okR_M (by omega) (Nat.le_of_ble_eq_true rfl) (Nat.le_of_ble_eq_true rfl)) (Nat.le_of_ble_eq_true rfl) ?_
  refine AW.aload_n (pc := 4) dX5_init_4 rfl 0 rfl ?_
  refine AW.bipush (pc := 5) dX5_init_5 cb_9 ?_
  refine AW.chk (fun g1 => ?_)
  refine AW.newI (pc := 7) (ct' := (ct + 1)) (ce' := 1) (sl' := 9) dX5_init_7 ac_1 (by decide) rfl (Nat.le_of_ble_eq_true rfl) g1 rfl rfl rfl (fun _ => ⟨Nat.le_of_ble_eq_true rfl, Nat.le_of_ble_eq_true rfl⟩) ?_
  refine AW.genM (fun M2 => ?_)
  refine AW.chk (fun b3 => ?_)
  refine AW.putR (pc := 9) dX5_init_9 flX5_9 (fun _ => ⟨rfl, rfl⟩) hthis (by omega) (by omega) ?_
  refine AW.genM (fun M4 => ?_)
  refine AW.aload_n (pc := 12) dX5_init_12 rfl 0 rfl ?_
  refine AW.bipush (pc := 13) dX5_init_13 cb_64 ?_
  refine AW.chk (fun g5 => ?_)
  refine AW.newI (pc := 15) (ct' := (ct + 2)) (ce' := 2) (sl' := 73) dX5_init_15 ac_1 (by decide) rfl (Nat.le_of_ble_eq_true rfl) g5 rfl rfl rfl (fun _ => ⟨Nat.le_of_ble_eq_true rfl, Nat.le_of_ble_eq_true rfl⟩) ?_
  refine AW.genM (fun M6 => ?_)
  refine AW.putR (pc := 17) dX5_init_17 flX5_15 (fun _ => ⟨rfl, rfl⟩) hthis (by omega) (by omega) ?_
  refine AW.genM (fun M7 => ?_)
  refine AW.aload_n (pc := 20) dX5_init_20 rfl 0 rfl ?_
  refine AW.aload_n (pc := 21) dX5_init_21 rfl 1 rfl ?_
  refine AW.chk (fun g9 => ?_)
  refine AW.putR (pc := 22) dX5_init_22 flX5_18 (fun h => by cases h) hthis (by omega) g9 ?_
  refine AW.genM (fun M8 => ?_)
  refine AW.aload_n (pc := 25) dX5_init_25 rfl 0 rfl ?_
  refine AW.aload_n (pc := 26) dX5_init_26 rfl 1 rfl ?_
  refine AW.chk (fun b10 => ?_)
  refine AW.chk (fun g11 => ?_)
  refine AW.chk (fun g12 => ?_)
  refine AW.getR (pc := 27) dX5_init_27 flX5_22 g11 (by omega) g12 ?_
  refine AW.putR (pc := 30) dX5_init_30 flX5_28 (fun h => by cases h) hthis (by omega) g12 ?_
  refine AW.genM (fun M13 => ?_)
  refine AW.aload_n (pc := 33) dX5_init_33 rfl 0 rfl ?_
  refine AW.aload_n (pc := 34) dX5_init_34 rfl 2 rfl ?_
  refine AW.chk (fun g15 => ?_)
  refine AW.putR (pc := 35) dX5_init_35 flX5_29 (fun _ => ⟨rfl, rfl⟩) hthis (by omega) g15 ?_
  refine AW.genM (fun M14 => ?_)
  exact AW.vret (pc := 38) dX5_init_38 rfl (fun _ _ _ => rfl) (Nat.le_refl _) (Nat.le_refl _)
-- GateBox$Cases.<init>([I[I)V
def zX1_init (ct : Nat) (this : Nat) (x1 : Nat) (x2 : Nat) (M : Mem) : Option (Unit × Mem) :=
  if K0 this = (0, 1) then
  if this ≤ ct then
  lt (sI M this 2 0) fun M2 =>
  if x1 ≠ 0 then
  lt (sR M2 this 0 x1) fun M3 =>
  if x2 ≠ 0 then
  lt (sR M3 this 1 x2) fun M5 =>
  some ((), M5)
  else none
  else none
  else none
  else none
set_option maxRecDepth 20000 in
set_option maxHeartbeats 4000000 in
theorem kX1_init (l : Launch) (E : Ev) (n : Nat) (hn : 1 ≤ n) (ct : Nat) (hct : 0 ≤ ct) (this : Nat) (x1 : Nat) (x2 : Nat) (M : Mem) : AMg l E n 0 0 ct true ct true yX1_init fX1_init enU [.ref (ad E this), .ref (ad E x1), .ref (ad E x2)] M (zX1_init ct this x1 x2 M) := by
  unfold zX1_init
  refine AMg.of (by decide +kernel) ⟨rfl, rfl, rfl⟩ (Nat.le_of_ble_eq_true rfl) ?_
  refine AW.chk (fun hthis => ?_)
  refine AW.aload_n (pc := 0) dX1_init_0 rfl 0 rfl ?_
  refine AW.objI (pc := 1) dX1_init_1 oiX1_1 oi_w (fun _ => okR_M (by omega) (Nat.le_of_ble_eq_true rfl) (Nat.le_of_ble_eq_true rfl)) (Nat.le_of_ble_eq_true rfl) ?_
  refine AW.aload_n (pc := 4) dX1_init_4 rfl 0 rfl ?_
  refine AW.iconst (pc := 5) dX1_init_5 ci_0 ?_
  refine AW.chk (fun b1 => ?_)
  refine AW.putI (pc := 6) dX1_init_6 flX1_7 hthis (by omega) ?_
  refine AW.genM (fun M2 => ?_)
  refine AW.aload_n (pc := 9) dX1_init_9 rfl 0 rfl ?_
  refine AW.aload_n (pc := 10) dX1_init_10 rfl 1 rfl ?_
  refine AW.chk (fun g4 => ?_)
  refine AW.putR (pc := 11) dX1_init_11 flX1_13 (fun _ => ⟨rfl, rfl⟩) hthis (by omega) g4 ?_
  refine AW.genM (fun M3 => ?_)
  refine AW.aload_n (pc := 14) dX1_init_14 rfl 0 rfl ?_
  refine AW.aload_n (pc := 15) dX1_init_15 rfl 2 rfl ?_
  refine AW.chk (fun g6 => ?_)
  refine AW.putR (pc := 16) dX1_init_16 flX1_17 (fun _ => ⟨rfl, rfl⟩) hthis (by omega) g6 ?_
  refine AW.genM (fun M5 => ?_)
  exact AW.vret (pc := 19) dX1_init_19 rfl (fun _ _ _ => rfl) (Nat.le_refl _) (Nat.le_refl _)
-- GateBox$Walk.<init>(LGateBox$Giver;)V
def zX10_init (ct : Nat) (this : Nat) (x1 : Nat) (M : Mem) : Option (Unit × Mem) :=
  if K0 this = (0, 10) then
  if K0 (ct + 1) = (0, 1) then
  lt (zr M (ct + 1)) fun M2 =>
  if K0 (ct + 2) = (1, 100) then
  lt (zr M2 (ct + 2)) fun M4 =>
  if K0 (ct + 3) = (1, 100) then
  lt (zr M4 (ct + 3)) fun M6 =>
  bnd (zX1_init (ct + 3) (ct + 1) (ct + 2) (ct + 3) M6) fun _ M7 =>
  if this ≤ (ct + 3) then
  lt (sR M7 this 1 (ct + 1)) fun M9 =>
  if K0 (ct + 4) = (0, 1) then
  lt (zr M9 (ct + 4)) fun M11 =>
  if K0 (ct + 5) = (1, 100) then
  lt (zr M11 (ct + 5)) fun M13 =>
  if K0 (ct + 6) = (1, 100) then
  lt (zr M13 (ct + 6)) fun M15 =>
  bnd (zX1_init (ct + 6) (ct + 4) (ct + 5) (ct + 6) M15) fun _ M16 =>
  lt (sR M16 this 2 (ct + 4)) fun M17 =>
  lt (sL M17 this 3 0) fun M18 =>
  lt (sL M18 this 4 0) fun M19 =>
  if x1 ≠ 0 then
  lt (sR M19 this 0 x1) fun M20 =>
  some ((), M20)
  else none
  else none
  else none
  else none
  else none
  else none
  else none
  else none
  else none
set_option maxRecDepth 20000 in
set_option maxHeartbeats 4000000 in
theorem kX10_init (l : Launch) (E : Ev) (n : Nat) (hn : 2 ≤ n) (ct : Nat) (hct : 0 ≤ ct) (this : Nat) (x1 : Nat) (M : Mem) : AMg l E n 6 406 ct true (ct + 6) true yX10_init fX10_init enU [.ref (ad E this), .ref (ad E x1)] M (zX10_init ct this x1 M) := by
  unfold zX10_init
  refine AMg.of (by decide +kernel) ⟨rfl, rfl, rfl⟩ (Nat.le_of_ble_eq_true rfl) ?_
  refine AW.chk (fun hthis => ?_)
  refine AW.aload_n (pc := 0) dX10_init_0 rfl 0 rfl ?_
  refine AW.objI (pc := 1) dX10_init_1 oiX10_3 oi_w (fun _ => okR_M (by omega) (Nat.le_of_ble_eq_true rfl) (Nat.le_of_ble_eq_true rfl)) (Nat.le_of_ble_eq_true rfl) ?_
  refine AW.aload_n (pc := 4) dX10_init_4 rfl 0 rfl ?_
  refine AW.chk (fun g1 => ?_)
  refine AW.newO (pc := 5) (ct' := (ct + 1)) (ce' := 1) (sl' := 3) dX10_init_5 rfl nwX10_9 g1 rfl rfl rfl (fun _ => ⟨Nat.le_of_ble_eq_true rfl, Nat.le_of_ble_eq_true rfl⟩) ?_
  refine AW.genM (fun M2 => ?_)
  refine AW.dup (pc := 8) dX10_init_8 rfl ?_
  refine AW.bipush (pc := 9) dX10_init_9 cb_100 ?_
  refine AW.chk (fun g3 => ?_)
  refine AW.newI (pc := 11) (ct' := (ct + 2)) (ce' := 2) (sl' := 103) dX10_init_11 ac_1 (by decide) rfl (Nat.le_of_ble_eq_true rfl) g3 rfl rfl rfl (fun _ => ⟨Nat.le_of_ble_eq_true rfl, Nat.le_of_ble_eq_true rfl⟩) ?_
  refine AW.genM (fun M4 => ?_)
  refine AW.bipush (pc := 13) dX10_init_13 cb_100 ?_
  refine AW.chk (fun g5 => ?_)
  refine AW.newI (pc := 15) (ct' := (ct + 3)) (ce' := 3) (sl' := 203) dX10_init_15 ac_1 (by decide) rfl (Nat.le_of_ble_eq_true rfl) g5 rfl rfl rfl (fun _ => ⟨Nat.le_of_ble_eq_true rfl, Nat.le_of_ble_eq_true rfl⟩) ?_
  refine AW.genM (fun M6 => ?_)
  refine AW.callI [.ref (ad E (ct + 2)), .ref (ad E (ct + 3))] [.ref (ad E (ct + 1)), .ref (ad E this)] (pc := 17) (ct9 := (ct + 3)) (ce9 := 3) (sl9 := 203) dX10_init_17 mlX10_11 mbX1_init rfl rfl rfl (fun _ => okR_M (by omega) (Nat.le_of_ble_eq_true rfl) (Nat.le_of_ble_eq_true rfl)) rfl (kX1_init l E (n - 1) (by omega) (ct + 3) (by omega) (ct + 1) (ct + 2) (ct + 3) M6) rfl (Nat.le_of_ble_eq_true rfl) (fun _ M7 => ?_)
  refine AW.chk (fun b8 => ?_)
  refine AW.putR (pc := 20) dX10_init_20 flX10_14 (fun h => by cases h) hthis (by omega) (by omega) ?_
  refine AW.genM (fun M9 => ?_)
  refine AW.aload_n (pc := 23) dX10_init_23 rfl 0 rfl ?_
  refine AW.chk (fun g10 => ?_)
  refine AW.newO (pc := 24) (ct' := (ct + 4)) (ce' := 4) (sl' := 206) dX10_init_24 rfl nwX10_9 g10 rfl rfl rfl (fun _ => ⟨Nat.le_of_ble_eq_true rfl, Nat.le_of_ble_eq_true rfl⟩) ?_
  refine AW.genM (fun M11 => ?_)
  refine AW.dup (pc := 27) dX10_init_27 rfl ?_
  refine AW.bipush (pc := 28) dX10_init_28 cb_100 ?_
  refine AW.chk (fun g12 => ?_)
  refine AW.newI (pc := 30) (ct' := (ct + 5)) (ce' := 5) (sl' := 306) dX10_init_30 ac_1 (by decide) rfl (Nat.le_of_ble_eq_true rfl) g12 rfl rfl rfl (fun _ => ⟨Nat.le_of_ble_eq_true rfl, Nat.le_of_ble_eq_true rfl⟩) ?_
  refine AW.genM (fun M13 => ?_)
  refine AW.bipush (pc := 32) dX10_init_32 cb_100 ?_
  refine AW.chk (fun g14 => ?_)
  refine AW.newI (pc := 34) (ct' := (ct + 6)) (ce' := 6) (sl' := 406) dX10_init_34 ac_1 (by decide) rfl (Nat.le_of_ble_eq_true rfl) g14 rfl rfl rfl (fun _ => ⟨Nat.le_of_ble_eq_true rfl, Nat.le_of_ble_eq_true rfl⟩) ?_
  refine AW.genM (fun M15 => ?_)
  refine AW.callI [.ref (ad E (ct + 5)), .ref (ad E (ct + 6))] [.ref (ad E (ct + 4)), .ref (ad E this)] (pc := 36) (ct9 := (ct + 6)) (ce9 := 6) (sl9 := 406) dX10_init_36 mlX10_11 mbX1_init rfl rfl rfl (fun _ => okR_M (by omega) (Nat.le_of_ble_eq_true rfl) (Nat.le_of_ble_eq_true rfl)) rfl (kX1_init l E (n - 1) (by omega) (ct + 6) (by omega) (ct + 4) (ct + 5) (ct + 6) M15) rfl (Nat.le_of_ble_eq_true rfl) (fun _ M16 => ?_)
  refine AW.putR (pc := 39) dX10_init_39 flX10_20 (fun h => by cases h) hthis (by omega) (by omega) ?_
  refine AW.genM (fun M17 => ?_)
  refine AW.aload_n (pc := 42) dX10_init_42 rfl 0 rfl ?_
  refine AW.lconst (pc := 43) dX10_init_43 cl_0 ?_
  refine AW.putL (pc := 44) dX10_init_44 flX10_23 hthis (by omega) ?_
  refine AW.genM (fun M18 => ?_)
  refine AW.aload_n (pc := 47) dX10_init_47 rfl 0 rfl ?_
  refine AW.lconst (pc := 48) dX10_init_48 cl_0 ?_
  refine AW.putL (pc := 49) dX10_init_49 flX10_27 hthis (by omega) ?_
  refine AW.genM (fun M19 => ?_)
  refine AW.aload_n (pc := 52) dX10_init_52 rfl 0 rfl ?_
  refine AW.aload_n (pc := 53) dX10_init_53 rfl 1 rfl ?_
  refine AW.chk (fun g21 => ?_)
  refine AW.putR (pc := 54) dX10_init_54 flX10_30 (fun _ => ⟨rfl, rfl⟩) hthis (by omega) g21 ?_
  refine AW.genM (fun M20 => ?_)
  exact AW.vret (pc := 57) dX10_init_57 rfl (fun _ _ _ => rfl) (Nat.le_refl _) (Nat.le_refl _)
-- GateBox$Couples.<init>(LGateBox$Giver;LGateBox$Rules;)V
def zX3_init (ct : Nat) (this : Nat) (x1 : Nat) (x2 : Nat) (M : Mem) : Option (Unit × Mem) :=
  if K0 this = (0, 3) then
  if K0 (ct + 1) = (0, 1) then
  lt (zr M (ct + 1)) fun M2 =>
  if K0 (ct + 2) = (1, 10000) then
  lt (zr M2 (ct + 2)) fun M4 =>
  if K0 (ct + 3) = (1, 10000) then
  lt (zr M4 (ct + 3)) fun M6 =>
  bnd (zX1_init (ct + 3) (ct + 1) (ct + 2) (ct + 3) M6) fun _ M7 =>
  if this ≤ (ct + 3) then
  lt (sR M7 this 2 (ct + 1)) fun M9 =>
  if K0 (ct + 4) = (0, 1) then
  lt (zr M9 (ct + 4)) fun M11 =>
  if K0 (ct + 5) = (1, 10000) then
  lt (zr M11 (ct + 5)) fun M13 =>
  if K0 (ct + 6) = (1, 10000) then
  lt (zr M13 (ct + 6)) fun M15 =>
  bnd (zX1_init (ct + 6) (ct + 4) (ct + 5) (ct + 6) M15) fun _ M16 =>
  lt (sR M16 this 3 (ct + 4)) fun M17 =>
  lt (sL M17 this 4 0) fun M18 =>
  lt (sL M18 this 5 0) fun M19 =>
  lt (sL M19 this 6 0) fun M20 =>
  if x1 ≠ 0 then
  lt (sR M20 this 0 x1) fun M21 =>
  if K0 (ct + 7) = (0, 5) then
  lt (zr M21 (ct + 7)) fun M24 =>
  if K0 (ct + 8) = (1, 8000) then
  lt (zr M24 (ct + 8)) fun M26 =>
  bnd (zX5_init (ct + 8) (ct + 7) x2 (ct + 8) M26) fun _ M27 =>
  lt (sR M27 this 1 (ct + 7)) fun M28 =>
  some ((), M28)
  else none
  else none
  else none
  else none
  else none
  else none
  else none
  else none
  else none
  else none
  else none
set_option maxRecDepth 20000 in
set_option maxHeartbeats 4000000 in
theorem kX3_init (l : Launch) (E : Ev) (n : Nat) (hn : 2 ≤ n) (ct : Nat) (hct : 0 ≤ ct) (this : Nat) (x1 : Nat) (x2 : Nat) (M : Mem) : AMg l E n 10 48084 ct true (ct + 10) true yX3_init fX3_init enU [.ref (ad E this), .ref (ad E x1), .ref (ad E x2)] M (zX3_init ct this x1 x2 M) := by
  unfold zX3_init
  refine AMg.of (by decide +kernel) ⟨rfl, rfl, rfl⟩ (Nat.le_of_ble_eq_true rfl) ?_
  refine AW.chk (fun hthis => ?_)
  refine AW.aload_n (pc := 0) dX3_init_0 rfl 0 rfl ?_
  refine AW.objI (pc := 1) dX3_init_1 oiX3_3 oi_w (fun _ => okR_M (by omega) (Nat.le_of_ble_eq_true rfl) (Nat.le_of_ble_eq_true rfl)) (Nat.le_of_ble_eq_true rfl) ?_
  refine AW.aload_n (pc := 4) dX3_init_4 rfl 0 rfl ?_
  refine AW.chk (fun g1 => ?_)
  refine AW.newO (pc := 5) (ct' := (ct + 1)) (ce' := 1) (sl' := 3) dX3_init_5 rfl nwX3_9 g1 rfl rfl rfl (fun _ => ⟨Nat.le_of_ble_eq_true rfl, Nat.le_of_ble_eq_true rfl⟩) ?_
  refine AW.genM (fun M2 => ?_)
  refine AW.dup (pc := 8) dX3_init_8 rfl ?_
  refine AW.sipush (pc := 9) dX3_init_9 cs_10000 ?_
  refine AW.chk (fun g3 => ?_)
  refine AW.newI (pc := 12) (ct' := (ct + 2)) (ce' := 2) (sl' := 10003) dX3_init_12 ac_1 (by decide) rfl (Nat.le_of_ble_eq_true rfl) g3 rfl rfl rfl (fun _ => ⟨Nat.le_of_ble_eq_true rfl, Nat.le_of_ble_eq_true rfl⟩) ?_
  refine AW.genM (fun M4 => ?_)
  refine AW.sipush (pc := 14) dX3_init_14 cs_10000 ?_
  refine AW.chk (fun g5 => ?_)
  refine AW.newI (pc := 17) (ct' := (ct + 3)) (ce' := 3) (sl' := 20003) dX3_init_17 ac_1 (by decide) rfl (Nat.le_of_ble_eq_true rfl) g5 rfl rfl rfl (fun _ => ⟨Nat.le_of_ble_eq_true rfl, Nat.le_of_ble_eq_true rfl⟩) ?_
  refine AW.genM (fun M6 => ?_)
  refine AW.callI [.ref (ad E (ct + 2)), .ref (ad E (ct + 3))] [.ref (ad E (ct + 1)), .ref (ad E this)] (pc := 19) (ct9 := (ct + 3)) (ce9 := 3) (sl9 := 20003) dX3_init_19 mlX3_13 mbX1_init rfl rfl rfl (fun _ => okR_M (by omega) (Nat.le_of_ble_eq_true rfl) (Nat.le_of_ble_eq_true rfl)) rfl (kX1_init l E (n - 1) (by omega) (ct + 3) (by omega) (ct + 1) (ct + 2) (ct + 3) M6) rfl (Nat.le_of_ble_eq_true rfl) (fun _ M7 => ?_)
  refine AW.chk (fun b8 => ?_)
  refine AW.putR (pc := 22) dX3_init_22 flX3_16 (fun h => by cases h) hthis (by omega) (by omega) ?_
  refine AW.genM (fun M9 => ?_)
  refine AW.aload_n (pc := 25) dX3_init_25 rfl 0 rfl ?_
  refine AW.chk (fun g10 => ?_)
  refine AW.newO (pc := 26) (ct' := (ct + 4)) (ce' := 4) (sl' := 20006) dX3_init_26 rfl nwX3_9 g10 rfl rfl rfl (fun _ => ⟨Nat.le_of_ble_eq_true rfl, Nat.le_of_ble_eq_true rfl⟩) ?_
  refine AW.genM (fun M11 => ?_)
  refine AW.dup (pc := 29) dX3_init_29 rfl ?_
  refine AW.sipush (pc := 30) dX3_init_30 cs_10000 ?_
  refine AW.chk (fun g12 => ?_)
  refine AW.newI (pc := 33) (ct' := (ct + 5)) (ce' := 5) (sl' := 30006) dX3_init_33 ac_1 (by decide) rfl (Nat.le_of_ble_eq_true rfl) g12 rfl rfl rfl (fun _ => ⟨Nat.le_of_ble_eq_true rfl, Nat.le_of_ble_eq_true rfl⟩) ?_
  refine AW.genM (fun M13 => ?_)
  refine AW.sipush (pc := 35) dX3_init_35 cs_10000 ?_
  refine AW.chk (fun g14 => ?_)
  refine AW.newI (pc := 38) (ct' := (ct + 6)) (ce' := 6) (sl' := 40006) dX3_init_38 ac_1 (by decide) rfl (Nat.le_of_ble_eq_true rfl) g14 rfl rfl rfl (fun _ => ⟨Nat.le_of_ble_eq_true rfl, Nat.le_of_ble_eq_true rfl⟩) ?_
  refine AW.genM (fun M15 => ?_)
  refine AW.callI [.ref (ad E (ct + 5)), .ref (ad E (ct + 6))] [.ref (ad E (ct + 4)), .ref (ad E this)] (pc := 40) (ct9 := (ct + 6)) (ce9 := 6) (sl9 := 40006) dX3_init_40 mlX3_13 mbX1_init rfl rfl rfl (fun _ => okR_M (by omega) (Nat.le_of_ble_eq_true rfl) (Nat.le_of_ble_eq_true rfl)) rfl (kX1_init l E (n - 1) (by omega) (ct + 6) (by omega) (ct + 4) (ct + 5) (ct + 6) M15) rfl (Nat.le_of_ble_eq_true rfl) (fun _ M16 => ?_)
  refine AW.putR (pc := 43) dX3_init_43 flX3_20 (fun h => by cases h) hthis (by omega) (by omega) ?_
  refine AW.genM (fun M17 => ?_)
  refine AW.aload_n (pc := 46) dX3_init_46 rfl 0 rfl ?_
  refine AW.lconst (pc := 47) dX3_init_47 cl_0 ?_
  refine AW.putL (pc := 48) dX3_init_48 flX3_23 hthis (by omega) ?_
  refine AW.genM (fun M18 => ?_)
  refine AW.aload_n (pc := 51) dX3_init_51 rfl 0 rfl ?_
  refine AW.lconst (pc := 52) dX3_init_52 cl_0 ?_
  refine AW.putL (pc := 53) dX3_init_53 flX3_27 hthis (by omega) ?_
  refine AW.genM (fun M19 => ?_)
  refine AW.aload_n (pc := 56) dX3_init_56 rfl 0 rfl ?_
  refine AW.lconst (pc := 57) dX3_init_57 cl_0 ?_
  refine AW.putL (pc := 58) dX3_init_58 flX3_30 hthis (by omega) ?_
  refine AW.genM (fun M20 => ?_)
  refine AW.aload_n (pc := 61) dX3_init_61 rfl 0 rfl ?_
  refine AW.aload_n (pc := 62) dX3_init_62 rfl 1 rfl ?_
  refine AW.chk (fun g22 => ?_)
  refine AW.putR (pc := 63) dX3_init_63 flX3_33 (fun _ => ⟨rfl, rfl⟩) hthis (by omega) g22 ?_
  refine AW.genM (fun M21 => ?_)
  refine AW.aload_n (pc := 66) dX3_init_66 rfl 0 rfl ?_
  refine AW.chk (fun g23 => ?_)
  refine AW.newO (pc := 67) (ct' := (ct + 7)) (ce' := 7) (sl' := 40011) dX3_init_67 rfl nwX3_37 g23 rfl rfl rfl (fun _ => ⟨Nat.le_of_ble_eq_true rfl, Nat.le_of_ble_eq_true rfl⟩) ?_
  refine AW.genM (fun M24 => ?_)
  refine AW.dup (pc := 70) dX3_init_70 rfl ?_
  refine AW.aload_n (pc := 71) dX3_init_71 rfl 2 rfl ?_
  refine AW.sipush (pc := 72) dX3_init_72 cs_8000 ?_
  refine AW.chk (fun g25 => ?_)
  refine AW.newI (pc := 75) (ct' := (ct + 8)) (ce' := 8) (sl' := 48011) dX3_init_75 ac_1 (by decide) rfl (Nat.le_of_ble_eq_true rfl) g25 rfl rfl rfl (fun _ => ⟨Nat.le_of_ble_eq_true rfl, Nat.le_of_ble_eq_true rfl⟩) ?_
  refine AW.genM (fun M26 => ?_)
  refine AW.callI [.ref (ad E x2), .ref (ad E (ct + 8))] [.ref (ad E (ct + 7)), .ref (ad E this)] (pc := 77) (ct9 := (ct + 10)) (ce9 := 10) (sl9 := 48084) dX3_init_77 mlX3_39 mbX5_init rfl rfl rfl (fun _ => okR_M (by omega) (Nat.le_of_ble_eq_true rfl) (Nat.le_of_ble_eq_true rfl)) rfl (kX5_init l E (n - 1) (by omega) (ct + 8) (by omega) (ct + 7) x2 (ct + 8) M26) rfl (Nat.le_of_ble_eq_true rfl) (fun _ M27 => ?_)
  refine AW.putR (pc := 80) dX3_init_80 flX3_42 (fun _ => ⟨rfl, rfl⟩) hthis (by omega) (by omega) ?_
  refine AW.genM (fun M28 => ?_)
  exact AW.vret (pc := 83) dX3_init_83 rfl (fun _ _ _ => rfl) (Nat.le_refl _) (Nat.le_refl _)
-- GateBox$Rests.<init>(LGateBox$Giver;)V
def zX7_init (ct : Nat) (this : Nat) (x1 : Nat) (M : Mem) : Option (Unit × Mem) :=
  if K0 this = (0, 7) then
  if K0 (ct + 1) = (2, 100) then
  lt (zr M (ct + 1)) fun M2 =>
  if this ≤ (ct + 1) then
  lt (sR M2 this 1 (ct + 1)) fun M4 =>
  if K0 (ct + 2) = (2, 100) then
  lt (zr M4 (ct + 2)) fun M6 =>
  lt (sR M6 this 2 (ct + 2)) fun M7 =>
  lt (sI M7 this 3 0) fun M8 =>
  lt (sI M8 this 4 0) fun M9 =>
  if x1 ≠ 0 then
  lt (sR M9 this 0 x1) fun M10 =>
  some ((), M10)
  else none
  else none
  else none
  else none
  else none
set_option maxRecDepth 20000 in
set_option maxHeartbeats 4000000 in
theorem kX7_init (l : Launch) (E : Ev) (n : Nat) (hn : 1 ≤ n) (ct : Nat) (hct : 0 ≤ ct) (this : Nat) (x1 : Nat) (M : Mem) : AMg l E n 2 200 ct true (ct + 2) true yX7_init fX7_init enU [.ref (ad E this), .ref (ad E x1)] M (zX7_init ct this x1 M) := by
  unfold zX7_init
  refine AMg.of (by decide +kernel) ⟨rfl, rfl, rfl⟩ (Nat.le_of_ble_eq_true rfl) ?_
  refine AW.chk (fun hthis => ?_)
  refine AW.aload_n (pc := 0) dX7_init_0 rfl 0 rfl ?_
  refine AW.objI (pc := 1) dX7_init_1 oiX7_3 oi_w (fun _ => okR_M (by omega) (Nat.le_of_ble_eq_true rfl) (Nat.le_of_ble_eq_true rfl)) (Nat.le_of_ble_eq_true rfl) ?_
  refine AW.aload_n (pc := 4) dX7_init_4 rfl 0 rfl ?_
  refine AW.bipush (pc := 5) dX7_init_5 cb_100 ?_
  refine AW.chk (fun g1 => ?_)
  refine AW.newL (pc := 7) (ct' := (ct + 1)) (ce' := 1) (sl' := 100) dX7_init_7 ac_2 (by decide) rfl (Nat.le_of_ble_eq_true rfl) g1 rfl rfl rfl (fun _ => ⟨Nat.le_of_ble_eq_true rfl, Nat.le_of_ble_eq_true rfl⟩) ?_
  refine AW.genM (fun M2 => ?_)
  refine AW.chk (fun b3 => ?_)
  refine AW.putR (pc := 9) dX7_init_9 flX7_9 (fun _ => ⟨rfl, rfl⟩) hthis (by omega) (by omega) ?_
  refine AW.genM (fun M4 => ?_)
  refine AW.aload_n (pc := 12) dX7_init_12 rfl 0 rfl ?_
  refine AW.bipush (pc := 13) dX7_init_13 cb_100 ?_
  refine AW.chk (fun g5 => ?_)
  refine AW.newL (pc := 15) (ct' := (ct + 2)) (ce' := 2) (sl' := 200) dX7_init_15 ac_2 (by decide) rfl (Nat.le_of_ble_eq_true rfl) g5 rfl rfl rfl (fun _ => ⟨Nat.le_of_ble_eq_true rfl, Nat.le_of_ble_eq_true rfl⟩) ?_
  refine AW.genM (fun M6 => ?_)
  refine AW.putR (pc := 17) dX7_init_17 flX7_15 (fun _ => ⟨rfl, rfl⟩) hthis (by omega) (by omega) ?_
  refine AW.genM (fun M7 => ?_)
  refine AW.aload_n (pc := 20) dX7_init_20 rfl 0 rfl ?_
  refine AW.iconst (pc := 21) dX7_init_21 ci_0 ?_
  refine AW.putI (pc := 22) dX7_init_22 flX7_18 hthis (by omega) ?_
  refine AW.genM (fun M8 => ?_)
  refine AW.aload_n (pc := 25) dX7_init_25 rfl 0 rfl ?_
  refine AW.iconst (pc := 26) dX7_init_26 ci_0 ?_
  refine AW.putI (pc := 27) dX7_init_27 flX7_22 hthis (by omega) ?_
  refine AW.genM (fun M9 => ?_)
  refine AW.aload_n (pc := 30) dX7_init_30 rfl 0 rfl ?_
  refine AW.aload_n (pc := 31) dX7_init_31 rfl 1 rfl ?_
  refine AW.chk (fun g11 => ?_)
  refine AW.putR (pc := 32) dX7_init_32 flX7_25 (fun _ => ⟨rfl, rfl⟩) hthis (by omega) g11 ?_
  refine AW.genM (fun M10 => ?_)
  exact AW.vret (pc := 35) dX7_init_35 rfl (fun _ _ _ => rfl) (Nat.le_refl _) (Nat.le_refl _)
-- GateBox$Clues.<init>(LGateBox$Giver;)V
def zX2_init (ct : Nat) (this : Nat) (x1 : Nat) (M : Mem) : Option (Unit × Mem) :=
  if K0 this = (0, 2) then
  if K0 (ct + 1) = (1, 200) then
  lt (zr M (ct + 1)) fun M2 =>
  if this ≤ (ct + 1) then
  lt (sR M2 this 1 (ct + 1)) fun M4 =>
  if K0 (ct + 2) = (1, 200) then
  lt (zr M4 (ct + 2)) fun M6 =>
  lt (sR M6 this 2 (ct + 2)) fun M7 =>
  lt (sI M7 this 3 0) fun M8 =>
  if K0 (ct + 3) = (1, 4) then
  lt (zr M8 (ct + 3)) fun M10 =>
  lt (sR M10 this 4 (ct + 3)) fun M11 =>
  if K0 (ct + 4) = (1, 4) then
  lt (zr M11 (ct + 4)) fun M13 =>
  lt (sR M13 this 5 (ct + 4)) fun M14 =>
  if x1 ≠ 0 then
  lt (sR M14 this 0 x1) fun M15 =>
  some ((), M15)
  else none
  else none
  else none
  else none
  else none
  else none
  else none
set_option maxRecDepth 20000 in
set_option maxHeartbeats 4000000 in
theorem kX2_init (l : Launch) (E : Ev) (n : Nat) (hn : 1 ≤ n) (ct : Nat) (hct : 0 ≤ ct) (this : Nat) (x1 : Nat) (M : Mem) : AMg l E n 4 408 ct true (ct + 4) true yX2_init fX2_init enU [.ref (ad E this), .ref (ad E x1)] M (zX2_init ct this x1 M) := by
  unfold zX2_init
  refine AMg.of (by decide +kernel) ⟨rfl, rfl, rfl⟩ (Nat.le_of_ble_eq_true rfl) ?_
  refine AW.chk (fun hthis => ?_)
  refine AW.aload_n (pc := 0) dX2_init_0 rfl 0 rfl ?_
  refine AW.objI (pc := 1) dX2_init_1 oiX2_3 oi_w (fun _ => okR_M (by omega) (Nat.le_of_ble_eq_true rfl) (Nat.le_of_ble_eq_true rfl)) (Nat.le_of_ble_eq_true rfl) ?_
  refine AW.aload_n (pc := 4) dX2_init_4 rfl 0 rfl ?_
  refine AW.sipush (pc := 5) dX2_init_5 cs_200 ?_
  refine AW.chk (fun g1 => ?_)
  refine AW.newI (pc := 8) (ct' := (ct + 1)) (ce' := 1) (sl' := 200) dX2_init_8 ac_1 (by decide) rfl (Nat.le_of_ble_eq_true rfl) g1 rfl rfl rfl (fun _ => ⟨Nat.le_of_ble_eq_true rfl, Nat.le_of_ble_eq_true rfl⟩) ?_
  refine AW.genM (fun M2 => ?_)
  refine AW.chk (fun b3 => ?_)
  refine AW.putR (pc := 10) dX2_init_10 flX2_9 (fun _ => ⟨rfl, rfl⟩) hthis (by omega) (by omega) ?_
  refine AW.genM (fun M4 => ?_)
  refine AW.aload_n (pc := 13) dX2_init_13 rfl 0 rfl ?_
  refine AW.sipush (pc := 14) dX2_init_14 cs_200 ?_
  refine AW.chk (fun g5 => ?_)
  refine AW.newI (pc := 17) (ct' := (ct + 2)) (ce' := 2) (sl' := 400) dX2_init_17 ac_1 (by decide) rfl (Nat.le_of_ble_eq_true rfl) g5 rfl rfl rfl (fun _ => ⟨Nat.le_of_ble_eq_true rfl, Nat.le_of_ble_eq_true rfl⟩) ?_
  refine AW.genM (fun M6 => ?_)
  refine AW.putR (pc := 19) dX2_init_19 flX2_15 (fun _ => ⟨rfl, rfl⟩) hthis (by omega) (by omega) ?_
  refine AW.genM (fun M7 => ?_)
  refine AW.aload_n (pc := 22) dX2_init_22 rfl 0 rfl ?_
  refine AW.iconst (pc := 23) dX2_init_23 ci_0 ?_
  refine AW.putI (pc := 24) dX2_init_24 flX2_18 hthis (by omega) ?_
  refine AW.genM (fun M8 => ?_)
  refine AW.aload_n (pc := 27) dX2_init_27 rfl 0 rfl ?_
  refine AW.iconst (pc := 28) dX2_init_28 ci_4 ?_
  refine AW.chk (fun g9 => ?_)
  refine AW.newI (pc := 29) (ct' := (ct + 3)) (ce' := 3) (sl' := 404) dX2_init_29 ac_1 (by decide) rfl (Nat.le_of_ble_eq_true rfl) g9 rfl rfl rfl (fun _ => ⟨Nat.le_of_ble_eq_true rfl, Nat.le_of_ble_eq_true rfl⟩) ?_
  refine AW.genM (fun M10 => ?_)
  refine AW.putR (pc := 31) dX2_init_31 flX2_22 (fun _ => ⟨rfl, rfl⟩) hthis (by omega) (by omega) ?_
  refine AW.genM (fun M11 => ?_)
  refine AW.aload_n (pc := 34) dX2_init_34 rfl 0 rfl ?_
  refine AW.iconst (pc := 35) dX2_init_35 ci_4 ?_
  refine AW.chk (fun g12 => ?_)
  refine AW.newI (pc := 36) (ct' := (ct + 4)) (ce' := 4) (sl' := 408) dX2_init_36 ac_1 (by decide) rfl (Nat.le_of_ble_eq_true rfl) g12 rfl rfl rfl (fun _ => ⟨Nat.le_of_ble_eq_true rfl, Nat.le_of_ble_eq_true rfl⟩) ?_
  refine AW.genM (fun M13 => ?_)
  refine AW.putR (pc := 38) dX2_init_38 flX2_25 (fun _ => ⟨rfl, rfl⟩) hthis (by omega) (by omega) ?_
  refine AW.genM (fun M14 => ?_)
  refine AW.aload_n (pc := 41) dX2_init_41 rfl 0 rfl ?_
  refine AW.aload_n (pc := 42) dX2_init_42 rfl 1 rfl ?_
  refine AW.chk (fun g16 => ?_)
  refine AW.putR (pc := 43) dX2_init_43 flX2_28 (fun _ => ⟨rfl, rfl⟩) hthis (by omega) g16 ?_
  refine AW.genM (fun M15 => ?_)
  exact AW.vret (pc := 46) dX2_init_46 rfl (fun _ _ _ => rfl) (Nat.le_refl _) (Nat.le_refl _)
-- GateBox.<init>()V
def zX11_init (ct : Nat) (this : Nat) (M : Mem) : Option (Unit × Mem) :=
  if K0 this = (0, 11) then
  if K0 (ct + 1) = (0, 6) then
  lt (zr M (ct + 1)) fun M2 =>
  bnd (zX6_init (ct + 1) (ct + 1) M2) fun _ M3 =>
  if this ≤ (ct + 9) then
  lt (sR M3 this 0 (ct + 1)) fun M5 =>
  if K0 (ct + 10) = (0, 4) then
  lt (zr M5 (ct + 10)) fun M7 =>
  bnd (zX4_init (ct + 10) (ct + 10) M7) fun _ M8 =>
  lt (sR M8 this 1 (ct + 10)) fun M9 =>
  if K0 (ct + 24) = (0, 4) then
  lt (zr M9 (ct + 24)) fun M11 =>
  bnd (zX4_init (ct + 24) (ct + 24) M11) fun _ M12 =>
  lt (sR M12 this 2 (ct + 24)) fun M13 =>
  if K0 (ct + 38) = (1, 3) then
  lt (zr M13 (ct + 38)) fun M15 =>
  lt (sR M15 this 3 (ct + 38)) fun M16 =>
  if K0 (ct + 39) = (1, 3) then
  lt (zr M16 (ct + 39)) fun M18 =>
  lt (sR M18 this 4 (ct + 39)) fun M19 =>
  lt (sI M19 this 5 0) fun M20 =>
  lt (sI M20 this 6 (-1)) fun M21 =>
  if K0 (ct + 40) = (0, 5) then
  lt (zr M21 (ct + 40)) fun M23 =>
  if mR M23 this 1 ≠ 0 then
  if (mR M23 this 1) ≤ (ct + 40) then
  if K0 (mR M23 this 1) = (0, 4) then
  if mR M23 (mR M23 this 1) 0 ≠ 0 then
  if K0 (ct + 41) = (1, 800) then
  lt (zr M23 (ct + 41)) fun M29 =>
  bnd (zX5_init (ct + 41) (ct + 40) (mR M23 (mR M23 this 1) 0) (ct + 41) M29) fun _ M30 =>
  lt (sR M30 this 7 (ct + 40)) fun M31 =>
  if K0 (ct + 44) = (0, 10) then
  lt (zr M31 (ct + 44)) fun M33 =>
  if mR M33 this 7 ≠ 0 then
  bnd (zX10_init (ct + 44) (ct + 44) (mR M33 this 7) M33) fun _ M35 =>
  lt (sR M35 this 8 (ct + 44)) fun M36 =>
  if K0 (ct + 51) = (0, 3) then
  lt (zr M36 (ct + 51)) fun M38 =>
  if mR M38 this 7 ≠ 0 then
  if mR M38 this 1 ≠ 0 then
  if (mR M38 this 1) ≤ (ct + 51) then
  if K0 (mR M38 this 1) = (0, 4) then
  if mR M38 (mR M38 this 1) 0 ≠ 0 then
  bnd (zX3_init (ct + 51) (ct + 51) (mR M38 this 7) (mR M38 (mR M38 this 1) 0) M38) fun _ M44 =>
  lt (sR M44 this 9 (ct + 51)) fun M45 =>
  if K0 (ct + 62) = (0, 7) then
  lt (zr M45 (ct + 62)) fun M47 =>
  if mR M47 this 7 ≠ 0 then
  bnd (zX7_init (ct + 62) (ct + 62) (mR M47 this 7) M47) fun _ M49 =>
  lt (sR M49 this 10 (ct + 62)) fun M50 =>
  if K0 (ct + 65) = (0, 2) then
  lt (zr M50 (ct + 65)) fun M52 =>
  if mR M52 this 7 ≠ 0 then
  bnd (zX2_init (ct + 65) (ct + 65) (mR M52 this 7) M52) fun _ M54 =>
  lt (sR M54 this 11 (ct + 65)) fun M55 =>
  if K0 (ct + 70) = (0, 9) then
  lt (zr M55 (ct + 70)) fun M57 =>
  bnd (zX9_init (ct + 70) (ct + 70) M57) fun _ M58 =>
  lt (sR M58 this 12 (ct + 70)) fun M59 =>
  lt (sI M59 this 13 (-1)) fun M60 =>
  lt (sI M60 this 14 (-1)) fun M61 =>
  some ((), M61)
  else none
  else none
  else none
  else none
  else none
  else none
  else none
  else none
  else none
  else none
  else none
  else none
  else none
  else none
  else none
  else none
  else none
  else none
  else none
  else none
  else none
  else none
  else none
  else none
  else none
  else none
set_option maxRecDepth 20000 in
set_option maxHeartbeats 4000000 in
theorem kX11_init (l : Launch) (E : Ev) (n : Nat) (hn : 4 ≤ n) (ct : Nat) (hct : 0 ≤ ct) (this : Nat) (M : Mem) : AMg l E n 70 53935 ct true (ct + 70) true yX11_init fX11_init enU [.ref (ad E this)] M (zX11_init ct this M) := by
  unfold zX11_init
  refine AMg.of (by decide +kernel) ⟨rfl, rfl, rfl⟩ (Nat.le_of_ble_eq_true rfl) ?_
  refine AW.chk (fun hthis => ?_)
  refine AW.aload_n (pc := 0) dX11_init_0 rfl 0 rfl ?_
  refine AW.objI (pc := 1) dX11_init_1 oiX11_3 oi_w (fun _ => okR_M (by omega) (Nat.le_of_ble_eq_true rfl) (Nat.le_of_ble_eq_true rfl)) (Nat.le_of_ble_eq_true rfl) ?_
  refine AW.aload_n (pc := 4) dX11_init_4 rfl 0 rfl ?_
  refine AW.chk (fun g1 => ?_)
  refine AW.newO (pc := 5) (ct' := (ct + 1)) (ce' := 1) (sl' := 12) dX11_init_5 rfl nwX11_9 g1 rfl rfl rfl (fun _ => ⟨Nat.le_of_ble_eq_true rfl, Nat.le_of_ble_eq_true rfl⟩) ?_
  refine AW.genM (fun M2 => ?_)
  refine AW.dup (pc := 8) dX11_init_8 rfl ?_
  refine AW.callIN [] [.ref (ad E (ct + 1)), .ref (ad E this)] (pc := 9) (ct9 := (ct + 9)) (ce9 := 9) (sl9 := 1462) dX11_init_9 nlX11_11 mbX6_init rfl rfl rfl (fun _ => okR_M (by omega) (Nat.le_of_ble_eq_true rfl) (Nat.le_of_ble_eq_true rfl)) rfl (kX6_init l E (n - 1) (by omega) (ct + 1) (by omega) (ct + 1) M2) rfl (Nat.le_of_ble_eq_true rfl) (fun _ M3 => ?_)
  refine AW.chk (fun b4 => ?_)
  refine AW.putR (pc := 12) dX11_init_12 flX11_12 (fun _ => ⟨rfl, rfl⟩) hthis (by omega) (by omega) ?_
  refine AW.genM (fun M5 => ?_)
  refine AW.aload_n (pc := 15) dX11_init_15 rfl 0 rfl ?_
  refine AW.chk (fun g6 => ?_)
  refine AW.newO (pc := 16) (ct' := (ct + 10)) (ce' := 10) (sl' := 1466) dX11_init_16 rfl nwX11_16 g6 rfl rfl rfl (fun _ => ⟨Nat.le_of_ble_eq_true rfl, Nat.le_of_ble_eq_true rfl⟩) ?_
  refine AW.genM (fun M7 => ?_)
  refine AW.dup (pc := 19) dX11_init_19 rfl ?_
  refine AW.callIN [] [.ref (ad E (ct + 10)), .ref (ad E this)] (pc := 20) (ct9 := (ct + 23)) (ce9 := 23) (sl9 := 2694) dX11_init_20 nlX11_18 mbX4_init rfl rfl rfl (fun _ => okR_M (by omega) (Nat.le_of_ble_eq_true rfl) (Nat.le_of_ble_eq_true rfl)) rfl (kX4_init l E (n - 1) (by omega) (ct + 10) (by omega) (ct + 10) M7) rfl (Nat.le_of_ble_eq_true rfl) (fun _ M8 => ?_)
  refine AW.putR (pc := 23) dX11_init_23 flX11_19 (fun _ => ⟨rfl, rfl⟩) hthis (by omega) (by omega) ?_
  refine AW.genM (fun M9 => ?_)
  refine AW.aload_n (pc := 26) dX11_init_26 rfl 0 rfl ?_
  refine AW.chk (fun g10 => ?_)
  refine AW.newO (pc := 27) (ct' := (ct + 24)) (ce' := 24) (sl' := 2698) dX11_init_27 rfl nwX11_16 g10 rfl rfl rfl (fun _ => ⟨Nat.le_of_ble_eq_true rfl, Nat.le_of_ble_eq_true rfl⟩) ?_
  refine AW.genM (fun M11 => ?_)
  refine AW.dup (pc := 30) dX11_init_30 rfl ?_
  refine AW.callIN [] [.ref (ad E (ct + 24)), .ref (ad E this)] (pc := 31) (ct9 := (ct + 37)) (ce9 := 37) (sl9 := 3926) dX11_init_31 nlX11_18 mbX4_init rfl rfl rfl (fun _ => okR_M (by omega) (Nat.le_of_ble_eq_true rfl) (Nat.le_of_ble_eq_true rfl)) rfl (kX4_init l E (n - 1) (by omega) (ct + 24) (by omega) (ct + 24) M11) rfl (Nat.le_of_ble_eq_true rfl) (fun _ M12 => ?_)
  refine AW.putR (pc := 34) dX11_init_34 flX11_23 (fun _ => ⟨rfl, rfl⟩) hthis (by omega) (by omega) ?_
  refine AW.genM (fun M13 => ?_)
  refine AW.aload_n (pc := 37) dX11_init_37 rfl 0 rfl ?_
  refine AW.iconst (pc := 38) dX11_init_38 ci_3 ?_
  refine AW.chk (fun g14 => ?_)
  refine AW.newI (pc := 39) (ct' := (ct + 38)) (ce' := 38) (sl' := 3929) dX11_init_39 ac_1 (by decide) rfl (Nat.le_of_ble_eq_true rfl) g14 rfl rfl rfl (fun _ => ⟨Nat.le_of_ble_eq_true rfl, Nat.le_of_ble_eq_true rfl⟩) ?_
  refine AW.genM (fun M15 => ?_)
  refine AW.putR (pc := 41) dX11_init_41 flX11_26 (fun _ => ⟨rfl, rfl⟩) hthis (by omega) (by omega) ?_
  refine AW.genM (fun M16 => ?_)
  refine AW.aload_n (pc := 44) dX11_init_44 rfl 0 rfl ?_
  refine AW.iconst (pc := 45) dX11_init_45 ci_3 ?_
  refine AW.chk (fun g17 => ?_)
  refine AW.newI (pc := 46) (ct' := (ct + 39)) (ce' := 39) (sl' := 3932) dX11_init_46 ac_1 (by decide) rfl (Nat.le_of_ble_eq_true rfl) g17 rfl rfl rfl (fun _ => ⟨Nat.le_of_ble_eq_true rfl, Nat.le_of_ble_eq_true rfl⟩) ?_
  refine AW.genM (fun M18 => ?_)
  refine AW.putR (pc := 48) dX11_init_48 flX11_30 (fun _ => ⟨rfl, rfl⟩) hthis (by omega) (by omega) ?_
  refine AW.genM (fun M19 => ?_)
  refine AW.aload_n (pc := 51) dX11_init_51 rfl 0 rfl ?_
  refine AW.iconst (pc := 52) dX11_init_52 ci_0 ?_
  refine AW.putZ (pc := 53) dX11_init_53 flX11_33 hthis (by omega) (Or.inl rfl) ?_
  refine AW.genM (fun M20 => ?_)
  refine AW.aload_n (pc := 56) dX11_init_56 rfl 0 rfl ?_
  refine AW.iconst (pc := 57) dX11_init_57 ci_m1 ?_
  refine AW.putI (pc := 58) dX11_init_58 flX11_37 hthis (by omega) ?_
  refine AW.genM (fun M21 => ?_)
  refine AW.aload_n (pc := 61) dX11_init_61 rfl 0 rfl ?_
  refine AW.chk (fun g22 => ?_)
  refine AW.newO (pc := 62) (ct' := (ct + 40)) (ce' := 40) (sl' := 3937) dX11_init_62 rfl nwX11_41 g22 rfl rfl rfl (fun _ => ⟨Nat.le_of_ble_eq_true rfl, Nat.le_of_ble_eq_true rfl⟩) ?_
  refine AW.genM (fun M23 => ?_)
  refine AW.dup (pc := 65) dX11_init_65 rfl ?_
  refine AW.aload_n (pc := 66) dX11_init_66 rfl 0 rfl ?_
  refine AW.chk (fun g24 => ?_)
  refine AW.getR (pc := 67) dX11_init_67 flX11_19 hthis (by omega) g24 ?_
  refine AW.chk (fun b25 => ?_)
  refine AW.chk (fun g26 => ?_)
  refine AW.chk (fun g27 => ?_)
  refine AW.getR (pc := 70) dX11_init_70 flX11_43 g26 (by omega) g27 ?_
  refine AW.sipush (pc := 73) dX11_init_73 cs_800 ?_
  refine AW.chk (fun g28 => ?_)
  refine AW.newI (pc := 76) (ct' := (ct + 41)) (ce' := 41) (sl' := 4737) dX11_init_76 ac_1 (by decide) rfl (Nat.le_of_ble_eq_true rfl) g28 rfl rfl rfl (fun _ => ⟨Nat.le_of_ble_eq_true rfl, Nat.le_of_ble_eq_true rfl⟩) ?_
  refine AW.genM (fun M29 => ?_)
  refine AW.callI [.ref (ad E (mR M23 (mR M23 this 1) 0)), .ref (ad E (ct + 41))] [.ref (ad E (ct + 40)), .ref (ad E this)] (pc := 78) (ct9 := (ct + 43)) (ce9 := 43) (sl9 := 4810) dX11_init_78 mlX11_47 mbX5_init rfl rfl rfl (fun _ => okR_M (by omega) (Nat.le_of_ble_eq_true rfl) (Nat.le_of_ble_eq_true rfl)) rfl (kX5_init l E (n - 1) (by omega) (ct + 41) (by omega) (ct + 40) (mR M23 (mR M23 this 1) 0) (ct + 41) M29) rfl (Nat.le_of_ble_eq_true rfl) (fun _ M30 => ?_)
  refine AW.putR (pc := 81) dX11_init_81 flX11_50 (fun _ => ⟨rfl, rfl⟩) hthis (by omega) (by omega) ?_
  refine AW.genM (fun M31 => ?_)
  refine AW.aload_n (pc := 84) dX11_init_84 rfl 0 rfl ?_
  refine AW.chk (fun g32 => ?_)
  refine AW.newO (pc := 85) (ct' := (ct + 44)) (ce' := 44) (sl' := 4815) dX11_init_85 rfl nwX11_54 g32 rfl rfl rfl (fun _ => ⟨Nat.le_of_ble_eq_true rfl, Nat.le_of_ble_eq_true rfl⟩) ?_
  refine AW.genM (fun M33 => ?_)
  refine AW.dup (pc := 88) dX11_init_88 rfl ?_
  refine AW.aload_n (pc := 89) dX11_init_89 rfl 0 rfl ?_
  refine AW.chk (fun g34 => ?_)
  refine AW.getR (pc := 90) dX11_init_90 flX11_50 hthis (by omega) g34 ?_
  refine AW.callI [.ref (ad E (mR M33 this 7))] [.ref (ad E (ct + 44)), .ref (ad E this)] (pc := 93) (ct9 := (ct + 50)) (ce9 := 50) (sl9 := 5221) dX11_init_93 mlX11_56 mbX10_init rfl rfl rfl (fun _ => okR_M (by omega) (Nat.le_of_ble_eq_true rfl) (Nat.le_of_ble_eq_true rfl)) rfl (kX10_init l E (n - 1) (by omega) (ct + 44) (by omega) (ct + 44) (mR M33 this 7) M33) rfl (Nat.le_of_ble_eq_true rfl) (fun _ M35 => ?_)
  refine AW.putR (pc := 96) dX11_init_96 flX11_59 (fun _ => ⟨rfl, rfl⟩) hthis (by omega) (by omega) ?_
  refine AW.genM (fun M36 => ?_)
  refine AW.aload_n (pc := 99) dX11_init_99 rfl 0 rfl ?_
  refine AW.chk (fun g37 => ?_)
  refine AW.newO (pc := 100) (ct' := (ct + 51)) (ce' := 51) (sl' := 5228) dX11_init_100 rfl nwX11_63 g37 rfl rfl rfl (fun _ => ⟨Nat.le_of_ble_eq_true rfl, Nat.le_of_ble_eq_true rfl⟩) ?_
  refine AW.genM (fun M38 => ?_)
  refine AW.dup (pc := 103) dX11_init_103 rfl ?_
  refine AW.aload_n (pc := 104) dX11_init_104 rfl 0 rfl ?_
  refine AW.chk (fun g39 => ?_)
  refine AW.getR (pc := 105) dX11_init_105 flX11_50 hthis (by omega) g39 ?_
  refine AW.aload_n (pc := 108) dX11_init_108 rfl 0 rfl ?_
  refine AW.chk (fun g40 => ?_)
  refine AW.getR (pc := 109) dX11_init_109 flX11_19 hthis (by omega) g40 ?_
  refine AW.chk (fun b41 => ?_)
  refine AW.chk (fun g42 => ?_)
  refine AW.chk (fun g43 => ?_)
  refine AW.getR (pc := 112) dX11_init_112 flX11_43 g42 (by omega) g43 ?_
  refine AW.callI [.ref (ad E (mR M38 this 7)), .ref (ad E (mR M38 (mR M38 this 1) 0))] [.ref (ad E (ct + 51)), .ref (ad E this)] (pc := 115) (ct9 := (ct + 61)) (ce9 := 61) (sl9 := 53312) dX11_init_115 mlX11_65 mbX3_init rfl rfl rfl (fun _ => okR_M (by omega) (Nat.le_of_ble_eq_true rfl) (Nat.le_of_ble_eq_true rfl)) rfl (kX3_init l E (n - 1) (by omega) (ct + 51) (by omega) (ct + 51) (mR M38 this 7) (mR M38 (mR M38 this 1) 0) M38) rfl (Nat.le_of_ble_eq_true rfl) (fun _ M44 => ?_)
  refine AW.putR (pc := 118) dX11_init_118 flX11_68 (fun _ => ⟨rfl, rfl⟩) hthis (by omega) (by omega) ?_
  refine AW.genM (fun M45 => ?_)
  refine AW.aload_n (pc := 121) dX11_init_121 rfl 0 rfl ?_
  refine AW.chk (fun g46 => ?_)
  refine AW.newO (pc := 122) (ct' := (ct + 62)) (ce' := 62) (sl' := 53317) dX11_init_122 rfl nwX11_72 g46 rfl rfl rfl (fun _ => ⟨Nat.le_of_ble_eq_true rfl, Nat.le_of_ble_eq_true rfl⟩) ?_
  refine AW.genM (fun M47 => ?_)
  refine AW.dup (pc := 125) dX11_init_125 rfl ?_
  refine AW.aload_n (pc := 126) dX11_init_126 rfl 0 rfl ?_
  refine AW.chk (fun g48 => ?_)
  refine AW.getR (pc := 127) dX11_init_127 flX11_50 hthis (by omega) g48 ?_
  refine AW.callI [.ref (ad E (mR M47 this 7))] [.ref (ad E (ct + 62)), .ref (ad E this)] (pc := 130) (ct9 := (ct + 64)) (ce9 := 64) (sl9 := 53517) dX11_init_130 mlX11_74 mbX7_init rfl rfl rfl (fun _ => okR_M (by omega) (Nat.le_of_ble_eq_true rfl) (Nat.le_of_ble_eq_true rfl)) rfl (kX7_init l E (n - 1) (by omega) (ct + 62) (by omega) (ct + 62) (mR M47 this 7) M47) rfl (Nat.le_of_ble_eq_true rfl) (fun _ M49 => ?_)
  refine AW.putR (pc := 133) dX11_init_133 flX11_75 (fun _ => ⟨rfl, rfl⟩) hthis (by omega) (by omega) ?_
  refine AW.genM (fun M50 => ?_)
  refine AW.aload_n (pc := 136) dX11_init_136 rfl 0 rfl ?_
  refine AW.chk (fun g51 => ?_)
  refine AW.newO (pc := 137) (ct' := (ct + 65)) (ce' := 65) (sl' := 53523) dX11_init_137 rfl nwX11_79 g51 rfl rfl rfl (fun _ => ⟨Nat.le_of_ble_eq_true rfl, Nat.le_of_ble_eq_true rfl⟩) ?_
  refine AW.genM (fun M52 => ?_)
  refine AW.dup (pc := 140) dX11_init_140 rfl ?_
  refine AW.aload_n (pc := 141) dX11_init_141 rfl 0 rfl ?_
  refine AW.chk (fun g53 => ?_)
  refine AW.getR (pc := 142) dX11_init_142 flX11_50 hthis (by omega) g53 ?_
  refine AW.callI [.ref (ad E (mR M52 this 7))] [.ref (ad E (ct + 65)), .ref (ad E this)] (pc := 145) (ct9 := (ct + 69)) (ce9 := 69) (sl9 := 53931) dX11_init_145 mlX11_81 mbX2_init rfl rfl rfl (fun _ => okR_M (by omega) (Nat.le_of_ble_eq_true rfl) (Nat.le_of_ble_eq_true rfl)) rfl (kX2_init l E (n - 1) (by omega) (ct + 65) (by omega) (ct + 65) (mR M52 this 7) M52) rfl (Nat.le_of_ble_eq_true rfl) (fun _ M54 => ?_)
  refine AW.putR (pc := 148) dX11_init_148 flX11_82 (fun _ => ⟨rfl, rfl⟩) hthis (by omega) (by omega) ?_
  refine AW.genM (fun M55 => ?_)
  refine AW.aload_n (pc := 151) dX11_init_151 rfl 0 rfl ?_
  refine AW.chk (fun g56 => ?_)
  refine AW.newO (pc := 152) (ct' := (ct + 70)) (ce' := 70) (sl' := 53935) dX11_init_152 rfl nwX11_86 g56 rfl rfl rfl (fun _ => ⟨Nat.le_of_ble_eq_true rfl, Nat.le_of_ble_eq_true rfl⟩) ?_
  refine AW.genM (fun M57 => ?_)
  refine AW.dup (pc := 155) dX11_init_155 rfl ?_
  refine AW.callIN [] [.ref (ad E (ct + 70)), .ref (ad E this)] (pc := 156) (ct9 := (ct + 70)) (ce9 := 70) (sl9 := 53935) dX11_init_156 nlX11_88 mbX9_init rfl rfl rfl (fun _ => okR_M (by omega) (Nat.le_of_ble_eq_true rfl) (Nat.le_of_ble_eq_true rfl)) rfl (kX9_init l E (n - 1) (by omega) (ct + 70) (by omega) (ct + 70) M57) rfl (Nat.le_of_ble_eq_true rfl) (fun _ M58 => ?_)
  refine AW.putR (pc := 159) dX11_init_159 flX11_89 (fun _ => ⟨rfl, rfl⟩) hthis (by omega) (by omega) ?_
  refine AW.genM (fun M59 => ?_)
  refine AW.aload_n (pc := 162) dX11_init_162 rfl 0 rfl ?_
  refine AW.iconst (pc := 163) dX11_init_163 ci_m1 ?_
  refine AW.putI (pc := 164) dX11_init_164 flX11_93 hthis (by omega) ?_
  refine AW.genM (fun M60 => ?_)
  refine AW.aload_n (pc := 167) dX11_init_167 rfl 0 rfl ?_
  refine AW.iconst (pc := 168) dX11_init_168 ci_m1 ?_
  refine AW.putI (pc := 169) dX11_init_169 flX11_96 hthis (by omega) ?_
  refine AW.genM (fun M61 => ?_)
  exact AW.vret (pc := 172) dX11_init_172 rfl (fun _ _ _ => rfl) (Nat.le_refl _) (Nat.le_refl _)
-- GateBoxModel.<init>()V
def zX12_init_B397 (KK397 : Nat → Int32 → Mem → Option (Unit × Mem)) (this : Nat) (x1 : Int32) (M : Mem) : Option (Unit × Mem) :=
  if 2 ≤ x1 then
    some ((), M)
  else
    bnd (zX12_atFirst this x1 M) fun _ M2 =>
    KK397 this (x1 + 1) M2
def zX12_init_L397 : Nat → Nat → Int32 → Mem → Option (Unit × Mem)
  | 0 => fun _ _ _ => none
  | k + 1 => zX12_init_B397 (zX12_init_L397 k)
def zX12_init (ct : Nat) (this : Nat) (M : Mem) : Option (Unit × Mem) :=
  if K0 this = (0, 12) then
  if K0 (ct + 1) = (4, 7) then
  lt (zr M (ct + 1)) fun M2 =>
  lt (sR M2 (ct + 1) (Int32.toNatClampNeg 0) 1020) fun M3 =>
  lt (sR M3 (ct + 1) (Int32.toNatClampNeg 1) 1021) fun M4 =>
  lt (sR M4 (ct + 1) (Int32.toNatClampNeg 2) 1022) fun M5 =>
  lt (sR M5 (ct + 1) (Int32.toNatClampNeg 3) 1023) fun M6 =>
  lt (sR M6 (ct + 1) (Int32.toNatClampNeg 4) 1024) fun M7 =>
  lt (sR M7 (ct + 1) (Int32.toNatClampNeg 5) 1025) fun M8 =>
  lt (sR M8 (ct + 1) (Int32.toNatClampNeg 6) 1026) fun M9 =>
  if this ≤ (ct + 1) then
  lt (sR M9 this 0 (ct + 1)) fun M11 =>
  if K0 (ct + 2) = (4, 9) then
  lt (zr M11 (ct + 2)) fun M13 =>
  lt (sR M13 (ct + 2) (Int32.toNatClampNeg 0) 1027) fun M14 =>
  lt (sR M14 (ct + 2) (Int32.toNatClampNeg 1) 1028) fun M15 =>
  lt (sR M15 (ct + 2) (Int32.toNatClampNeg 2) 1029) fun M16 =>
  lt (sR M16 (ct + 2) (Int32.toNatClampNeg 3) 1030) fun M17 =>
  lt (sR M17 (ct + 2) (Int32.toNatClampNeg 4) 1022) fun M18 =>
  lt (sR M18 (ct + 2) (Int32.toNatClampNeg 5) 1031) fun M19 =>
  lt (sR M19 (ct + 2) (Int32.toNatClampNeg 6) 1023) fun M20 =>
  lt (sR M20 (ct + 2) (Int32.toNatClampNeg 7) 1024) fun M21 =>
  lt (sR M21 (ct + 2) (Int32.toNatClampNeg 8) 1025) fun M22 =>
  lt (sR M22 this 1 (ct + 2)) fun M23 =>
  if K0 (ct + 3) = (1, 3) then
  lt (zr M23 (ct + 3)) fun M25 =>
  lt (sR M25 this 3 (ct + 3)) fun M26 =>
  if K0 (ct + 4) = (1, 21) then
  lt (zr M26 (ct + 4)) fun M28 =>
  lt (sR M28 this 4 (ct + 4)) fun M29 =>
  if K0 (ct + 5) = (1, 24) then
  lt (zr M29 (ct + 5)) fun M31 =>
  lt (sR M31 this 5 (ct + 5)) fun M32 =>
  if K0 (ct + 6) = (1, 24) then
  lt (zr M32 (ct + 6)) fun M34 =>
  lt (sR M34 this 6 (ct + 6)) fun M35 =>
  if K0 (ct + 7) = (1, 24) then
  lt (zr M35 (ct + 7)) fun M37 =>
  lt (sR M37 this 7 (ct + 7)) fun M38 =>
  if K0 (ct + 8) = (1, 24) then
  lt (zr M38 (ct + 8)) fun M40 =>
  lt (sR M40 this 8 (ct + 8)) fun M41 =>
  if K0 (ct + 9) = (1, 24) then
  lt (zr M41 (ct + 9)) fun M43 =>
  lt (sR M43 this 9 (ct + 9)) fun M44 =>
  if K0 (ct + 10) = (1, 2100) then
  lt (zr M44 (ct + 10)) fun M46 =>
  lt (sR M46 this 10 (ct + 10)) fun M47 =>
  if K0 (ct + 11) = (1, 2) then
  lt (zr M47 (ct + 11)) fun M49 =>
  lt (sR M49 this 11 (ct + 11)) fun M50 =>
  if K0 (ct + 12) = (1, 2) then
  lt (zr M50 (ct + 12)) fun M52 =>
  lt (sR M52 this 12 (ct + 12)) fun M53 =>
  if K0 (ct + 13) = (1, 2) then
  lt (zr M53 (ct + 13)) fun M55 =>
  lt (sR M55 this 13 (ct + 13)) fun M56 =>
  if K0 (ct + 14) = (1, 400) then
  lt (zr M56 (ct + 14)) fun M58 =>
  lt (sR M58 this 14 (ct + 14)) fun M59 =>
  if K0 (ct + 15) = (1, 2) then
  lt (zr M59 (ct + 15)) fun M61 =>
  lt (sR M61 this 15 (ct + 15)) fun M62 =>
  if K0 (ct + 16) = (1, 2) then
  lt (zr M62 (ct + 16)) fun M64 =>
  lt (sR M64 this 16 (ct + 16)) fun M65 =>
  if K0 (ct + 17) = (1, 64) then
  lt (zr M65 (ct + 17)) fun M67 =>
  lt (sR M67 this 17 (ct + 17)) fun M68 =>
  if K0 (ct + 18) = (1, 3) then
  lt (zr M68 (ct + 18)) fun M70 =>
  lt (sR M70 this 18 (ct + 18)) fun M71 =>
  if K0 (ct + 19) = (1, 700) then
  lt (zr M71 (ct + 19)) fun M73 =>
  lt (sR M73 this 19 (ct + 19)) fun M74 =>
  lt (sI M74 this 29 (-1)) fun M75 =>
  if K0 (ct + 20) = (1, 60) then
  lt (zr M75 (ct + 20)) fun M77 =>
  lt (sR M77 this 31 (ct + 20)) fun M78 =>
  if K0 (ct + 21) = (2, 100) then
  lt (zr M78 (ct + 21)) fun M80 =>
  lt (sR M80 this 32 (ct + 21)) fun M81 =>
  if K0 (ct + 22) = (2, 100) then
  lt (zr M81 (ct + 22)) fun M83 =>
  lt (sR M83 this 33 (ct + 22)) fun M84 =>
  if K0 (ct + 23) = (1, 800) then
  lt (zr M84 (ct + 23)) fun M86 =>
  lt (sR M86 this 34 (ct + 23)) fun M87 =>
  if K0 (ct + 24) = (3, 10000) then
  lt (zr M87 (ct + 24)) fun M89 =>
  lt (sR M89 this 38 (ct + 24)) fun M90 =>
  if K0 (ct + 25) = (1, 7) then
  lt (zr M90 (ct + 25)) fun M92 =>
  lt (sR M92 this 39 (ct + 25)) fun M93 =>
  if K0 (ct + 26) = (2, 10000) then
  lt (zr M93 (ct + 26)) fun M95 =>
  lt (sR M95 this 40 (ct + 26)) fun M96 =>
  if K0 (ct + 27) = (2, 10000) then
  lt (zr M96 (ct + 27)) fun M98 =>
  lt (sR M98 this 41 (ct + 27)) fun M99 =>
  if K0 (ct + 28) = (1, 8000) then
  lt (zr M99 (ct + 28)) fun M101 =>
  lt (sR M101 this 42 (ct + 28)) fun M102 =>
  if K0 (ct + 29) = (1, 200) then
  lt (zr M102 (ct + 29)) fun M104 =>
  lt (sR M104 this 46 (ct + 29)) fun M105 =>
  if K0 (ct + 30) = (2, 4) then
  lt (zr M105 (ct + 30)) fun M107 =>
  lt (sR M107 this 47 (ct + 30)) fun M108 =>
  if K0 (ct + 31) = (1, 2) then
  lt (zr M108 (ct + 31)) fun M110 =>
  lt (sR M110 this 50 (ct + 31)) fun M111 =>
  if K0 (ct + 32) = (1, 2) then
  lt (zr M111 (ct + 32)) fun M113 =>
  lt (sR M113 this 51 (ct + 32)) fun M114 =>
  if K0 (ct + 33) = (1, 2) then
  lt (zr M114 (ct + 33)) fun M116 =>
  lt (sR M116 this 52 (ct + 33)) fun M117 =>
  if K0 (ct + 34) = (1, 400) then
  lt (zr M117 (ct + 34)) fun M119 =>
  lt (sR M119 this 53 (ct + 34)) fun M120 =>
  if K0 (ct + 35) = (1, 2) then
  lt (zr M120 (ct + 35)) fun M122 =>
  lt (sR M122 this 54 (ct + 35)) fun M123 =>
  if K0 (ct + 36) = (1, 2) then
  lt (zr M123 (ct + 36)) fun M125 =>
  lt (sR M125 this 55 (ct + 36)) fun M126 =>
  if K0 (ct + 37) = (1, 64) then
  lt (zr M126 (ct + 37)) fun M128 =>
  lt (sR M128 this 56 (ct + 37)) fun M129 =>
  if K0 (ct + 38) = (1, 3) then
  lt (zr M129 (ct + 38)) fun M131 =>
  lt (sR M131 this 57 (ct + 38)) fun M132 =>
  zX12_init_L397 FU this 0 M132
  else none
  else none
  else none
  else none
  else none
  else none
  else none
  else none
  else none
  else none
  else none
  else none
  else none
  else none
  else none
  else none
  else none
  else none
  else none
  else none
  else none
  else none
  else none
  else none
  else none
  else none
  else none
  else none
  else none
  else none
  else none
  else none
  else none
  else none
  else none
  else none
  else none
  else none
  else none
  else none
set_option maxRecDepth 20000 in
set_option maxHeartbeats 4000000 in
theorem kX12_init_B397 (l : Launch) (E : Ev) (n : Nat) (hn : 2 ≤ n) (ct : Nat) (hct : 110 ≤ ct) (ex : Bool) (KK397 : Nat → Int32 → Mem → Option (Unit × Mem)) (hKK397 : ∀ (this : Nat) (x1 : Int32) (M : Mem) (_ : K0 this = (0, 12)), AW l E fX12_init (fun _ => rmN n 38 43185) (PQr E 38 43185 ct ex enU) ct ex 38 43185 397 [(0, .ref (ad E this)), (1, .int x1)] [] M (KK397 this x1 M)) (this : Nat) (x1 : Int32) (M : Mem) (hthis : K0 this = (0, 12)) : AW l E fX12_init (fun _ => rmN n 38 43185) (PQr E 38 43185 ct ex enU) ct ex 38 43185 397 [(0, .ref (ad E this)), (1, .int x1)] [] M (zX12_init_B397 KK397 this x1 M) := by
  unfold zX12_init_B397
  refine AW.iload_n (pc := 397) dX12_init_397 rfl 1 rfl ?_
  refine AW.iconst (pc := 398) dX12_init_398 ci_2 ?_
  refine AW.icmp_ge (pc := 399) 413 dX12_init_399 (by decide) (fun h1 => ?_) (fun h1 => ?_)
  · exact AW.vret (pc := 413) dX12_init_413 rfl (fun _ _ _ => rfl) (Nat.le_refl _) (Nat.le_refl _)
  · refine AW.aload_n (pc := 402) dX12_init_402 rfl 0 rfl ?_
    refine AW.iload_n (pc := 403) dX12_init_403 rfl 1 rfl ?_
    refine AW.cV1v (pc := 404) dX12_init_404 mlX12_155 mbX12_atFirst rfl hthis (kct0 hthis rfl hct) (fun _ => okR_M (by omega) (Nat.le_of_ble_eq_true rfl) (Nat.le_of_ble_eq_true rfl)) (kX12_atFirst l E (n - 1) (by omega) ct hct ex this x1 M) (Nat.le_of_ble_eq_true rfl) (fun _ M2 => ?_)
    refine AW.iinc (pc := 407) (w := 1) [1, 0] [(0, .ref (ad E this)), (1, .int (x1 + 1))] dX12_init_407 rfl (inc_1 _) (by decide) rfl ?_
    refine AW.goto (pc := 410) 397 dX12_init_410 (by decide) ?_
    exact hKK397 this (x1 + 1) M2 hthis
set_option maxRecDepth 20000 in
set_option maxHeartbeats 4000000 in
theorem kX12_init_L397 (l : Launch) (E : Ev) (n : Nat) (hn : 2 ≤ n) (ct : Nat) (hct : 110 ≤ ct) (ex : Bool) (k : Nat) : ∀ (this : Nat) (x1 : Int32) (M : Mem) (_ : K0 this = (0, 12)), AW l E fX12_init (fun _ => rmN n 38 43185) (PQr E 38 43185 ct ex enU) ct ex 38 43185 397 [(0, .ref (ad E this)), (1, .int x1)] [] M (zX12_init_L397 k this x1 M) := by
  induction k with
  | zero => intro this x1 M _; exact AW.none
  | succ k ih =>
    intro this x1 M hthis
    exact kX12_init_B397 l E n hn ct hct ex (zX12_init_L397 k) ih this x1 M hthis
set_option maxRecDepth 20000 in
set_option maxHeartbeats 4000000 in
theorem kX12_init (l : Launch) (E : Ev) (n : Nat) (hn : 2 ≤ n) (ct : Nat) (hct : 72 ≤ ct) (this : Nat) (M : Mem) : AMg l E n 38 43185 ct true (ct + 38) true yX12_init fX12_init enU [.ref (ad E this)] M (zX12_init ct this M) := by
  unfold zX12_init
  refine AMg.of (by decide +kernel) ⟨rfl, rfl, rfl⟩ (Nat.le_of_ble_eq_true rfl) ?_
  refine AW.chk (fun hthis => ?_)
  refine AW.aload_n (pc := 0) dX12_init_0 rfl 0 rfl ?_
  refine AW.objI (pc := 1) dX12_init_1 oiX12_1 oi_w (fun _ => okR_M (by omega) (Nat.le_of_ble_eq_true rfl) (Nat.le_of_ble_eq_true rfl)) (Nat.le_of_ble_eq_true rfl) ?_
  refine AW.aload_n (pc := 4) dX12_init_4 rfl 0 rfl ?_
  refine AW.bipush (pc := 5) dX12_init_5 cb_7 ?_
  refine AW.chk (fun g1 => ?_)
  refine AW.newS (pc := 7) (ct' := (ct + 1)) (ce' := 1) (sl' := 7) dX12_init_7 aoX12_7 (by decide) rfl (Nat.le_of_ble_eq_true rfl) g1 rfl rfl rfl (fun _ => ⟨Nat.le_of_ble_eq_true rfl, Nat.le_of_ble_eq_true rfl⟩) ?_
  refine AW.genM (fun M2 => ?_)
  refine AW.dup (pc := 10) dX12_init_10 rfl ?_
  refine AW.iconst (pc := 11) dX12_init_11 ci_0 ?_
  refine AW.ldcS (pc := 12) (i := 20) dX12_init_12 rfl ?_
  refine AW.aast (pc := 14) (i := 20) dX12_init_14 g1 (by omega) (by decide) (by omega) ?_
  refine AW.genM (fun M3 => ?_)
  refine AW.dup (pc := 15) dX12_init_15 rfl ?_
  refine AW.iconst (pc := 16) dX12_init_16 ci_1 ?_
  refine AW.ldcS (pc := 17) (i := 21) dX12_init_17 rfl ?_
  refine AW.aast (pc := 19) (i := 21) dX12_init_19 g1 (by omega) (by decide) (by omega) ?_
  refine AW.genM (fun M4 => ?_)
  refine AW.dup (pc := 20) dX12_init_20 rfl ?_
  refine AW.iconst (pc := 21) dX12_init_21 ci_2 ?_
  refine AW.ldcS (pc := 22) (i := 22) dX12_init_22 rfl ?_
  refine AW.aast (pc := 24) (i := 22) dX12_init_24 g1 (by omega) (by decide) (by omega) ?_
  refine AW.genM (fun M5 => ?_)
  refine AW.dup (pc := 25) dX12_init_25 rfl ?_
  refine AW.iconst (pc := 26) dX12_init_26 ci_3 ?_
  refine AW.ldcS (pc := 27) (i := 23) dX12_init_27 rfl ?_
  refine AW.aast (pc := 29) (i := 23) dX12_init_29 g1 (by omega) (by decide) (by omega) ?_
  refine AW.genM (fun M6 => ?_)
  refine AW.dup (pc := 30) dX12_init_30 rfl ?_
  refine AW.iconst (pc := 31) dX12_init_31 ci_4 ?_
  refine AW.ldcS (pc := 32) (i := 24) dX12_init_32 rfl ?_
  refine AW.aast (pc := 34) (i := 24) dX12_init_34 g1 (by omega) (by decide) (by omega) ?_
  refine AW.genM (fun M7 => ?_)
  refine AW.dup (pc := 35) dX12_init_35 rfl ?_
  refine AW.iconst (pc := 36) dX12_init_36 ci_5 ?_
  refine AW.ldcS (pc := 37) (i := 25) dX12_init_37 rfl ?_
  refine AW.aast (pc := 39) (i := 25) dX12_init_39 g1 (by omega) (by decide) (by omega) ?_
  refine AW.genM (fun M8 => ?_)
  refine AW.dup (pc := 40) dX12_init_40 rfl ?_
  refine AW.bipush (pc := 41) dX12_init_41 cb_6 ?_
  refine AW.ldcS (pc := 43) (i := 26) dX12_init_43 rfl ?_
  refine AW.aast (pc := 45) (i := 26) dX12_init_45 g1 (by omega) (by decide) (by omega) ?_
  refine AW.genM (fun M9 => ?_)
  refine AW.chk (fun b10 => ?_)
  refine AW.putR (pc := 46) dX12_init_46 flX12_23 (fun _ => ⟨rfl, rfl⟩) hthis (by omega) (by omega) ?_
  refine AW.genM (fun M11 => ?_)
  refine AW.aload_n (pc := 49) dX12_init_49 rfl 0 rfl ?_
  refine AW.bipush (pc := 50) dX12_init_50 cb_9 ?_
  refine AW.chk (fun g12 => ?_)
  refine AW.newS (pc := 52) (ct' := (ct + 2)) (ce' := 2) (sl' := 16) dX12_init_52 aoX12_7 (by decide) rfl (Nat.le_of_ble_eq_true rfl) g12 rfl rfl rfl (fun _ => ⟨Nat.le_of_ble_eq_true rfl, Nat.le_of_ble_eq_true rfl⟩) ?_
  refine AW.genM (fun M13 => ?_)
  refine AW.dup (pc := 55) dX12_init_55 rfl ?_
  refine AW.iconst (pc := 56) dX12_init_56 ci_0 ?_
  refine AW.ldcS (pc := 57) (i := 27) dX12_init_57 rfl ?_
  refine AW.aast (pc := 59) (i := 27) dX12_init_59 g12 (by omega) (by decide) (by omega) ?_
  refine AW.genM (fun M14 => ?_)
  refine AW.dup (pc := 60) dX12_init_60 rfl ?_
  refine AW.iconst (pc := 61) dX12_init_61 ci_1 ?_
  refine AW.ldcS (pc := 62) (i := 28) dX12_init_62 rfl ?_
  refine AW.aast (pc := 64) (i := 28) dX12_init_64 g12 (by omega) (by decide) (by omega) ?_
  refine AW.genM (fun M15 => ?_)
  refine AW.dup (pc := 65) dX12_init_65 rfl ?_
  refine AW.iconst (pc := 66) dX12_init_66 ci_2 ?_
  refine AW.ldcS (pc := 67) (i := 29) dX12_init_67 rfl ?_
  refine AW.aast (pc := 69) (i := 29) dX12_init_69 g12 (by omega) (by decide) (by omega) ?_
  refine AW.genM (fun M16 => ?_)
  refine AW.dup (pc := 70) dX12_init_70 rfl ?_
  refine AW.iconst (pc := 71) dX12_init_71 ci_3 ?_
  refine AW.ldcS (pc := 72) (i := 30) dX12_init_72 rfl ?_
  refine AW.aast (pc := 74) (i := 30) dX12_init_74 g12 (by omega) (by decide) (by omega) ?_
  refine AW.genM (fun M17 => ?_)
  refine AW.dup (pc := 75) dX12_init_75 rfl ?_
  refine AW.iconst (pc := 76) dX12_init_76 ci_4 ?_
  refine AW.ldcS (pc := 77) (i := 22) dX12_init_77 rfl ?_
  refine AW.aast (pc := 79) (i := 22) dX12_init_79 g12 (by omega) (by decide) (by omega) ?_
  refine AW.genM (fun M18 => ?_)
  refine AW.dup (pc := 80) dX12_init_80 rfl ?_
  refine AW.iconst (pc := 81) dX12_init_81 ci_5 ?_
  refine AW.ldcS (pc := 82) (i := 31) dX12_init_82 rfl ?_
  refine AW.aast (pc := 84) (i := 31) dX12_init_84 g12 (by omega) (by decide) (by omega) ?_
  refine AW.genM (fun M19 => ?_)
  refine AW.dup (pc := 85) dX12_init_85 rfl ?_
  refine AW.bipush (pc := 86) dX12_init_86 cb_6 ?_
  refine AW.ldcS (pc := 88) (i := 23) dX12_init_88 rfl ?_
  refine AW.aast (pc := 90) (i := 23) dX12_init_90 g12 (by omega) (by decide) (by omega) ?_
  refine AW.genM (fun M20 => ?_)
  refine AW.dup (pc := 91) dX12_init_91 rfl ?_
  refine AW.bipush (pc := 92) dX12_init_92 cb_7 ?_
  refine AW.ldcS (pc := 94) (i := 24) dX12_init_94 rfl ?_
  refine AW.aast (pc := 96) (i := 24) dX12_init_96 g12 (by omega) (by decide) (by omega) ?_
  refine AW.genM (fun M21 => ?_)
  refine AW.dup (pc := 97) dX12_init_97 rfl ?_
  refine AW.bipush (pc := 98) dX12_init_98 cb_8 ?_
  refine AW.ldcS (pc := 100) (i := 25) dX12_init_100 rfl ?_
  refine AW.aast (pc := 102) (i := 25) dX12_init_102 g12 (by omega) (by decide) (by omega) ?_
  refine AW.genM (fun M22 => ?_)
  refine AW.putR (pc := 103) dX12_init_103 flX12_39 (fun _ => ⟨rfl, rfl⟩) hthis (by omega) (by omega) ?_
  refine AW.genM (fun M23 => ?_)
  refine AW.aload_n (pc := 106) dX12_init_106 rfl 0 rfl ?_
  refine AW.iconst (pc := 107) dX12_init_107 ci_3 ?_
  refine AW.chk (fun g24 => ?_)
  refine AW.newI (pc := 108) (ct' := (ct + 3)) (ce' := 3) (sl' := 19) dX12_init_108 ac_1 (by decide) rfl (Nat.le_of_ble_eq_true rfl) g24 rfl rfl rfl (fun _ => ⟨Nat.le_of_ble_eq_true rfl, Nat.le_of_ble_eq_true rfl⟩) ?_
  refine AW.genM (fun M25 => ?_)
  refine AW.putR (pc := 110) dX12_init_110 flX12_42 (fun _ => ⟨rfl, rfl⟩) hthis (by omega) (by omega) ?_
  refine AW.genM (fun M26 => ?_)
  refine AW.aload_n (pc := 113) dX12_init_113 rfl 0 rfl ?_
  refine AW.bipush (pc := 114) dX12_init_114 cb_21 ?_
  refine AW.chk (fun g27 => ?_)
  refine AW.newI (pc := 116) (ct' := (ct + 4)) (ce' := 4) (sl' := 40) dX12_init_116 ac_1 (by decide) rfl (Nat.le_of_ble_eq_true rfl) g27 rfl rfl rfl (fun _ => ⟨Nat.le_of_ble_eq_true rfl, Nat.le_of_ble_eq_true rfl⟩) ?_
  refine AW.genM (fun M28 => ?_)
  refine AW.putR (pc := 118) dX12_init_118 flX12_46 (fun _ => ⟨rfl, rfl⟩) hthis (by omega) (by omega) ?_
  refine AW.genM (fun M29 => ?_)
  refine AW.aload_n (pc := 121) dX12_init_121 rfl 0 rfl ?_
  refine AW.bipush (pc := 122) dX12_init_122 cb_24 ?_
  refine AW.chk (fun g30 => ?_)
  refine AW.newI (pc := 124) (ct' := (ct + 5)) (ce' := 5) (sl' := 64) dX12_init_124 ac_1 (by decide) rfl (Nat.le_of_ble_eq_true rfl) g30 rfl rfl rfl (fun _ => ⟨Nat.le_of_ble_eq_true rfl, Nat.le_of_ble_eq_true rfl⟩) ?_
  refine AW.genM (fun M31 => ?_)
  refine AW.putR (pc := 126) dX12_init_126 flX12_49 (fun _ => ⟨rfl, rfl⟩) hthis (by omega) (by omega) ?_
  refine AW.genM (fun M32 => ?_)
  refine AW.aload_n (pc := 129) dX12_init_129 rfl 0 rfl ?_
  refine AW.bipush (pc := 130) dX12_init_130 cb_24 ?_
  refine AW.chk (fun g33 => ?_)
  refine AW.newI (pc := 132) (ct' := (ct + 6)) (ce' := 6) (sl' := 88) dX12_init_132 ac_1 (by decide) rfl (Nat.le_of_ble_eq_true rfl) g33 rfl rfl rfl (fun _ => ⟨Nat.le_of_ble_eq_true rfl, Nat.le_of_ble_eq_true rfl⟩) ?_
  refine AW.genM (fun M34 => ?_)
  refine AW.putR (pc := 134) dX12_init_134 flX12_52 (fun _ => ⟨rfl, rfl⟩) hthis (by omega) (by omega) ?_
  refine AW.genM (fun M35 => ?_)
  refine AW.aload_n (pc := 137) dX12_init_137 rfl 0 rfl ?_
  refine AW.bipush (pc := 138) dX12_init_138 cb_24 ?_
  refine AW.chk (fun g36 => ?_)
  refine AW.newI (pc := 140) (ct' := (ct + 7)) (ce' := 7) (sl' := 112) dX12_init_140 ac_1 (by decide) rfl (Nat.le_of_ble_eq_true rfl) g36 rfl rfl rfl (fun _ => ⟨Nat.le_of_ble_eq_true rfl, Nat.le_of_ble_eq_true rfl⟩) ?_
  refine AW.genM (fun M37 => ?_)
  refine AW.putR (pc := 142) dX12_init_142 flX12_54 (fun _ => ⟨rfl, rfl⟩) hthis (by omega) (by omega) ?_
  refine AW.genM (fun M38 => ?_)
  refine AW.aload_n (pc := 145) dX12_init_145 rfl 0 rfl ?_
  refine AW.bipush (pc := 146) dX12_init_146 cb_24 ?_
  refine AW.chk (fun g39 => ?_)
  refine AW.newI (pc := 148) (ct' := (ct + 8)) (ce' := 8) (sl' := 136) dX12_init_148 ac_1 (by decide) rfl (Nat.le_of_ble_eq_true rfl) g39 rfl rfl rfl (fun _ => ⟨Nat.le_of_ble_eq_true rfl, Nat.le_of_ble_eq_true rfl⟩) ?_
  refine AW.genM (fun M40 => ?_)
  refine AW.putR (pc := 150) dX12_init_150 flX12_56 (fun _ => ⟨rfl, rfl⟩) hthis (by omega) (by omega) ?_
  refine AW.genM (fun M41 => ?_)
  refine AW.aload_n (pc := 153) dX12_init_153 rfl 0 rfl ?_
  refine AW.bipush (pc := 154) dX12_init_154 cb_24 ?_
  refine AW.chk (fun g42 => ?_)
  refine AW.newI (pc := 156) (ct' := (ct + 9)) (ce' := 9) (sl' := 160) dX12_init_156 ac_1 (by decide) rfl (Nat.le_of_ble_eq_true rfl) g42 rfl rfl rfl (fun _ => ⟨Nat.le_of_ble_eq_true rfl, Nat.le_of_ble_eq_true rfl⟩) ?_
  refine AW.genM (fun M43 => ?_)
  refine AW.putR (pc := 158) dX12_init_158 flX12_59 (fun _ => ⟨rfl, rfl⟩) hthis (by omega) (by omega) ?_
  refine AW.genM (fun M44 => ?_)
  refine AW.aload_n (pc := 161) dX12_init_161 rfl 0 rfl ?_
  refine AW.sipush (pc := 162) dX12_init_162 cs_2100 ?_
  refine AW.chk (fun g45 => ?_)
  refine AW.newI (pc := 165) (ct' := (ct + 10)) (ce' := 10) (sl' := 2260) dX12_init_165 ac_1 (by decide) rfl (Nat.le_of_ble_eq_true rfl) g45 rfl rfl rfl (fun _ => ⟨Nat.le_of_ble_eq_true rfl, Nat.le_of_ble_eq_true rfl⟩) ?_
  refine AW.genM (fun M46 => ?_)
  refine AW.putR (pc := 167) dX12_init_167 flX12_62 (fun _ => ⟨rfl, rfl⟩) hthis (by omega) (by omega) ?_
  refine AW.genM (fun M47 => ?_)
  refine AW.aload_n (pc := 170) dX12_init_170 rfl 0 rfl ?_
  refine AW.iconst (pc := 171) dX12_init_171 ci_2 ?_
  refine AW.chk (fun g48 => ?_)
  refine AW.newI (pc := 172) (ct' := (ct + 11)) (ce' := 11) (sl' := 2262) dX12_init_172 ac_1 (by decide) rfl (Nat.le_of_ble_eq_true rfl) g48 rfl rfl rfl (fun _ => ⟨Nat.le_of_ble_eq_true rfl, Nat.le_of_ble_eq_true rfl⟩) ?_
  refine AW.genM (fun M49 => ?_)
  refine AW.putR (pc := 174) dX12_init_174 flX12_65 (fun _ => ⟨rfl, rfl⟩) hthis (by omega) (by omega) ?_
  refine AW.genM (fun M50 => ?_)
  refine AW.aload_n (pc := 177) dX12_init_177 rfl 0 rfl ?_
  refine AW.iconst (pc := 178) dX12_init_178 ci_2 ?_
  refine AW.chk (fun g51 => ?_)
  refine AW.newI (pc := 179) (ct' := (ct + 12)) (ce' := 12) (sl' := 2264) dX12_init_179 ac_1 (by decide) rfl (Nat.le_of_ble_eq_true rfl) g51 rfl rfl rfl (fun _ => ⟨Nat.le_of_ble_eq_true rfl, Nat.le_of_ble_eq_true rfl⟩) ?_
  refine AW.genM (fun M52 => ?_)
  refine AW.putR (pc := 181) dX12_init_181 flX12_68 (fun _ => ⟨rfl, rfl⟩) hthis (by omega) (by omega) ?_
  refine AW.genM (fun M53 => ?_)
  refine AW.aload_n (pc := 184) dX12_init_184 rfl 0 rfl ?_
  refine AW.iconst (pc := 185) dX12_init_185 ci_2 ?_
  refine AW.chk (fun g54 => ?_)
  refine AW.newI (pc := 186) (ct' := (ct + 13)) (ce' := 13) (sl' := 2266) dX12_init_186 ac_1 (by decide) rfl (Nat.le_of_ble_eq_true rfl) g54 rfl rfl rfl (fun _ => ⟨Nat.le_of_ble_eq_true rfl, Nat.le_of_ble_eq_true rfl⟩) ?_
  refine AW.genM (fun M55 => ?_)
  refine AW.putR (pc := 188) dX12_init_188 flX12_71 (fun _ => ⟨rfl, rfl⟩) hthis (by omega) (by omega) ?_
  refine AW.genM (fun M56 => ?_)
  refine AW.aload_n (pc := 191) dX12_init_191 rfl 0 rfl ?_
  refine AW.sipush (pc := 192) dX12_init_192 cs_400 ?_
  refine AW.chk (fun g57 => ?_)
  refine AW.newI (pc := 195) (ct' := (ct + 14)) (ce' := 14) (sl' := 2666) dX12_init_195 ac_1 (by decide) rfl (Nat.le_of_ble_eq_true rfl) g57 rfl rfl rfl (fun _ => ⟨Nat.le_of_ble_eq_true rfl, Nat.le_of_ble_eq_true rfl⟩) ?_
  refine AW.genM (fun M58 => ?_)
  refine AW.putR (pc := 197) dX12_init_197 flX12_74 (fun _ => ⟨rfl, rfl⟩) hthis (by omega) (by omega) ?_
  refine AW.genM (fun M59 => ?_)
  refine AW.aload_n (pc := 200) dX12_init_200 rfl 0 rfl ?_
  refine AW.iconst (pc := 201) dX12_init_201 ci_2 ?_
  refine AW.chk (fun g60 => ?_)
  refine AW.newI (pc := 202) (ct' := (ct + 15)) (ce' := 15) (sl' := 2668) dX12_init_202 ac_1 (by decide) rfl (Nat.le_of_ble_eq_true rfl) g60 rfl rfl rfl (fun _ => ⟨Nat.le_of_ble_eq_true rfl, Nat.le_of_ble_eq_true rfl⟩) ?_
  refine AW.genM (fun M61 => ?_)
  refine AW.putR (pc := 204) dX12_init_204 flX12_77 (fun _ => ⟨rfl, rfl⟩) hthis (by omega) (by omega) ?_
  refine AW.genM (fun M62 => ?_)
  refine AW.aload_n (pc := 207) dX12_init_207 rfl 0 rfl ?_
  refine AW.iconst (pc := 208) dX12_init_208 ci_2 ?_
  refine AW.chk (fun g63 => ?_)
  refine AW.newI (pc := 209) (ct' := (ct + 16)) (ce' := 16) (sl' := 2670) dX12_init_209 ac_1 (by decide) rfl (Nat.le_of_ble_eq_true rfl) g63 rfl rfl rfl (fun _ => ⟨Nat.le_of_ble_eq_true rfl, Nat.le_of_ble_eq_true rfl⟩) ?_
  refine AW.genM (fun M64 => ?_)
  refine AW.putR (pc := 211) dX12_init_211 flX12_80 (fun _ => ⟨rfl, rfl⟩) hthis (by omega) (by omega) ?_
  refine AW.genM (fun M65 => ?_)
  refine AW.aload_n (pc := 214) dX12_init_214 rfl 0 rfl ?_
  refine AW.bipush (pc := 215) dX12_init_215 cb_64 ?_
  refine AW.chk (fun g66 => ?_)
  refine AW.newI (pc := 217) (ct' := (ct + 17)) (ce' := 17) (sl' := 2734) dX12_init_217 ac_1 (by decide) rfl (Nat.le_of_ble_eq_true rfl) g66 rfl rfl rfl (fun _ => ⟨Nat.le_of_ble_eq_true rfl, Nat.le_of_ble_eq_true rfl⟩) ?_
  refine AW.genM (fun M67 => ?_)
  refine AW.putR (pc := 219) dX12_init_219 flX12_83 (fun _ => ⟨rfl, rfl⟩) hthis (by omega) (by omega) ?_
  refine AW.genM (fun M68 => ?_)
  refine AW.aload_n (pc := 222) dX12_init_222 rfl 0 rfl ?_
  refine AW.iconst (pc := 223) dX12_init_223 ci_3 ?_
  refine AW.chk (fun g69 => ?_)
  refine AW.newI (pc := 224) (ct' := (ct + 18)) (ce' := 18) (sl' := 2737) dX12_init_224 ac_1 (by decide) rfl (Nat.le_of_ble_eq_true rfl) g69 rfl rfl rfl (fun _ => ⟨Nat.le_of_ble_eq_true rfl, Nat.le_of_ble_eq_true rfl⟩) ?_
  refine AW.genM (fun M70 => ?_)
  refine AW.putR (pc := 226) dX12_init_226 flX12_86 (fun _ => ⟨rfl, rfl⟩) hthis (by omega) (by omega) ?_
  refine AW.genM (fun M71 => ?_)
  refine AW.aload_n (pc := 229) dX12_init_229 rfl 0 rfl ?_
  refine AW.sipush (pc := 230) dX12_init_230 cs_700 ?_
  refine AW.chk (fun g72 => ?_)
  refine AW.newI (pc := 233) (ct' := (ct + 19)) (ce' := 19) (sl' := 3437) dX12_init_233 ac_1 (by decide) rfl (Nat.le_of_ble_eq_true rfl) g72 rfl rfl rfl (fun _ => ⟨Nat.le_of_ble_eq_true rfl, Nat.le_of_ble_eq_true rfl⟩) ?_
  refine AW.genM (fun M73 => ?_)
  refine AW.putR (pc := 235) dX12_init_235 flX12_89 (fun _ => ⟨rfl, rfl⟩) hthis (by omega) (by omega) ?_
  refine AW.genM (fun M74 => ?_)
  refine AW.aload_n (pc := 238) dX12_init_238 rfl 0 rfl ?_
  refine AW.iconst (pc := 239) dX12_init_239 ci_m1 ?_
  refine AW.putI (pc := 240) dX12_init_240 flX12_92 hthis (by omega) ?_
  refine AW.genM (fun M75 => ?_)
  refine AW.aload_n (pc := 243) dX12_init_243 rfl 0 rfl ?_
  refine AW.bipush (pc := 244) dX12_init_244 cb_60 ?_
  refine AW.chk (fun g76 => ?_)
  refine AW.newI (pc := 246) (ct' := (ct + 20)) (ce' := 20) (sl' := 3497) dX12_init_246 ac_1 (by decide) rfl (Nat.le_of_ble_eq_true rfl) g76 rfl rfl rfl (fun _ => ⟨Nat.le_of_ble_eq_true rfl, Nat.le_of_ble_eq_true rfl⟩) ?_
  refine AW.genM (fun M77 => ?_)
  refine AW.putR (pc := 248) dX12_init_248 flX12_96 (fun _ => ⟨rfl, rfl⟩) hthis (by omega) (by omega) ?_
  refine AW.genM (fun M78 => ?_)
  refine AW.aload_n (pc := 251) dX12_init_251 rfl 0 rfl ?_
  refine AW.bipush (pc := 252) dX12_init_252 cb_100 ?_
  refine AW.chk (fun g79 => ?_)
  refine AW.newL (pc := 254) (ct' := (ct + 21)) (ce' := 21) (sl' := 3597) dX12_init_254 ac_2 (by decide) rfl (Nat.le_of_ble_eq_true rfl) g79 rfl rfl rfl (fun _ => ⟨Nat.le_of_ble_eq_true rfl, Nat.le_of_ble_eq_true rfl⟩) ?_
  refine AW.genM (fun M80 => ?_)
  refine AW.putR (pc := 256) dX12_init_256 flX12_99 (fun _ => ⟨rfl, rfl⟩) hthis (by omega) (by omega) ?_
  refine AW.genM (fun M81 => ?_)
  refine AW.aload_n (pc := 259) dX12_init_259 rfl 0 rfl ?_
  refine AW.bipush (pc := 260) dX12_init_260 cb_100 ?_
  refine AW.chk (fun g82 => ?_)
  refine AW.newL (pc := 262) (ct' := (ct + 22)) (ce' := 22) (sl' := 3697) dX12_init_262 ac_2 (by decide) rfl (Nat.le_of_ble_eq_true rfl) g82 rfl rfl rfl (fun _ => ⟨Nat.le_of_ble_eq_true rfl, Nat.le_of_ble_eq_true rfl⟩) ?_
  refine AW.genM (fun M83 => ?_)
  refine AW.putR (pc := 264) dX12_init_264 flX12_103 (fun _ => ⟨rfl, rfl⟩) hthis (by omega) (by omega) ?_
  refine AW.genM (fun M84 => ?_)
  refine AW.aload_n (pc := 267) dX12_init_267 rfl 0 rfl ?_
  refine AW.sipush (pc := 268) dX12_init_268 cs_800 ?_
  refine AW.chk (fun g85 => ?_)
  refine AW.newI (pc := 271) (ct' := (ct + 23)) (ce' := 23) (sl' := 4497) dX12_init_271 ac_1 (by decide) rfl (Nat.le_of_ble_eq_true rfl) g85 rfl rfl rfl (fun _ => ⟨Nat.le_of_ble_eq_true rfl, Nat.le_of_ble_eq_true rfl⟩) ?_
  refine AW.genM (fun M86 => ?_)
  refine AW.putR (pc := 273) dX12_init_273 flX12_106 (fun _ => ⟨rfl, rfl⟩) hthis (by omega) (by omega) ?_
  refine AW.genM (fun M87 => ?_)
  refine AW.aload_n (pc := 276) dX12_init_276 rfl 0 rfl ?_
  refine AW.sipush (pc := 277) dX12_init_277 cs_10000 ?_
  refine AW.chk (fun g88 => ?_)
  refine AW.newZ (pc := 280) (ct' := (ct + 24)) (ce' := 24) (sl' := 14497) dX12_init_280 ac_3 (by decide) rfl (Nat.le_of_ble_eq_true rfl) g88 rfl rfl rfl (fun _ => ⟨Nat.le_of_ble_eq_true rfl, Nat.le_of_ble_eq_true rfl⟩) ?_
  refine AW.genM (fun M89 => ?_)
  refine AW.putR (pc := 282) dX12_init_282 flX12_109 (fun _ => ⟨rfl, rfl⟩) hthis (by omega) (by omega) ?_
  refine AW.genM (fun M90 => ?_)
  refine AW.aload_n (pc := 285) dX12_init_285 rfl 0 rfl ?_
  refine AW.bipush (pc := 286) dX12_init_286 cb_7 ?_
  refine AW.chk (fun g91 => ?_)
  refine AW.newI (pc := 288) (ct' := (ct + 25)) (ce' := 25) (sl' := 14504) dX12_init_288 ac_1 (by decide) rfl (Nat.le_of_ble_eq_true rfl) g91 rfl rfl rfl (fun _ => ⟨Nat.le_of_ble_eq_true rfl, Nat.le_of_ble_eq_true rfl⟩) ?_
  refine AW.genM (fun M92 => ?_)
  refine AW.putR (pc := 290) dX12_init_290 flX12_113 (fun _ => ⟨rfl, rfl⟩) hthis (by omega) (by omega) ?_
  refine AW.genM (fun M93 => ?_)
  refine AW.aload_n (pc := 293) dX12_init_293 rfl 0 rfl ?_
  refine AW.sipush (pc := 294) dX12_init_294 cs_10000 ?_
  refine AW.chk (fun g94 => ?_)
  refine AW.newL (pc := 297) (ct' := (ct + 26)) (ce' := 26) (sl' := 24504) dX12_init_297 ac_2 (by decide) rfl (Nat.le_of_ble_eq_true rfl) g94 rfl rfl rfl (fun _ => ⟨Nat.le_of_ble_eq_true rfl, Nat.le_of_ble_eq_true rfl⟩) ?_
  refine AW.genM (fun M95 => ?_)
  refine AW.putR (pc := 299) dX12_init_299 flX12_116 (fun _ => ⟨rfl, rfl⟩) hthis (by omega) (by omega) ?_
  refine AW.genM (fun M96 => ?_)
  refine AW.aload_n (pc := 302) dX12_init_302 rfl 0 rfl ?_
  refine AW.sipush (pc := 303) dX12_init_303 cs_10000 ?_
  refine AW.chk (fun g97 => ?_)
  refine AW.newL (pc := 306) (ct' := (ct + 27)) (ce' := 27) (sl' := 34504) dX12_init_306 ac_2 (by decide) rfl (Nat.le_of_ble_eq_true rfl) g97 rfl rfl rfl (fun _ => ⟨Nat.le_of_ble_eq_true rfl, Nat.le_of_ble_eq_true rfl⟩) ?_
  refine AW.genM (fun M98 => ?_)
  refine AW.putR (pc := 308) dX12_init_308 flX12_119 (fun _ => ⟨rfl, rfl⟩) hthis (by omega) (by omega) ?_
  refine AW.genM (fun M99 => ?_)
  refine AW.aload_n (pc := 311) dX12_init_311 rfl 0 rfl ?_
  refine AW.sipush (pc := 312) dX12_init_312 cs_8000 ?_
  refine AW.chk (fun g100 => ?_)
  refine AW.newI (pc := 315) (ct' := (ct + 28)) (ce' := 28) (sl' := 42504) dX12_init_315 ac_1 (by decide) rfl (Nat.le_of_ble_eq_true rfl) g100 rfl rfl rfl (fun _ => ⟨Nat.le_of_ble_eq_true rfl, Nat.le_of_ble_eq_true rfl⟩) ?_
  refine AW.genM (fun M101 => ?_)
  refine AW.putR (pc := 317) dX12_init_317 flX12_122 (fun _ => ⟨rfl, rfl⟩) hthis (by omega) (by omega) ?_
  refine AW.genM (fun M102 => ?_)
  refine AW.aload_n (pc := 320) dX12_init_320 rfl 0 rfl ?_
  refine AW.sipush (pc := 321) dX12_init_321 cs_200 ?_
  refine AW.chk (fun g103 => ?_)
  refine AW.newI (pc := 324) (ct' := (ct + 29)) (ce' := 29) (sl' := 42704) dX12_init_324 ac_1 (by decide) rfl (Nat.le_of_ble_eq_true rfl) g103 rfl rfl rfl (fun _ => ⟨Nat.le_of_ble_eq_true rfl, Nat.le_of_ble_eq_true rfl⟩) ?_
  refine AW.genM (fun M104 => ?_)
  refine AW.putR (pc := 326) dX12_init_326 flX12_125 (fun _ => ⟨rfl, rfl⟩) hthis (by omega) (by omega) ?_
  refine AW.genM (fun M105 => ?_)
  refine AW.aload_n (pc := 329) dX12_init_329 rfl 0 rfl ?_
  refine AW.iconst (pc := 330) dX12_init_330 ci_4 ?_
  refine AW.chk (fun g106 => ?_)
  refine AW.newL (pc := 331) (ct' := (ct + 30)) (ce' := 30) (sl' := 42708) dX12_init_331 ac_2 (by decide) rfl (Nat.le_of_ble_eq_true rfl) g106 rfl rfl rfl (fun _ => ⟨Nat.le_of_ble_eq_true rfl, Nat.le_of_ble_eq_true rfl⟩) ?_
  refine AW.genM (fun M107 => ?_)
  refine AW.putR (pc := 333) dX12_init_333 flX12_128 (fun _ => ⟨rfl, rfl⟩) hthis (by omega) (by omega) ?_
  refine AW.genM (fun M108 => ?_)
  refine AW.aload_n (pc := 336) dX12_init_336 rfl 0 rfl ?_
  refine AW.iconst (pc := 337) dX12_init_337 ci_2 ?_
  refine AW.chk (fun g109 => ?_)
  refine AW.newI (pc := 338) (ct' := (ct + 31)) (ce' := 31) (sl' := 42710) dX12_init_338 ac_1 (by decide) rfl (Nat.le_of_ble_eq_true rfl) g109 rfl rfl rfl (fun _ => ⟨Nat.le_of_ble_eq_true rfl, Nat.le_of_ble_eq_true rfl⟩) ?_
  refine AW.genM (fun M110 => ?_)
  refine AW.putR (pc := 340) dX12_init_340 flX12_131 (fun _ => ⟨rfl, rfl⟩) hthis (by omega) (by omega) ?_
  refine AW.genM (fun M111 => ?_)
  refine AW.aload_n (pc := 343) dX12_init_343 rfl 0 rfl ?_
  refine AW.iconst (pc := 344) dX12_init_344 ci_2 ?_
  refine AW.chk (fun g112 => ?_)
  refine AW.newI (pc := 345) (ct' := (ct + 32)) (ce' := 32) (sl' := 42712) dX12_init_345 ac_1 (by decide) rfl (Nat.le_of_ble_eq_true rfl) g112 rfl rfl rfl (fun _ => ⟨Nat.le_of_ble_eq_true rfl, Nat.le_of_ble_eq_true rfl⟩) ?_
  refine AW.genM (fun M113 => ?_)
  refine AW.putR (pc := 347) dX12_init_347 flX12_134 (fun _ => ⟨rfl, rfl⟩) hthis (by omega) (by omega) ?_
  refine AW.genM (fun M114 => ?_)
  refine AW.aload_n (pc := 350) dX12_init_350 rfl 0 rfl ?_
  refine AW.iconst (pc := 351) dX12_init_351 ci_2 ?_
  refine AW.chk (fun g115 => ?_)
  refine AW.newI (pc := 352) (ct' := (ct + 33)) (ce' := 33) (sl' := 42714) dX12_init_352 ac_1 (by decide) rfl (Nat.le_of_ble_eq_true rfl) g115 rfl rfl rfl (fun _ => ⟨Nat.le_of_ble_eq_true rfl, Nat.le_of_ble_eq_true rfl⟩) ?_
  refine AW.genM (fun M116 => ?_)
  refine AW.putR (pc := 354) dX12_init_354 flX12_137 (fun _ => ⟨rfl, rfl⟩) hthis (by omega) (by omega) ?_
  refine AW.genM (fun M117 => ?_)
  refine AW.aload_n (pc := 357) dX12_init_357 rfl 0 rfl ?_
  refine AW.sipush (pc := 358) dX12_init_358 cs_400 ?_
  refine AW.chk (fun g118 => ?_)
  refine AW.newI (pc := 361) (ct' := (ct + 34)) (ce' := 34) (sl' := 43114) dX12_init_361 ac_1 (by decide) rfl (Nat.le_of_ble_eq_true rfl) g118 rfl rfl rfl (fun _ => ⟨Nat.le_of_ble_eq_true rfl, Nat.le_of_ble_eq_true rfl⟩) ?_
  refine AW.genM (fun M119 => ?_)
  refine AW.putR (pc := 363) dX12_init_363 flX12_140 (fun _ => ⟨rfl, rfl⟩) hthis (by omega) (by omega) ?_
  refine AW.genM (fun M120 => ?_)
  refine AW.aload_n (pc := 366) dX12_init_366 rfl 0 rfl ?_
  refine AW.iconst (pc := 367) dX12_init_367 ci_2 ?_
  refine AW.chk (fun g121 => ?_)
  refine AW.newI (pc := 368) (ct' := (ct + 35)) (ce' := 35) (sl' := 43116) dX12_init_368 ac_1 (by decide) rfl (Nat.le_of_ble_eq_true rfl) g121 rfl rfl rfl (fun _ => ⟨Nat.le_of_ble_eq_true rfl, Nat.le_of_ble_eq_true rfl⟩) ?_
  refine AW.genM (fun M122 => ?_)
  refine AW.putR (pc := 370) dX12_init_370 flX12_143 (fun _ => ⟨rfl, rfl⟩) hthis (by omega) (by omega) ?_
  refine AW.genM (fun M123 => ?_)
  refine AW.aload_n (pc := 373) dX12_init_373 rfl 0 rfl ?_
  refine AW.iconst (pc := 374) dX12_init_374 ci_2 ?_
  refine AW.chk (fun g124 => ?_)
  refine AW.newI (pc := 375) (ct' := (ct + 36)) (ce' := 36) (sl' := 43118) dX12_init_375 ac_1 (by decide) rfl (Nat.le_of_ble_eq_true rfl) g124 rfl rfl rfl (fun _ => ⟨Nat.le_of_ble_eq_true rfl, Nat.le_of_ble_eq_true rfl⟩) ?_
  refine AW.genM (fun M125 => ?_)
  refine AW.putR (pc := 377) dX12_init_377 flX12_146 (fun _ => ⟨rfl, rfl⟩) hthis (by omega) (by omega) ?_
  refine AW.genM (fun M126 => ?_)
  refine AW.aload_n (pc := 380) dX12_init_380 rfl 0 rfl ?_
  refine AW.bipush (pc := 381) dX12_init_381 cb_64 ?_
  refine AW.chk (fun g127 => ?_)
  refine AW.newI (pc := 383) (ct' := (ct + 37)) (ce' := 37) (sl' := 43182) dX12_init_383 ac_1 (by decide) rfl (Nat.le_of_ble_eq_true rfl) g127 rfl rfl rfl (fun _ => ⟨Nat.le_of_ble_eq_true rfl, Nat.le_of_ble_eq_true rfl⟩) ?_
  refine AW.genM (fun M128 => ?_)
  refine AW.putR (pc := 385) dX12_init_385 flX12_149 (fun _ => ⟨rfl, rfl⟩) hthis (by omega) (by omega) ?_
  refine AW.genM (fun M129 => ?_)
  refine AW.aload_n (pc := 388) dX12_init_388 rfl 0 rfl ?_
  refine AW.iconst (pc := 389) dX12_init_389 ci_3 ?_
  refine AW.chk (fun g130 => ?_)
  refine AW.newI (pc := 390) (ct' := (ct + 38)) (ce' := 38) (sl' := 43185) dX12_init_390 ac_1 (by decide) rfl (Nat.le_of_ble_eq_true rfl) g130 rfl rfl rfl (fun _ => ⟨Nat.le_of_ble_eq_true rfl, Nat.le_of_ble_eq_true rfl⟩) ?_
  refine AW.genM (fun M131 => ?_)
  refine AW.putR (pc := 392) dX12_init_392 flX12_152 (fun _ => ⟨rfl, rfl⟩) hthis (by omega) (by omega) ?_
  refine AW.genM (fun M132 => ?_)
  refine AW.iconst (pc := 395) dX12_init_395 ci_0 ?_
  refine AW.istore_n (pc := 396) [1, 0] [(0, .ref (ad E this)), (1, .int 0)] dX12_init_396 rfl (by decide) rfl ?_
  exact kX12_init_L397 l E n hn (ct + 38) (by omega) true FU this 0 M132 hthis
