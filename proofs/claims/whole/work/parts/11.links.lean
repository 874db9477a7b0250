/-! ===== frames, links, constants: printed by wip/whole/lay.py ===== -/
theorem cb_m28 : (Int8.ofInt (-28)).toInt32 = (-28) := by decide
theorem cb_m27 : (Int8.ofInt (-27)).toInt32 = (-27) := by decide
theorem cb_m26 : (Int8.ofInt (-26)).toInt32 = (-26) := by decide
theorem cb_m25 : (Int8.ofInt (-25)).toInt32 = (-25) := by decide
theorem cb_m24 : (Int8.ofInt (-24)).toInt32 = (-24) := by decide
theorem cb_m23 : (Int8.ofInt (-23)).toInt32 = (-23) := by decide
theorem cb_m22 : (Int8.ofInt (-22)).toInt32 = (-22) := by decide
theorem cb_m21 : (Int8.ofInt (-21)).toInt32 = (-21) := by decide
theorem cb_m20 : (Int8.ofInt (-20)).toInt32 = (-20) := by decide
theorem cb_m2 : (Int8.ofInt (-2)).toInt32 = (-2) := by decide
theorem cb_6 : (Int8.ofInt 6).toInt32 = 6 := by decide
theorem cb_7 : (Int8.ofInt 7).toInt32 = 7 := by decide
theorem cb_8 : (Int8.ofInt 8).toInt32 = 8 := by decide
theorem cb_9 : (Int8.ofInt 9).toInt32 = 9 := by decide
theorem cb_10 : (Int8.ofInt 10).toInt32 = 10 := by decide
theorem cb_11 : (Int8.ofInt 11).toInt32 = 11 := by decide
theorem cb_12 : (Int8.ofInt 12).toInt32 = 12 := by decide
theorem cb_13 : (Int8.ofInt 13).toInt32 = 13 := by decide
theorem cb_14 : (Int8.ofInt 14).toInt32 = 14 := by decide
theorem cb_16 : (Int8.ofInt 16).toInt32 = 16 := by decide
theorem cb_19 : (Int8.ofInt 19).toInt32 = 19 := by decide
theorem cb_20 : (Int8.ofInt 20).toInt32 = 20 := by decide
theorem cb_21 : (Int8.ofInt 21).toInt32 = 21 := by decide
theorem cb_22 : (Int8.ofInt 22).toInt32 = 22 := by decide
theorem cb_24 : (Int8.ofInt 24).toInt32 = 24 := by decide
theorem cb_32 : (Int8.ofInt 32).toInt32 = 32 := by decide
theorem cb_40 : (Int8.ofInt 40).toInt32 = 40 := by decide
theorem cb_41 : (Int8.ofInt 41).toInt32 = 41 := by decide
theorem cb_42 : (Int8.ofInt 42).toInt32 = 42 := by decide
theorem cb_43 : (Int8.ofInt 43).toInt32 = 43 := by decide
theorem cb_44 : (Int8.ofInt 44).toInt32 = 44 := by decide
theorem cb_45 : (Int8.ofInt 45).toInt32 = 45 := by decide
theorem cb_47 : (Int8.ofInt 47).toInt32 = 47 := by decide
theorem cb_48 : (Int8.ofInt 48).toInt32 = 48 := by decide
theorem cb_50 : (Int8.ofInt 50).toInt32 = 50 := by decide
theorem cb_57 : (Int8.ofInt 57).toInt32 = 57 := by decide
theorem cb_59 : (Int8.ofInt 59).toInt32 = 59 := by decide
theorem cb_60 : (Int8.ofInt 60).toInt32 = 60 := by decide
theorem cb_61 : (Int8.ofInt 61).toInt32 = 61 := by decide
theorem cb_63 : (Int8.ofInt 63).toInt32 = 63 := by decide
theorem cb_64 : (Int8.ofInt 64).toInt32 = 64 := by decide
theorem cb_97 : (Int8.ofInt 97).toInt32 = 97 := by decide
theorem cb_99 : (Int8.ofInt 99).toInt32 = 99 := by decide
theorem cb_100 : (Int8.ofInt 100).toInt32 = 100 := by decide
theorem cb_122 : (Int8.ofInt 122).toInt32 = 122 := by decide
theorem ci_m8 : Int32.ofInt (-8) = (-8) := by decide
theorem ci_m1 : Int32.ofInt (-1) = (-1) := by decide
theorem ci_0 : Int32.ofInt 0 = 0 := by decide
theorem ci_1 : Int32.ofInt 1 = 1 := by decide
theorem ci_2 : Int32.ofInt 2 = 2 := by decide
theorem ci_3 : Int32.ofInt 3 = 3 := by decide
theorem ci_4 : Int32.ofInt 4 = 4 := by decide
theorem ci_5 : Int32.ofInt 5 = 5 := by decide
theorem ci_6 : Int32.ofInt 6 = 6 := by decide
theorem cl_0 : Int64.ofNat ((0 : Fin 2) : Nat) = 0 := by decide
theorem cl_1 : Int64.ofNat ((1 : Fin 2) : Nat) = 1 := by decide
theorem cs_175 : (Int16.ofInt 175).toInt32 = 175 := by decide
theorem cs_176 : (Int16.ofInt 176).toInt32 = 176 := by decide
theorem cs_200 : (Int16.ofInt 200).toInt32 = 200 := by decide
theorem cs_255 : (Int16.ofInt 255).toInt32 = 255 := by decide
theorem cs_400 : (Int16.ofInt 400).toInt32 = 400 := by decide
theorem cs_700 : (Int16.ofInt 700).toInt32 = 700 := by decide
theorem cs_800 : (Int16.ofInt 800).toInt32 = 800 := by decide
theorem cs_999 : (Int16.ofInt 999).toInt32 = 999 := by decide
theorem cs_1000 : (Int16.ofInt 1000).toInt32 = 1000 := by decide
theorem cs_1400 : (Int16.ofInt 1400).toInt32 = 1400 := by decide
theorem cs_2000 : (Int16.ofInt 2000).toInt32 = 2000 := by decide
theorem cs_2033 : (Int16.ofInt 2033).toInt32 = 2033 := by decide
theorem cs_2038 : (Int16.ofInt 2038).toInt32 = 2038 := by decide
theorem cs_2100 : (Int16.ofInt 2100).toInt32 = 2100 := by decide
theorem cs_2124 : (Int16.ofInt 2124).toInt32 = 2124 := by decide
theorem cs_8000 : (Int16.ofInt 8000).toInt32 = 8000 := by decide
theorem cs_10000 : (Int16.ofInt 10000).toInt32 = 10000 := by decide
theorem cs_12345 : (Int16.ofInt 12345).toInt32 = 12345 := by decide
theorem cs_32767 : (Int16.ofInt 32767).toInt32 = 32767 := by decide
theorem tne_m26 (x : Int32) (h : ¬ x = (-26)) : x.toInt ≠ (-26) := fun e => h (Int32.toInt_inj.mp (by rw [e]; decide))
theorem tne_m25 (x : Int32) (h : ¬ x = (-25)) : x.toInt ≠ (-25) := fun e => h (Int32.toInt_inj.mp (by rw [e]; decide))
theorem tne_m24 (x : Int32) (h : ¬ x = (-24)) : x.toInt ≠ (-24) := fun e => h (Int32.toInt_inj.mp (by rw [e]; decide))
theorem tne_m23 (x : Int32) (h : ¬ x = (-23)) : x.toInt ≠ (-23) := fun e => h (Int32.toInt_inj.mp (by rw [e]; decide))
theorem tne_m22 (x : Int32) (h : ¬ x = (-22)) : x.toInt ≠ (-22) := fun e => h (Int32.toInt_inj.mp (by rw [e]; decide))
theorem tne_m21 (x : Int32) (h : ¬ x = (-21)) : x.toInt ≠ (-21) := fun e => h (Int32.toInt_inj.mp (by rw [e]; decide))
theorem tne_m20 (x : Int32) (h : ¬ x = (-20)) : x.toInt ≠ (-20) := fun e => h (Int32.toInt_inj.mp (by rw [e]; decide))
theorem tne_0 (x : Int32) (h : ¬ x = 0) : x.toInt ≠ 0 := fun e => h (Int32.toInt_inj.mp (by rw [e]; decide))
theorem tne_1 (x : Int32) (h : ¬ x = 1) : x.toInt ≠ 1 := fun e => h (Int32.toInt_inj.mp (by rw [e]; decide))
theorem tne_2 (x : Int32) (h : ¬ x = 2) : x.toInt ≠ 2 := fun e => h (Int32.toInt_inj.mp (by rw [e]; decide))
theorem tne_3 (x : Int32) (h : ¬ x = 3) : x.toInt ≠ 3 := fun e => h (Int32.toInt_inj.mp (by rw [e]; decide))
theorem tne_4 (x : Int32) (h : ¬ x = 4) : x.toInt ≠ 4 := fun e => h (Int32.toInt_inj.mp (by rw [e]; decide))
theorem tne_5 (x : Int32) (h : ¬ x = 5) : x.toInt ≠ 5 := fun e => h (Int32.toInt_inj.mp (by rw [e]; decide))
theorem tne_6 (x : Int32) (h : ¬ x = 6) : x.toInt ≠ 6 := fun e => h (Int32.toInt_inj.mp (by rw [e]; decide))
theorem tne_7 (x : Int32) (h : ¬ x = 7) : x.toInt ≠ 7 := fun e => h (Int32.toInt_inj.mp (by rw [e]; decide))
theorem tne_8 (x : Int32) (h : ¬ x = 8) : x.toInt ≠ 8 := fun e => h (Int32.toInt_inj.mp (by rw [e]; decide))
theorem tne_9 (x : Int32) (h : ¬ x = 9) : x.toInt ≠ 9 := fun e => h (Int32.toInt_inj.mp (by rw [e]; decide))
theorem tne_10 (x : Int32) (h : ¬ x = 10) : x.toInt ≠ 10 := fun e => h (Int32.toInt_inj.mp (by rw [e]; decide))
theorem tne_11 (x : Int32) (h : ¬ x = 11) : x.toInt ≠ 11 := fun e => h (Int32.toInt_inj.mp (by rw [e]; decide))
theorem tne_12 (x : Int32) (h : ¬ x = 12) : x.toInt ≠ 12 := fun e => h (Int32.toInt_inj.mp (by rw [e]; decide))
theorem tne_13 (x : Int32) (h : ¬ x = 13) : x.toInt ≠ 13 := fun e => h (Int32.toInt_inj.mp (by rw [e]; decide))
theorem tne_14 (x : Int32) (h : ¬ x = 14) : x.toInt ≠ 14 := fun e => h (Int32.toInt_inj.mp (by rw [e]; decide))
theorem tne_15 (x : Int32) (h : ¬ x = 15) : x.toInt ≠ 15 := fun e => h (Int32.toInt_inj.mp (by rw [e]; decide))
theorem tne_16 (x : Int32) (h : ¬ x = 16) : x.toInt ≠ 16 := fun e => h (Int32.toInt_inj.mp (by rw [e]; decide))
theorem tne_17 (x : Int32) (h : ¬ x = 17) : x.toInt ≠ 17 := fun e => h (Int32.toInt_inj.mp (by rw [e]; decide))
theorem tne_18 (x : Int32) (h : ¬ x = 18) : x.toInt ≠ 18 := fun e => h (Int32.toInt_inj.mp (by rw [e]; decide))
theorem tne_19 (x : Int32) (h : ¬ x = 19) : x.toInt ≠ 19 := fun e => h (Int32.toInt_inj.mp (by rw [e]; decide))
theorem tne_20 (x : Int32) (h : ¬ x = 20) : x.toInt ≠ 20 := fun e => h (Int32.toInt_inj.mp (by rw [e]; decide))
theorem tne_21 (x : Int32) (h : ¬ x = 21) : x.toInt ≠ 21 := fun e => h (Int32.toInt_inj.mp (by rw [e]; decide))
theorem tne_22 (x : Int32) (h : ¬ x = 22) : x.toInt ≠ 22 := fun e => h (Int32.toInt_inj.mp (by rw [e]; decide))
theorem tne_23 (x : Int32) (h : ¬ x = 23) : x.toInt ≠ 23 := fun e => h (Int32.toInt_inj.mp (by rw [e]; decide))
theorem tne_24 (x : Int32) (h : ¬ x = 24) : x.toInt ≠ 24 := fun e => h (Int32.toInt_inj.mp (by rw [e]; decide))
theorem tne_25 (x : Int32) (h : ¬ x = 25) : x.toInt ≠ 25 := fun e => h (Int32.toInt_inj.mp (by rw [e]; decide))
theorem tne_26 (x : Int32) (h : ¬ x = 26) : x.toInt ≠ 26 := fun e => h (Int32.toInt_inj.mp (by rw [e]; decide))
theorem tne_27 (x : Int32) (h : ¬ x = 27) : x.toInt ≠ 27 := fun e => h (Int32.toInt_inj.mp (by rw [e]; decide))
theorem tne_28 (x : Int32) (h : ¬ x = 28) : x.toInt ≠ 28 := fun e => h (Int32.toInt_inj.mp (by rw [e]; decide))
theorem tne_29 (x : Int32) (h : ¬ x = 29) : x.toInt ≠ 29 := fun e => h (Int32.toInt_inj.mp (by rw [e]; decide))
theorem tne_30 (x : Int32) (h : ¬ x = 30) : x.toInt ≠ 30 := fun e => h (Int32.toInt_inj.mp (by rw [e]; decide))
theorem tne_31 (x : Int32) (h : ¬ x = 31) : x.toInt ≠ 31 := fun e => h (Int32.toInt_inj.mp (by rw [e]; decide))
theorem tne_32 (x : Int32) (h : ¬ x = 32) : x.toInt ≠ 32 := fun e => h (Int32.toInt_inj.mp (by rw [e]; decide))
theorem tne_33 (x : Int32) (h : ¬ x = 33) : x.toInt ≠ 33 := fun e => h (Int32.toInt_inj.mp (by rw [e]; decide))
theorem tne_38 (x : Int32) (h : ¬ x = 38) : x.toInt ≠ 38 := fun e => h (Int32.toInt_inj.mp (by rw [e]; decide))
theorem tne_39 (x : Int32) (h : ¬ x = 39) : x.toInt ≠ 39 := fun e => h (Int32.toInt_inj.mp (by rw [e]; decide))
theorem tne_40 (x : Int32) (h : ¬ x = 40) : x.toInt ≠ 40 := fun e => h (Int32.toInt_inj.mp (by rw [e]; decide))
theorem tne_41 (x : Int32) (h : ¬ x = 41) : x.toInt ≠ 41 := fun e => h (Int32.toInt_inj.mp (by rw [e]; decide))
theorem tne_42 (x : Int32) (h : ¬ x = 42) : x.toInt ≠ 42 := fun e => h (Int32.toInt_inj.mp (by rw [e]; decide))
theorem tne_43 (x : Int32) (h : ¬ x = 43) : x.toInt ≠ 43 := fun e => h (Int32.toInt_inj.mp (by rw [e]; decide))
theorem tne_44 (x : Int32) (h : ¬ x = 44) : x.toInt ≠ 44 := fun e => h (Int32.toInt_inj.mp (by rw [e]; decide))
theorem tne_45 (x : Int32) (h : ¬ x = 45) : x.toInt ≠ 45 := fun e => h (Int32.toInt_inj.mp (by rw [e]; decide))
theorem tne_46 (x : Int32) (h : ¬ x = 46) : x.toInt ≠ 46 := fun e => h (Int32.toInt_inj.mp (by rw [e]; decide))
theorem tne_47 (x : Int32) (h : ¬ x = 47) : x.toInt ≠ 47 := fun e => h (Int32.toInt_inj.mp (by rw [e]; decide))
theorem tne_48 (x : Int32) (h : ¬ x = 48) : x.toInt ≠ 48 := fun e => h (Int32.toInt_inj.mp (by rw [e]; decide))
theorem tne_49 (x : Int32) (h : ¬ x = 49) : x.toInt ≠ 49 := fun e => h (Int32.toInt_inj.mp (by rw [e]; decide))
theorem tne_50 (x : Int32) (h : ¬ x = 50) : x.toInt ≠ 50 := fun e => h (Int32.toInt_inj.mp (by rw [e]; decide))
theorem tne_51 (x : Int32) (h : ¬ x = 51) : x.toInt ≠ 51 := fun e => h (Int32.toInt_inj.mp (by rw [e]; decide))
theorem tne_52 (x : Int32) (h : ¬ x = 52) : x.toInt ≠ 52 := fun e => h (Int32.toInt_inj.mp (by rw [e]; decide))
theorem tne_53 (x : Int32) (h : ¬ x = 53) : x.toInt ≠ 53 := fun e => h (Int32.toInt_inj.mp (by rw [e]; decide))
theorem tne_54 (x : Int32) (h : ¬ x = 54) : x.toInt ≠ 54 := fun e => h (Int32.toInt_inj.mp (by rw [e]; decide))
theorem tne_55 (x : Int32) (h : ¬ x = 55) : x.toInt ≠ 55 := fun e => h (Int32.toInt_inj.mp (by rw [e]; decide))
theorem tne_56 (x : Int32) (h : ¬ x = 56) : x.toInt ≠ 56 := fun e => h (Int32.toInt_inj.mp (by rw [e]; decide))
theorem tne_57 (x : Int32) (h : ¬ x = 57) : x.toInt ≠ 57 := fun e => h (Int32.toInt_inj.mp (by rw [e]; decide))
theorem tne_58 (x : Int32) (h : ¬ x = 58) : x.toInt ≠ 58 := fun e => h (Int32.toInt_inj.mp (by rw [e]; decide))
theorem tne_59 (x : Int32) (h : ¬ x = 59) : x.toInt ≠ 59 := fun e => h (Int32.toInt_inj.mp (by rw [e]; decide))
theorem tne_60 (x : Int32) (h : ¬ x = 60) : x.toInt ≠ 60 := fun e => h (Int32.toInt_inj.mp (by rw [e]; decide))
theorem tne_61 (x : Int32) (h : ¬ x = 61) : x.toInt ≠ 61 := fun e => h (Int32.toInt_inj.mp (by rw [e]; decide))
theorem inc_m8 (x : Int32) : x + Int32.ofInt (-8) = x + (-8) := by rw [ci_m8]
theorem inc_m1 (x : Int32) : x + Int32.ofInt (-1) = x + (-1) := by rw [ci_m1]
theorem inc_1 (x : Int32) : x + Int32.ofInt 1 = x + 1 := by rw [ci_1]
theorem inc_6 (x : Int32) : x + Int32.ofInt 6 = x + 6 := by rw [ci_6]
set_option maxRecDepth 100000 in
def fX9_init : Fr := (RX9, cX9_init, 1, Option.none, "<init>", [])
set_option maxRecDepth 100000 in
theorem mbX9_init : MBI yX9_init fX9_init 0 := ⟨⟨tb_in 153 rfl rfl, tb_in 107 rfl rfl, ⟨by decide +kernel, by decide +kernel⟩, by decide +kernel, by decide⟩, rfl, tb_in 152 rfl rfl⟩
set_option maxRecDepth 100000 in
def fX8_init : Fr := (RX8, cX8_init, 1, Option.none, "<init>", [])
set_option maxRecDepth 100000 in
theorem mbX8_init : MBI yX8_init fX8_init 0 := ⟨⟨tb_in 147 rfl rfl, tb_in 106 rfl rfl, ⟨by decide +kernel, by decide +kernel⟩, by decide +kernel, by decide⟩, rfl, tb_in 146 rfl rfl⟩
set_option maxRecDepth 100000 in
def fX6_init : Fr := (RX6, cX6_init, 1, Option.none, "<init>", [])
set_option maxRecDepth 100000 in
theorem mbX6_init : MBI yX6_init fX6_init 0 := ⟨⟨tb_in 141 rfl rfl, tb_in 105 rfl rfl, ⟨by decide +kernel, by decide +kernel⟩, by decide +kernel, by decide⟩, rfl, tb_in 140 rfl rfl⟩
set_option maxRecDepth 100000 in
def fX0_init : Fr := (RX0, cX0_init, 1, Option.none, "<init>", [])
set_option maxRecDepth 100000 in
theorem mbX0_init : MBI yX0_init fX0_init 0 := ⟨⟨tb_in 303 rfl rfl, tb_in 109 rfl rfl, ⟨by decide +kernel, by decide +kernel⟩, by decide +kernel, by decide⟩, rfl, tb_in 302 rfl rfl⟩
set_option maxRecDepth 100000 in
def fX4_init : Fr := (RX4, cX4_init, 1, Option.none, "<init>", [])
set_option maxRecDepth 100000 in
theorem mbX4_init : MBI yX4_init fX4_init 0 := ⟨⟨tb_in 295 rfl rfl, tb_in 108 rfl rfl, ⟨by decide +kernel, by decide +kernel⟩, by decide +kernel, by decide⟩, rfl, tb_in 294 rfl rfl⟩
set_option maxRecDepth 100000 in
def fX5_init : Fr := (RX5, cX5_init, 3, Option.none, "<init>", [])
set_option maxRecDepth 100000 in
theorem mbX5_init : MBI yX5_init fX5_init 2 := ⟨⟨tb_in 359 rfl rfl, tb_in 110 rfl rfl, ⟨by decide +kernel, by decide +kernel⟩, by decide +kernel, by decide⟩, rfl, tb_in 358 rfl rfl⟩
set_option maxRecDepth 100000 in
def fX1_init : Fr := (RX1, cX1_init, 3, Option.none, "<init>", [])
set_option maxRecDepth 100000 in
theorem mbX1_init : MBI yX1_init fX1_init 2 := ⟨⟨tb_in 391 rfl rfl, tb_in 112 rfl rfl, ⟨by decide +kernel, by decide +kernel⟩, by decide +kernel, by decide⟩, rfl, tb_in 390 rfl rfl⟩
set_option maxRecDepth 100000 in
def fX10_init : Fr := (RX10, cX10_init, 2, Option.none, "<init>", [])
set_option maxRecDepth 100000 in
theorem mbX10_init : MBI yX10_init fX10_init 1 := ⟨⟨tb_in 385 rfl rfl, tb_in 111 rfl rfl, ⟨by decide +kernel, by decide +kernel⟩, by decide +kernel, by decide⟩, rfl, tb_in 384 rfl rfl⟩
set_option maxRecDepth 100000 in
def fX3_init : Fr := (RX3, cX3_init, 3, Option.none, "<init>", [])
set_option maxRecDepth 100000 in
theorem mbX3_init : MBI yX3_init fX3_init 2 := ⟨⟨tb_in 427 rfl rfl, tb_in 113 rfl rfl, ⟨by decide +kernel, by decide +kernel⟩, by decide +kernel, by decide⟩, rfl, tb_in 426 rfl rfl⟩
set_option maxRecDepth 100000 in
def fX7_init : Fr := (RX7, cX7_init, 2, Option.none, "<init>", [])
set_option maxRecDepth 100000 in
theorem mbX7_init : MBI yX7_init fX7_init 1 := ⟨⟨tb_in 462 rfl rfl, tb_in 114 rfl rfl, ⟨by decide +kernel, by decide +kernel⟩, by decide +kernel, by decide⟩, rfl, tb_in 461 rfl rfl⟩
set_option maxRecDepth 100000 in
def fX2_init : Fr := (RX2, cX2_init, 2, Option.none, "<init>", [])
set_option maxRecDepth 100000 in
theorem mbX2_init : MBI yX2_init fX2_init 1 := ⟨⟨tb_in 485 rfl rfl, tb_in 115 rfl rfl, ⟨by decide +kernel, by decide +kernel⟩, by decide +kernel, by decide⟩, rfl, tb_in 484 rfl rfl⟩
set_option maxRecDepth 100000 in
def fX11_init : Fr := (RX11, cX11_init, 1, Option.none, "<init>", [])
set_option maxRecDepth 100000 in
theorem mbX11_init : MBI yX11_init fX11_init 0 := ⟨⟨tb_in 133 rfl rfl, tb_in 104 rfl rfl, ⟨by decide +kernel, by decide +kernel⟩, by decide +kernel, by decide⟩, rfl, tb_in 132 rfl rfl⟩
set_option maxRecDepth 100000 in
def fX11_put : Fr := (RX11, cX11_put, 3, Option.none, "put", [])
set_option maxRecDepth 100000 in
theorem mbX11_put : MBS yX11_put fX11_put 3 := ⟨⟨tb_in 566 rfl rfl, tb_in 104 rfl rfl, ⟨by decide +kernel, by decide +kernel⟩, by decide +kernel, by decide⟩, tb_in 565 rfl rfl⟩
set_option maxRecDepth 100000 in
def fX6_take : Fr := (RX6, cX6_take, 3, Option.none, "take", [])
set_option maxRecDepth 100000 in
theorem mbX6_take : MBV yX6_take fX6_take 1 := ⟨⟨tb_in 563 rfl rfl, tb_in 105 rfl rfl, ⟨by decide +kernel, by decide +kernel⟩, by decide +kernel, by decide⟩, tb_in 561 rfl rfl, tb_in 562 rfl rfl⟩
set_option maxRecDepth 100000 in
def fX11_feed : Fr := (RX11, cX11_feed, 6, (some .int), "feed", [])
set_option maxRecDepth 100000 in
theorem mbX11_feed : MBV yX11_feed fX11_feed 5 := ⟨⟨tb_in 559 rfl rfl, tb_in 104 rfl rfl, ⟨by decide +kernel, by decide +kernel⟩, by decide +kernel, by decide⟩, tb_in 557 rfl rfl, tb_in 558 rfl rfl⟩
set_option maxRecDepth 100000 in
def fX11_askKnown : Fr := (RX11, cX11_askKnown, 2, Option.none, "askKnown", [])
set_option maxRecDepth 100000 in
theorem mbX11_askKnown : MBS yX11_askKnown fX11_askKnown 2 := ⟨⟨tb_in 602 rfl rfl, tb_in 104 rfl rfl, ⟨by decide +kernel, by decide +kernel⟩, by decide +kernel, by decide⟩, tb_in 601 rfl rfl⟩
set_option maxRecDepth 100000 in
def fX11_gateOf : Fr := (RX11, cX11_gateOf, 2, (some (.object "GateBox$Gate")), "gateOf", [])
set_option maxRecDepth 100000 in
theorem mbX11_gateOf : MBV yX11_gateOf fX11_gateOf 1 := ⟨⟨tb_in 599 rfl rfl, tb_in 104 rfl rfl, ⟨by decide +kernel, by decide +kernel⟩, by decide +kernel, by decide⟩, tb_in 598 rfl rfl, tb_in 0 rfl rfl⟩
set_option maxRecDepth 100000 in
def fX11_askRange : Fr := (RX11, cX11_askRange, 3, Option.none, "askRange", [])
set_option maxRecDepth 100000 in
theorem mbX11_askRange : MBS yX11_askRange fX11_askRange 3 := ⟨⟨tb_in 672 rfl rfl, tb_in 104 rfl rfl, ⟨by decide +kernel, by decide +kernel⟩, by decide +kernel, by decide⟩, tb_in 671 rfl rfl⟩
set_option maxRecDepth 100000 in
def fX9_become : Fr := (RX9, cX9_become, 2, Option.none, "become", [])
set_option maxRecDepth 100000 in
theorem mbX9_become : MBV yX9_become fX9_become 1 := ⟨⟨tb_in 704 rfl rfl, tb_in 107 rfl rfl, ⟨by decide +kernel, by decide +kernel⟩, by decide +kernel, by decide⟩, tb_in 702 rfl rfl, tb_in 703 rfl rfl⟩
set_option maxRecDepth 100000 in
def fX9_clear : Fr := (RX9, cX9_clear, 1, Option.none, "clear", [])
set_option maxRecDepth 100000 in
theorem mbX9_clear : MBV yX9_clear fX9_clear 0 := ⟨⟨tb_in 700 rfl rfl, tb_in 107 rfl rfl, ⟨by decide +kernel, by decide +kernel⟩, by decide +kernel, by decide⟩, tb_in 698 rfl rfl, tb_in 699 rfl rfl⟩
set_option maxRecDepth 100000 in
def fX8_clear : Fr := (RX8, cX8_clear, 1, Option.none, "clear", [])
set_option maxRecDepth 100000 in
theorem mbX8_clear : MBV yX8_clear fX8_clear 0 := ⟨⟨tb_in 696 rfl rfl, tb_in 106 rfl rfl, ⟨by decide +kernel, by decide +kernel⟩, by decide +kernel, by decide⟩, tb_in 694 rfl rfl, tb_in 695 rfl rfl⟩
set_option maxRecDepth 100000 in
def fX11_at : Fr := (RX11, cX11_at, 2, (some .int), "at", [])
set_option maxRecDepth 100000 in
theorem mbX11_at : MBS yX11_at fX11_at 2 := ⟨⟨tb_in 711 rfl rfl, tb_in 104 rfl rfl, ⟨by decide +kernel, by decide +kernel⟩, by decide +kernel, by decide⟩, tb_in 710 rfl rfl⟩
set_option maxRecDepth 100000 in
def fX6_isBlank : Fr := (RX6, cX6_isBlank, 1, (some .boolean), "isBlank", [])
set_option maxRecDepth 100000 in
theorem mbX6_isBlank : MBS yX6_isBlank fX6_isBlank 1 := ⟨⟨tb_in 714 rfl rfl, tb_in 105 rfl rfl, ⟨by decide +kernel, by decide +kernel⟩, by decide +kernel, by decide⟩, tb_in 713 rfl rfl⟩
set_option maxRecDepth 100000 in
def fX6_isLetter : Fr := (RX6, cX6_isLetter, 1, (some .boolean), "isLetter", [])
set_option maxRecDepth 100000 in
theorem mbX6_isLetter : MBS yX6_isLetter fX6_isLetter 1 := ⟨⟨tb_in 717 rfl rfl, tb_in 105 rfl rfl, ⟨by decide +kernel, by decide +kernel⟩, by decide +kernel, by decide⟩, tb_in 716 rfl rfl⟩
set_option maxRecDepth 100000 in
def fX6_isDigit : Fr := (RX6, cX6_isDigit, 1, (some .boolean), "isDigit", [])
set_option maxRecDepth 100000 in
theorem mbX6_isDigit : MBS yX6_isDigit fX6_isDigit 1 := ⟨⟨tb_in 720 rfl rfl, tb_in 105 rfl rfl, ⟨by decide +kernel, by decide +kernel⟩, by decide +kernel, by decide⟩, tb_in 719 rfl rfl⟩
set_option maxRecDepth 100000 in
def fX6_readNumber : Fr := (RX6, cX6_readNumber, 1, Option.none, "readNumber", [])
set_option maxRecDepth 100000 in
theorem mbX6_readNumber : MBV yX6_readNumber fX6_readNumber 0 := ⟨⟨tb_in 724 rfl rfl, tb_in 105 rfl rfl, ⟨by decide +kernel, by decide +kernel⟩, by decide +kernel, by decide⟩, tb_in 723 rfl rfl, tb_in 3 rfl rfl⟩
set_option maxRecDepth 100000 in
def fX6_isSign : Fr := (RX6, cX6_isSign, 1, (some .boolean), "isSign", [])
set_option maxRecDepth 100000 in
theorem mbX6_isSign : MBS yX6_isSign fX6_isSign 1 := ⟨⟨tb_in 727 rfl rfl, tb_in 105 rfl rfl, ⟨by decide +kernel, by decide +kernel⟩, by decide +kernel, by decide⟩, tb_in 726 rfl rfl⟩
set_option maxRecDepth 100000 in
def fX6_advance : Fr := (RX6, cX6_advance, 2, Option.none, "advance", [])
set_option maxRecDepth 100000 in
theorem mbX6_advance : MBV yX6_advance fX6_advance 0 := ⟨⟨tb_in 708 rfl rfl, tb_in 105 rfl rfl, ⟨by decide +kernel, by decide +kernel⟩, by decide +kernel, by decide⟩, tb_in 707 rfl rfl, tb_in 2 rfl rfl⟩
set_option maxRecDepth 100000 in
def fX6_isWord : Fr := (RX6, cX6_isWord, 3, (some .boolean), "isWord", [])
set_option maxRecDepth 100000 in
theorem mbX6_isWord : MBV yX6_isWord fX6_isWord 1 := ⟨⟨tb_in 736 rfl rfl, tb_in 105 rfl rfl, ⟨by decide +kernel, by decide +kernel⟩, by decide +kernel, by decide⟩, tb_in 735 rfl rfl, tb_in 5 rfl rfl⟩
set_option maxRecDepth 100000 in
def fX6_refuse : Fr := (RX6, cX6_refuse, 2, (some .boolean), "refuse", [])
set_option maxRecDepth 100000 in
theorem mbX6_refuse : MBV yX6_refuse fX6_refuse 1 := ⟨⟨tb_in 792 rfl rfl, tb_in 105 rfl rfl, ⟨by decide +kernel, by decide +kernel⟩, by decide +kernel, by decide⟩, tb_in 791 rfl rfl, tb_in 7 rfl rfl⟩
set_option maxRecDepth 100000 in
def fX6_numberFrom : Fr := (RX6, cX6_numberFrom, 3, (some .boolean), "numberFrom", [])
set_option maxRecDepth 100000 in
theorem mbX6_numberFrom : MBV yX6_numberFrom fX6_numberFrom 2 := ⟨⟨tb_in 796 rfl rfl, tb_in 105 rfl rfl, ⟨by decide +kernel, by decide +kernel⟩, by decide +kernel, by decide⟩, tb_in 795 rfl rfl, tb_in 8 rfl rfl⟩
set_option maxRecDepth 100000 in
def fX6_word : Fr := (RX6, cX6_word, 2, (some .boolean), "word", [])
set_option maxRecDepth 100000 in
theorem mbX6_word : MBV yX6_word fX6_word 1 := ⟨⟨tb_in 801 rfl rfl, tb_in 105 rfl rfl, ⟨by decide +kernel, by decide +kernel⟩, by decide +kernel, by decide⟩, tb_in 800 rfl rfl, tb_in 9 rfl rfl⟩
set_option maxRecDepth 100000 in
def fX6_sign : Fr := (RX6, cX6_sign, 2, (some .boolean), "sign", [])
set_option maxRecDepth 100000 in
theorem mbX6_sign : MBV yX6_sign fX6_sign 1 := ⟨⟨tb_in 836 rfl rfl, tb_in 105 rfl rfl, ⟨by decide +kernel, by decide +kernel⟩, by decide +kernel, by decide⟩, tb_in 835 rfl rfl, tb_in 17 rfl rfl⟩
set_option maxRecDepth 100000 in
def fX6_valueAsked : Fr := (RX6, cX6_valueAsked, 1, (some .int), "valueAsked", [])
set_option maxRecDepth 100000 in
theorem mbX6_valueAsked : MBV yX6_valueAsked fX6_valueAsked 0 := ⟨⟨tb_in 840 rfl rfl, tb_in 105 rfl rfl, ⟨by decide +kernel, by decide +kernel⟩, by decide +kernel, by decide⟩, tb_in 839 rfl rfl, tb_in 18 rfl rfl⟩
set_option maxRecDepth 100000 in
def fX8_add : Fr := (RX8, cX8_add, 2, Option.none, "add", [])
set_option maxRecDepth 100000 in
theorem mbX8_add : MBV yX8_add fX8_add 1 := ⟨⟨tb_in 855 rfl rfl, tb_in 106 rfl rfl, ⟨by decide +kernel, by decide +kernel⟩, by decide +kernel, by decide⟩, tb_in 853 rfl rfl, tb_in 854 rfl rfl⟩
set_option maxRecDepth 100000 in
def fX8_addValue : Fr := (RX8, cX8_addValue, 2, Option.none, "addValue", [])
set_option maxRecDepth 100000 in
theorem mbX8_addValue : MBV yX8_addValue fX8_addValue 1 := ⟨⟨tb_in 851 rfl rfl, tb_in 106 rfl rfl, ⟨by decide +kernel, by decide +kernel⟩, by decide +kernel, by decide⟩, tb_in 849 rfl rfl, tb_in 850 rfl rfl⟩
set_option maxRecDepth 100000 in
def fX6_part : Fr := (RX6, cX6_part, 3, (some .boolean), "part", [])
set_option maxRecDepth 100000 in
theorem mbX6_part : MBV yX6_part fX6_part 1 := ⟨⟨tb_in 832 rfl rfl, tb_in 105 rfl rfl, ⟨by decide +kernel, by decide +kernel⟩, by decide +kernel, by decide⟩, tb_in 831 rfl rfl, tb_in 16 rfl rfl⟩
set_option maxRecDepth 100000 in
def fX6_product : Fr := (RX6, cX6_product, 5, (some .boolean), "product", [])
set_option maxRecDepth 100000 in
theorem mbX6_product : MBV yX6_product fX6_product 1 := ⟨⟨tb_in 828 rfl rfl, tb_in 105 rfl rfl, ⟨by decide +kernel, by decide +kernel⟩, by decide +kernel, by decide⟩, tb_in 827 rfl rfl, tb_in 15 rfl rfl⟩
set_option maxRecDepth 100000 in
def fX6_sum : Fr := (RX6, cX6_sum, 5, (some .boolean), "sum", [])
set_option maxRecDepth 100000 in
theorem mbX6_sum : MBV yX6_sum fX6_sum 1 := ⟨⟨tb_in 824 rfl rfl, tb_in 105 rfl rfl, ⟨by decide +kernel, by decide +kernel⟩, by decide +kernel, by decide⟩, tb_in 823 rfl rfl, tb_in 14 rfl rfl⟩
set_option maxRecDepth 100000 in
def fX6_test : Fr := (RX6, cX6_test, 4, (some .boolean), "test", [])
set_option maxRecDepth 100000 in
theorem mbX6_test : MBV yX6_test fX6_test 1 := ⟨⟨tb_in 820 rfl rfl, tb_in 105 rfl rfl, ⟨by decide +kernel, by decide +kernel⟩, by decide +kernel, by decide⟩, tb_in 819 rfl rfl, tb_in 13 rfl rfl⟩
set_option maxRecDepth 100000 in
def fX6_negation : Fr := (RX6, cX6_negation, 5, (some .boolean), "negation", [])
set_option maxRecDepth 100000 in
theorem mbX6_negation : MBV yX6_negation fX6_negation 1 := ⟨⟨tb_in 815 rfl rfl, tb_in 105 rfl rfl, ⟨by decide +kernel, by decide +kernel⟩, by decide +kernel, by decide⟩, tb_in 814 rfl rfl, tb_in 12 rfl rfl⟩
set_option maxRecDepth 100000 in
def fX6_both : Fr := (RX6, cX6_both, 4, (some .boolean), "both", [])
set_option maxRecDepth 100000 in
theorem mbX6_both : MBV yX6_both fX6_both 1 := ⟨⟨tb_in 811 rfl rfl, tb_in 105 rfl rfl, ⟨by decide +kernel, by decide +kernel⟩, by decide +kernel, by decide⟩, tb_in 810 rfl rfl, tb_in 11 rfl rfl⟩
set_option maxRecDepth 100000 in
def fX6_either : Fr := (RX6, cX6_either, 4, (some .boolean), "either", [])
set_option maxRecDepth 100000 in
theorem mbX6_either : MBV yX6_either fX6_either 1 := ⟨⟨tb_in 807 rfl rfl, tb_in 105 rfl rfl, ⟨by decide +kernel, by decide +kernel⟩, by decide +kernel, by decide⟩, tb_in 806 rfl rfl, tb_in 10 rfl rfl⟩
set_option maxRecDepth 100000 in
def fX8_closeSort : Fr := (RX8, cX8_closeSort, 1, Option.none, "closeSort", [])
set_option maxRecDepth 100000 in
theorem mbX8_closeSort : MBV yX8_closeSort fX8_closeSort 0 := ⟨⟨tb_in 863 rfl rfl, tb_in 106 rfl rfl, ⟨by decide +kernel, by decide +kernel⟩, by decide +kernel, by decide⟩, tb_in 861 rfl rfl, tb_in 862 rfl rfl⟩
set_option maxRecDepth 100000 in
def fX6_sortClause : Fr := (RX6, cX6_sortClause, 2, (some .boolean), "sortClause", [])
set_option maxRecDepth 100000 in
theorem mbX6_sortClause : MBV yX6_sortClause fX6_sortClause 0 := ⟨⟨tb_in 788 rfl rfl, tb_in 105 rfl rfl, ⟨by decide +kernel, by decide +kernel⟩, by decide +kernel, by decide⟩, tb_in 787 rfl rfl, tb_in 6 rfl rfl⟩
set_option maxRecDepth 100000 in
def fX6_once : Fr := (RX6, cX6_once, 2, (some .boolean), "once", [])
set_option maxRecDepth 100000 in
theorem mbX6_once : MBV yX6_once fX6_once 1 := ⟨⟨tb_in 869 rfl rfl, tb_in 105 rfl rfl, ⟨by decide +kernel, by decide +kernel⟩, by decide +kernel, by decide⟩, tb_in 868 rfl rfl, tb_in 19 rfl rfl⟩
set_option maxRecDepth 100000 in
def fX6_sightClause : Fr := (RX6, cX6_sightClause, 2, (some .boolean), "sightClause", [])
set_option maxRecDepth 100000 in
theorem mbX6_sightClause : MBV yX6_sightClause fX6_sightClause 0 := ⟨⟨tb_in 873 rfl rfl, tb_in 105 rfl rfl, ⟨by decide +kernel, by decide +kernel⟩, by decide +kernel, by decide⟩, tb_in 872 rfl rfl, tb_in 20 rfl rfl⟩
set_option maxRecDepth 100000 in
def fX6_cardClause : Fr := (RX6, cX6_cardClause, 2, (some .boolean), "cardClause", [])
set_option maxRecDepth 100000 in
theorem mbX6_cardClause : MBV yX6_cardClause fX6_cardClause 0 := ⟨⟨tb_in 877 rfl rfl, tb_in 105 rfl rfl, ⟨by decide +kernel, by decide +kernel⟩, by decide +kernel, by decide⟩, tb_in 876 rfl rfl, tb_in 21 rfl rfl⟩
set_option maxRecDepth 100000 in
def fX6_leastClause : Fr := (RX6, cX6_leastClause, 2, (some .boolean), "leastClause", [])
set_option maxRecDepth 100000 in
theorem mbX6_leastClause : MBV yX6_leastClause fX6_leastClause 0 := ⟨⟨tb_in 881 rfl rfl, tb_in 105 rfl rfl, ⟨by decide +kernel, by decide +kernel⟩, by decide +kernel, by decide⟩, tb_in 880 rfl rfl, tb_in 22 rfl rfl⟩
set_option maxRecDepth 100000 in
def fX6_thiefClause : Fr := (RX6, cX6_thiefClause, 2, (some .boolean), "thiefClause", [])
set_option maxRecDepth 100000 in
theorem mbX6_thiefClause : MBV yX6_thiefClause fX6_thiefClause 0 := ⟨⟨tb_in 886 rfl rfl, tb_in 105 rfl rfl, ⟨by decide +kernel, by decide +kernel⟩, by decide +kernel, by decide⟩, tb_in 885 rfl rfl, tb_in 23 rfl rfl⟩
set_option maxRecDepth 100000 in
def fX6_clause : Fr := (RX6, cX6_clause, 2, (some .boolean), "clause", [])
set_option maxRecDepth 100000 in
theorem mbX6_clause : MBV yX6_clause fX6_clause 0 := ⟨⟨tb_in 731 rfl rfl, tb_in 105 rfl rfl, ⟨by decide +kernel, by decide +kernel⟩, by decide +kernel, by decide⟩, tb_in 730 rfl rfl, tb_in 4 rfl rfl⟩
set_option maxRecDepth 100000 in
def fX6_read : Fr := (RX6, cX6_read, 3, (some .int), "read", [])
set_option maxRecDepth 100000 in
theorem mbX6_read : MBV yX6_read fX6_read 1 := ⟨⟨tb_in 692 rfl rfl, tb_in 105 rfl rfl, ⟨by decide +kernel, by decide +kernel⟩, by decide +kernel, by decide⟩, tb_in 690 rfl rfl, tb_in 691 rfl rfl⟩
set_option maxRecDepth 100000 in
def fX11_refused : Fr := (RX11, cX11_refused, 2, Option.none, "refused", [])
set_option maxRecDepth 100000 in
theorem mbX11_refused : MBV yX11_refused fX11_refused 1 := ⟨⟨tb_in 890 rfl rfl, tb_in 104 rfl rfl, ⟨by decide +kernel, by decide +kernel⟩, by decide +kernel, by decide⟩, tb_in 889 rfl rfl, tb_in 24 rfl rfl⟩
set_option maxRecDepth 100000 in
def fX0_beginAt : Fr := (RX0, cX0_beginAt, 2, Option.none, "beginAt", [])
set_option maxRecDepth 100000 in
theorem mbX0_beginAt : MBV yX0_beginAt fX0_beginAt 1 := ⟨⟨tb_in 900 rfl rfl, tb_in 109 rfl rfl, ⟨by decide +kernel, by decide +kernel⟩, by decide +kernel, by decide⟩, tb_in 898 rfl rfl, tb_in 899 rfl rfl⟩
set_option maxRecDepth 100000 in
def fJ7_fill_53178 : Fr := (RJ7, cJ7_fill_53178, 4, Option.none, "fill", [])
set_option maxRecDepth 100000 in
theorem mbJ7_fill_53178 : MBS yJ7_fill_53178 fJ7_fill_53178 2 := ⟨⟨tb_in 903 rfl rfl, tb_in 126 rfl rfl, ⟨by decide +kernel, by decide +kernel⟩, by decide +kernel, by decide⟩, tb_in 902 rfl rfl⟩
set_option maxRecDepth 100000 in
def fX0_clear : Fr := (RX0, cX0_clear, 1, Option.none, "clear", [])
set_option maxRecDepth 100000 in
theorem mbX0_clear : MBV yX0_clear fX0_clear 0 := ⟨⟨tb_in 896 rfl rfl, tb_in 109 rfl rfl, ⟨by decide +kernel, by decide +kernel⟩, by decide +kernel, by decide⟩, tb_in 894 rfl rfl, tb_in 895 rfl rfl⟩
set_option maxRecDepth 100000 in
def fX11_gate : Fr := (RX11, cX11_gate, 6, (some .int), "gate", [])
set_option maxRecDepth 100000 in
theorem mbX11_gate : MBV yX11_gate fX11_gate 2 := ⟨⟨tb_in 595 rfl rfl, tb_in 104 rfl rfl, ⟨by decide +kernel, by decide +kernel⟩, by decide +kernel, by decide⟩, tb_in 593 rfl rfl, tb_in 594 rfl rfl⟩
set_option maxRecDepth 100000 in
def fX11_fault : Fr := (RX11, cX11_fault, 1, (some .int), "fault", [])
set_option maxRecDepth 100000 in
theorem mbX11_fault : MBV yX11_fault fX11_fault 0 := ⟨⟨tb_in 570 rfl rfl, tb_in 104 rfl rfl, ⟨by decide +kernel, by decide +kernel⟩, by decide +kernel, by decide⟩, tb_in 568 rfl rfl, tb_in 569 rfl rfl⟩
set_option maxRecDepth 100000 in
def fX11_count : Fr := (RX11, cX11_count, 2, (some .int), "count", [])
set_option maxRecDepth 100000 in
theorem mbX11_count : MBV yX11_count fX11_count 1 := ⟨⟨tb_in 910 rfl rfl, tb_in 104 rfl rfl, ⟨by decide +kernel, by decide +kernel⟩, by decide +kernel, by decide⟩, tb_in 908 rfl rfl, tb_in 909 rfl rfl⟩
set_option maxRecDepth 100000 in
def fX8_told : Fr := (RX8, cX8_told, 2, (some .int), "told", [])
set_option maxRecDepth 100000 in
theorem mbX8_told : MBV yX8_told fX8_told 1 := ⟨⟨tb_in 921 rfl rfl, tb_in 106 rfl rfl, ⟨by decide +kernel, by decide +kernel⟩, by decide +kernel, by decide⟩, tb_in 919 rfl rfl, tb_in 920 rfl rfl⟩
set_option maxRecDepth 100000 in
def fX0_told : Fr := (RX0, cX0_told, 2, (some .int), "told", [])
set_option maxRecDepth 100000 in
theorem mbX0_told : MBV yX0_told fX0_told 1 := ⟨⟨tb_in 925 rfl rfl, tb_in 109 rfl rfl, ⟨by decide +kernel, by decide +kernel⟩, by decide +kernel, by decide⟩, tb_in 923 rfl rfl, tb_in 924 rfl rfl⟩
set_option maxRecDepth 100000 in
def fX11_about : Fr := (RX11, cX11_about, 4, (some .int), "about", [])
set_option maxRecDepth 100000 in
theorem mbX11_about : MBV yX11_about fX11_about 2 := ⟨⟨tb_in 917 rfl rfl, tb_in 104 rfl rfl, ⟨by decide +kernel, by decide +kernel⟩, by decide +kernel, by decide⟩, tb_in 915 rfl rfl, tb_in 916 rfl rfl⟩
set_option maxRecDepth 100000 in
def fX11_sort : Fr := (RX11, cX11_sort, 5, (some .int), "sort", [])
set_option maxRecDepth 100000 in
theorem mbX11_sort : MBV yX11_sort fX11_sort 3 := ⟨⟨tb_in 932 rfl rfl, tb_in 104 rfl rfl, ⟨by decide +kernel, by decide +kernel⟩, by decide +kernel, by decide⟩, tb_in 930 rfl rfl, tb_in 931 rfl rfl⟩
set_option maxRecDepth 100000 in
def fX8_states : Fr := (RX8, cX8_states, 1, (some .int), "states", [])
set_option maxRecDepth 100000 in
theorem mbX8_states : MBV yX8_states fX8_states 0 := ⟨⟨tb_in 943 rfl rfl, tb_in 106 rfl rfl, ⟨by decide +kernel, by decide +kernel⟩, by decide +kernel, by decide⟩, tb_in 941 rfl rfl, tb_in 942 rfl rfl⟩
set_option maxRecDepth 100000 in
def fX5_begin : Fr := (RX5, cX5_begin, 3, Option.none, "begin", [])
set_option maxRecDepth 100000 in
theorem mbX5_begin : MBV yX5_begin fX5_begin 2 := ⟨⟨tb_in 947 rfl rfl, tb_in 110 rfl rfl, ⟨by decide +kernel, by decide +kernel⟩, by decide +kernel, by decide⟩, tb_in 945 rfl rfl, tb_in 946 rfl rfl⟩
set_option maxRecDepth 100000 in
def fX8_meanOf : Fr := (RX8, cX8_meanOf, 2, (some .int), "meanOf", [])
set_option maxRecDepth 100000 in
theorem mbX8_meanOf : MBV yX8_meanOf fX8_meanOf 1 := ⟨⟨tb_in 962 rfl rfl, tb_in 106 rfl rfl, ⟨by decide +kernel, by decide +kernel⟩, by decide +kernel, by decide⟩, tb_in 960 rfl rfl, tb_in 961 rfl rfl⟩
set_option maxRecDepth 100000 in
def fX5_look : Fr := (RX5, cX5_look, 5, Option.none, "look", [])
set_option maxRecDepth 100000 in
theorem mbX5_look : MBV yX5_look fX5_look 3 := ⟨⟨tb_in 957 rfl rfl, tb_in 110 rfl rfl, ⟨by decide +kernel, by decide +kernel⟩, by decide +kernel, by decide⟩, tb_in 956 rfl rfl, tb_in 25 rfl rfl⟩
set_option maxRecDepth 100000 in
def fX5_joined : Fr := (RX5, cX5_joined, 3, (some .int), "joined", [])
set_option maxRecDepth 100000 in
theorem mbX5_joined : MBS yX5_joined fX5_joined 3 := ⟨⟨tb_in 969 rfl rfl, tb_in 110 rfl rfl, ⟨by decide +kernel, by decide +kernel⟩, by decide +kernel, by decide⟩, tb_in 968 rfl rfl⟩
set_option maxRecDepth 100000 in
def fX5_worked : Fr := (RX5, cX5_worked, 6, (some .int), "worked", [])
set_option maxRecDepth 100000 in
theorem mbX5_worked : MBV yX5_worked fX5_worked 2 := ⟨⟨tb_in 966 rfl rfl, tb_in 110 rfl rfl, ⟨by decide +kernel, by decide +kernel⟩, by decide +kernel, by decide⟩, tb_in 965 rfl rfl, tb_in 26 rfl rfl⟩
set_option maxRecDepth 100000 in
def fX5_kept : Fr := (RX5, cX5_kept, 5, (some .int), "kept", [])
set_option maxRecDepth 100000 in
theorem mbX5_kept : MBV yX5_kept fX5_kept 1 := ⟨⟨tb_in 973 rfl rfl, tb_in 110 rfl rfl, ⟨by decide +kernel, by decide +kernel⟩, by decide +kernel, by decide⟩, tb_in 972 rfl rfl, tb_in 27 rfl rfl⟩
set_option maxRecDepth 100000 in
def fX5_giftAt : Fr := (RX5, cX5_giftAt, 7, (some .int), "giftAt", [])
set_option maxRecDepth 100000 in
theorem mbX5_giftAt : MBV yX5_giftAt fX5_giftAt 3 := ⟨⟨tb_in 952 rfl rfl, tb_in 110 rfl rfl, ⟨by decide +kernel, by decide +kernel⟩, by decide +kernel, by decide⟩, tb_in 950 rfl rfl, tb_in 951 rfl rfl⟩
set_option maxRecDepth 100000 in
def fX11_gives : Fr := (RX11, cX11_gives, 5, (some .int), "gives", [])
set_option maxRecDepth 100000 in
theorem mbX11_gives : MBV yX11_gives fX11_gives 3 := ⟨⟨tb_in 939 rfl rfl, tb_in 104 rfl rfl, ⟨by decide +kernel, by decide +kernel⟩, by decide +kernel, by decide⟩, tb_in 937 rfl rfl, tb_in 938 rfl rfl⟩
set_option maxRecDepth 100000 in
def fX8_stateBehind : Fr := (RX8, cX8_stateBehind, 3, (some .int), "stateBehind", [])
set_option maxRecDepth 100000 in
theorem mbX8_stateBehind : MBV yX8_stateBehind fX8_stateBehind 2 := ⟨⟨tb_in 984 rfl rfl, tb_in 106 rfl rfl, ⟨by decide +kernel, by decide +kernel⟩, by decide +kernel, by decide⟩, tb_in 982 rfl rfl, tb_in 983 rfl rfl⟩
set_option maxRecDepth 100000 in
def fX11_next : Fr := (RX11, cX11_next, 5, (some .int), "next", [])
set_option maxRecDepth 100000 in
theorem mbX11_next : MBV yX11_next fX11_next 3 := ⟨⟨tb_in 980 rfl rfl, tb_in 104 rfl rfl, ⟨by decide +kernel, by decide +kernel⟩, by decide +kernel, by decide⟩, tb_in 978 rfl rfl, tb_in 979 rfl rfl⟩
set_option maxRecDepth 100000 in
def fX11_seed : Fr := (RX11, cX11_seed, 4, Option.none, "seed", [])
set_option maxRecDepth 100000 in
theorem mbX11_seed : MBV yX11_seed fX11_seed 2 := ⟨⟨tb_in 991 rfl rfl, tb_in 104 rfl rfl, ⟨by decide +kernel, by decide +kernel⟩, by decide +kernel, by decide⟩, tb_in 989 rfl rfl, tb_in 990 rfl rfl⟩
set_option maxRecDepth 100000 in
def fX11_set : Fr := (RX11, cX11_set, 4, (some .boolean), "set", [])
set_option maxRecDepth 100000 in
theorem mbX11_set : MBV yX11_set fX11_set 2 := ⟨⟨tb_in 999 rfl rfl, tb_in 104 rfl rfl, ⟨by decide +kernel, by decide +kernel⟩, by decide +kernel, by decide⟩, tb_in 997 rfl rfl, tb_in 998 rfl rfl⟩
set_option maxRecDepth 100000 in
def fX1_clear : Fr := (RX1, cX1_clear, 2, Option.none, "clear", [])
set_option maxRecDepth 100000 in
theorem mbX1_clear : MBV yX1_clear fX1_clear 0 := ⟨⟨tb_in 1019 rfl rfl, tb_in 112 rfl rfl, ⟨by decide +kernel, by decide +kernel⟩, by decide +kernel, by decide⟩, tb_in 1017 rfl rfl, tb_in 1018 rfl rfl⟩
set_option maxRecDepth 100000 in
def fX1_add : Fr := (RX1, cX1_add, 4, Option.none, "add", [])
set_option maxRecDepth 100000 in
theorem mbX1_add : MBV yX1_add fX1_add 2 := ⟨⟨tb_in 1026 rfl rfl, tb_in 112 rfl rfl, ⟨by decide +kernel, by decide +kernel⟩, by decide +kernel, by decide⟩, tb_in 1024 rfl rfl, tb_in 1025 rfl rfl⟩
set_option maxRecDepth 100000 in
def fX10_begin : Fr := (RX10, cX10_begin, 2, Option.none, "begin", [])
set_option maxRecDepth 100000 in
theorem mbX10_begin : MBV yX10_begin fX10_begin 1 := ⟨⟨tb_in 1015 rfl rfl, tb_in 111 rfl rfl, ⟨by decide +kernel, by decide +kernel⟩, by decide +kernel, by decide⟩, tb_in 1013 rfl rfl, tb_in 1014 rfl rfl⟩
set_option maxRecDepth 100000 in
def fX1_placeOf : Fr := (RX1, cX1_placeOf, 2, (some .int), "placeOf", [])
set_option maxRecDepth 100000 in
theorem mbX1_placeOf : MBV yX1_placeOf fX1_placeOf 1 := ⟨⟨tb_in 1038 rfl rfl, tb_in 112 rfl rfl, ⟨by decide +kernel, by decide +kernel⟩, by decide +kernel, by decide⟩, tb_in 1036 rfl rfl, tb_in 1037 rfl rfl⟩
set_option maxRecDepth 100000 in
def fX1_amountOf : Fr := (RX1, cX1_amountOf, 2, (some .int), "amountOf", [])
set_option maxRecDepth 100000 in
theorem mbX1_amountOf : MBV yX1_amountOf fX1_amountOf 1 := ⟨⟨tb_in 1046 rfl rfl, tb_in 112 rfl rfl, ⟨by decide +kernel, by decide +kernel⟩, by decide +kernel, by decide⟩, tb_in 1044 rfl rfl, tb_in 1045 rfl rfl⟩
set_option maxRecDepth 100000 in
def fX8_partOf : Fr := (RX8, cX8_partOf, 4, (some .int), "partOf", [])
set_option maxRecDepth 100000 in
theorem mbX8_partOf : MBV yX8_partOf fX8_partOf 3 := ⟨⟨tb_in 1050 rfl rfl, tb_in 106 rfl rfl, ⟨by decide +kernel, by decide +kernel⟩, by decide +kernel, by decide⟩, tb_in 1048 rfl rfl, tb_in 1049 rfl rfl⟩
set_option maxRecDepth 100000 in
def fX10_share : Fr := (RX10, cX10_share, 8, Option.none, "share", [])
set_option maxRecDepth 100000 in
theorem mbX10_share : MBV yX10_share fX10_share 1 := ⟨⟨tb_in 1042 rfl rfl, tb_in 111 rfl rfl, ⟨by decide +kernel, by decide +kernel⟩, by decide +kernel, by decide⟩, tb_in 1041 rfl rfl, tb_in 30 rfl rfl⟩
set_option maxRecDepth 100000 in
def fX10_comesOne : Fr := (RX10, cX10_comesOne, 2, Option.none, "comesOne", [])
set_option maxRecDepth 100000 in
theorem mbX10_comesOne : MBV yX10_comesOne fX10_comesOne 0 := ⟨⟨tb_in 1034 rfl rfl, tb_in 111 rfl rfl, ⟨by decide +kernel, by decide +kernel⟩, by decide +kernel, by decide⟩, tb_in 1033 rfl rfl, tb_in 29 rfl rfl⟩
set_option maxRecDepth 100000 in
def fX1_isLike : Fr := (RX1, cX1_isLike, 4, (some .boolean), "isLike", [])
set_option maxRecDepth 100000 in
theorem mbX1_isLike : MBV yX1_isLike fX1_isLike 1 := ⟨⟨tb_in 1056 rfl rfl, tb_in 112 rfl rfl, ⟨by decide +kernel, by decide +kernel⟩, by decide +kernel, by decide⟩, tb_in 1054 rfl rfl, tb_in 1055 rfl rfl⟩
set_option maxRecDepth 100000 in
def fX10_go : Fr := (RX10, cX10_go, 7, Option.none, "go", [])
set_option maxRecDepth 100000 in
theorem mbX10_go : MBV yX10_go fX10_go 1 := ⟨⟨tb_in 1030 rfl rfl, tb_in 111 rfl rfl, ⟨by decide +kernel, by decide +kernel⟩, by decide +kernel, by decide⟩, tb_in 1028 rfl rfl, tb_in 1029 rfl rfl⟩
set_option maxRecDepth 100000 in
def fX11_walkAlong : Fr := (RX11, cX11_walkAlong, 3, Option.none, "walkAlong", [])
set_option maxRecDepth 100000 in
theorem mbX11_walkAlong : MBV yX11_walkAlong fX11_walkAlong 2 := ⟨⟨tb_in 1011 rfl rfl, tb_in 104 rfl rfl, ⟨by decide +kernel, by decide +kernel⟩, by decide +kernel, by decide⟩, tb_in 1010 rfl rfl, tb_in 28 rfl rfl⟩
set_option maxRecDepth 100000 in
def fX10_thousandthsGiven : Fr := (RX10, cX10_thousandthsGiven, 1, (some .int), "thousandthsGiven", [])
set_option maxRecDepth 100000 in
theorem mbX10_thousandthsGiven : MBV yX10_thousandthsGiven fX10_thousandthsGiven 0 := ⟨⟨tb_in 1061 rfl rfl, tb_in 111 rfl rfl, ⟨by decide +kernel, by decide +kernel⟩, by decide +kernel, by decide⟩, tb_in 1059 rfl rfl, tb_in 1060 rfl rfl⟩
set_option maxRecDepth 100000 in
def fX10_thousandthsAway : Fr := (RX10, cX10_thousandthsAway, 1, (some .int), "thousandthsAway", [])
set_option maxRecDepth 100000 in
theorem mbX10_thousandthsAway : MBV yX10_thousandthsAway fX10_thousandthsAway 0 := ⟨⟨tb_in 1066 rfl rfl, tb_in 111 rfl rfl, ⟨by decide +kernel, by decide +kernel⟩, by decide +kernel, by decide⟩, tb_in 1064 rfl rfl, tb_in 1065 rfl rfl⟩
set_option maxRecDepth 100000 in
def fX11_coin : Fr := (RX11, cX11_coin, 5, (some .int), "coin", [])
set_option maxRecDepth 100000 in
theorem mbX11_coin : MBV yX11_coin fX11_coin 3 := ⟨⟨tb_in 1007 rfl rfl, tb_in 104 rfl rfl, ⟨by decide +kernel, by decide +kernel⟩, by decide +kernel, by decide⟩, tb_in 1005 rfl rfl, tb_in 1006 rfl rfl⟩
set_option maxRecDepth 100000 in
def fX11_cases : Fr := (RX11, cX11_cases, 5, (some .int), "cases", [])
set_option maxRecDepth 100000 in
theorem mbX11_cases : MBV yX11_cases fX11_cases 3 := ⟨⟨tb_in 1073 rfl rfl, tb_in 104 rfl rfl, ⟨by decide +kernel, by decide +kernel⟩, by decide +kernel, by decide⟩, tb_in 1071 rfl rfl, tb_in 1072 rfl rfl⟩
set_option maxRecDepth 100000 in
def fX10_driftOfOneMore : Fr := (RX10, cX10_driftOfOneMore, 3, (some .int), "driftOfOneMore", [])
set_option maxRecDepth 100000 in
theorem mbX10_driftOfOneMore : MBV yX10_driftOfOneMore fX10_driftOfOneMore 0 := ⟨⟨tb_in 1085 rfl rfl, tb_in 111 rfl rfl, ⟨by decide +kernel, by decide +kernel⟩, by decide +kernel, by decide⟩, tb_in 1083 rfl rfl, tb_in 1084 rfl rfl⟩
set_option maxRecDepth 100000 in
def fX11_drift : Fr := (RX11, cX11_drift, 4, (some .int), "drift", [])
set_option maxRecDepth 100000 in
theorem mbX11_drift : MBV yX11_drift fX11_drift 2 := ⟨⟨tb_in 1081 rfl rfl, tb_in 104 rfl rfl, ⟨by decide +kernel, by decide +kernel⟩, by decide +kernel, by decide⟩, tb_in 1079 rfl rfl, tb_in 1080 rfl rfl⟩
set_option maxRecDepth 100000 in
def fX11_turn : Fr := (RX11, cX11_turn, 4, (some .int), "turn", [])
set_option maxRecDepth 100000 in
theorem mbX11_turn : MBV yX11_turn fX11_turn 2 := ⟨⟨tb_in 1093 rfl rfl, tb_in 104 rfl rfl, ⟨by decide +kernel, by decide +kernel⟩, by decide +kernel, by decide⟩, tb_in 1091 rfl rfl, tb_in 1092 rfl rfl⟩
set_option maxRecDepth 100000 in
def fX7_isRow : Fr := (RX7, cX7_isRow, 2, (some .boolean), "isRow", [])
set_option maxRecDepth 100000 in
theorem mbX7_isRow : MBV yX7_isRow fX7_isRow 1 := ⟨⟨tb_in 1113 rfl rfl, tb_in 114 rfl rfl, ⟨by decide +kernel, by decide +kernel⟩, by decide +kernel, by decide⟩, tb_in 1112 rfl rfl, tb_in 32 rfl rfl⟩
set_option maxRecDepth 100000 in
def fX7_mark : Fr := (RX7, cX7_mark, 3, Option.none, "mark", [])
set_option maxRecDepth 100000 in
theorem mbX7_mark : MBV yX7_mark fX7_mark 2 := ⟨⟨tb_in 1117 rfl rfl, tb_in 114 rfl rfl, ⟨by decide +kernel, by decide +kernel⟩, by decide +kernel, by decide⟩, tb_in 1116 rfl rfl, tb_in 33 rfl rfl⟩
set_option maxRecDepth 100000 in
def fX7_link : Fr := (RX7, cX7_link, 4, Option.none, "link", [])
set_option maxRecDepth 100000 in
theorem mbX7_link : MBV yX7_link fX7_link 1 := ⟨⟨tb_in 1109 rfl rfl, tb_in 114 rfl rfl, ⟨by decide +kernel, by decide +kernel⟩, by decide +kernel, by decide⟩, tb_in 1108 rfl rfl, tb_in 31 rfl rfl⟩
set_option maxRecDepth 100000 in
def fX7_reaches : Fr := (RX7, cX7_reaches, 5, (some .boolean), "reaches", [])
set_option maxRecDepth 100000 in
theorem mbX7_reaches : MBV yX7_reaches fX7_reaches 2 := ⟨⟨tb_in 1123 rfl rfl, tb_in 114 rfl rfl, ⟨by decide +kernel, by decide +kernel⟩, by decide +kernel, by decide⟩, tb_in 1122 rfl rfl, tb_in 34 rfl rfl⟩
set_option maxRecDepth 100000 in
def fX7_reachAsFarAs : Fr := (RX7, cX7_reachAsFarAs, 3, Option.none, "reachAsFarAs", [])
set_option maxRecDepth 100000 in
theorem mbX7_reachAsFarAs : MBV yX7_reachAsFarAs fX7_reachAsFarAs 2 := ⟨⟨tb_in 1127 rfl rfl, tb_in 114 rfl rfl, ⟨by decide +kernel, by decide +kernel⟩, by decide +kernel, by decide⟩, tb_in 1126 rfl rfl, tb_in 35 rfl rfl⟩
set_option maxRecDepth 100000 in
def fX7_find : Fr := (RX7, cX7_find, 4, Option.none, "find", [])
set_option maxRecDepth 100000 in
theorem mbX7_find : MBV yX7_find fX7_find 1 := ⟨⟨tb_in 1104 rfl rfl, tb_in 114 rfl rfl, ⟨by decide +kernel, by decide +kernel⟩, by decide +kernel, by decide⟩, tb_in 1102 rfl rfl, tb_in 1103 rfl rfl⟩
set_option maxRecDepth 100000 in
def fX7_isLeastOfRest : Fr := (RX7, cX7_isLeastOfRest, 3, (some .boolean), "isLeastOfRest", [])
set_option maxRecDepth 100000 in
theorem mbX7_isLeastOfRest : MBV yX7_isLeastOfRest fX7_isLeastOfRest 1 := ⟨⟨tb_in 1135 rfl rfl, tb_in 114 rfl rfl, ⟨by decide +kernel, by decide +kernel⟩, by decide +kernel, by decide⟩, tb_in 1134 rfl rfl, tb_in 36 rfl rfl⟩
set_option maxRecDepth 100000 in
def fX7_howMany : Fr := (RX7, cX7_howMany, 3, (some .int), "howMany", [])
set_option maxRecDepth 100000 in
theorem mbX7_howMany : MBV yX7_howMany fX7_howMany 0 := ⟨⟨tb_in 1131 rfl rfl, tb_in 114 rfl rfl, ⟨by decide +kernel, by decide +kernel⟩, by decide +kernel, by decide⟩, tb_in 1129 rfl rfl, tb_in 1130 rfl rfl⟩
set_option maxRecDepth 100000 in
def fX7_leastOf : Fr := (RX7, cX7_leastOf, 4, (some .int), "leastOf", [])
set_option maxRecDepth 100000 in
theorem mbX7_leastOf : MBV yX7_leastOf fX7_leastOf 1 := ⟨⟨tb_in 1139 rfl rfl, tb_in 114 rfl rfl, ⟨by decide +kernel, by decide +kernel⟩, by decide +kernel, by decide⟩, tb_in 1137 rfl rfl, tb_in 1138 rfl rfl⟩
set_option maxRecDepth 100000 in
def fX7_sizeFrom : Fr := (RX7, cX7_sizeFrom, 4, (some .int), "sizeFrom", [])
set_option maxRecDepth 100000 in
theorem mbX7_sizeFrom : MBV yX7_sizeFrom fX7_sizeFrom 1 := ⟨⟨tb_in 1144 rfl rfl, tb_in 114 rfl rfl, ⟨by decide +kernel, by decide +kernel⟩, by decide +kernel, by decide⟩, tb_in 1142 rfl rfl, tb_in 1143 rfl rfl⟩
set_option maxRecDepth 100000 in
def fX11_meanFrom : Fr := (RX11, cX11_meanFrom, 3, (some .int), "meanFrom", [])
set_option maxRecDepth 100000 in
theorem mbX11_meanFrom : MBV yX11_meanFrom fX11_meanFrom 1 := ⟨⟨tb_in 1148 rfl rfl, tb_in 104 rfl rfl, ⟨by decide +kernel, by decide +kernel⟩, by decide +kernel, by decide⟩, tb_in 1147 rfl rfl, tb_in 37 rfl rfl⟩
set_option maxRecDepth 100000 in
def fX11_rest : Fr := (RX11, cX11_rest, 6, (some .int), "rest", [])
set_option maxRecDepth 100000 in
theorem mbX11_rest : MBV yX11_rest fX11_rest 3 := ⟨⟨tb_in 1100 rfl rfl, tb_in 104 rfl rfl, ⟨by decide +kernel, by decide +kernel⟩, by decide +kernel, by decide⟩, tb_in 1098 rfl rfl, tb_in 1099 rfl rfl⟩
set_option maxRecDepth 100000 in
def fX8_asks : Fr := (RX8, cX8_asks, 2, (some .boolean), "asks", [])
set_option maxRecDepth 100000 in
theorem mbX8_asks : MBV yX8_asks fX8_asks 1 := ⟨⟨tb_in 1167 rfl rfl, tb_in 106 rfl rfl, ⟨by decide +kernel, by decide +kernel⟩, by decide +kernel, by decide⟩, tb_in 1166 rfl rfl, tb_in 39 rfl rfl⟩
set_option maxRecDepth 100000 in
def fX8_lesserCardIsLike : Fr := (RX8, cX8_lesserCardIsLike, 2, (some .boolean), "lesserCardIsLike", [])
set_option maxRecDepth 100000 in
theorem mbX8_lesserCardIsLike : MBV yX8_lesserCardIsLike fX8_lesserCardIsLike 1 := ⟨⟨tb_in 1171 rfl rfl, tb_in 106 rfl rfl, ⟨by decide +kernel, by decide +kernel⟩, by decide +kernel, by decide⟩, tb_in 1169 rfl rfl, tb_in 1170 rfl rfl⟩
set_option maxRecDepth 100000 in
def fX8_lesserIsLike : Fr := (RX8, cX8_lesserIsLike, 4, (some .boolean), "lesserIsLike", [])
set_option maxRecDepth 100000 in
theorem mbX8_lesserIsLike : MBV yX8_lesserIsLike fX8_lesserIsLike 1 := ⟨⟨tb_in 1163 rfl rfl, tb_in 106 rfl rfl, ⟨by decide +kernel, by decide +kernel⟩, by decide +kernel, by decide⟩, tb_in 1161 rfl rfl, tb_in 1162 rfl rfl⟩
set_option maxRecDepth 100000 in
def fX11_searchSettings : Fr := (RX11, cX11_searchSettings, 5, Option.none, "searchSettings", [])
set_option maxRecDepth 100000 in
theorem mbX11_searchSettings : MBV yX11_searchSettings fX11_searchSettings 3 := ⟨⟨tb_in 1159 rfl rfl, tb_in 104 rfl rfl, ⟨by decide +kernel, by decide +kernel⟩, by decide +kernel, by decide⟩, tb_in 1158 rfl rfl, tb_in 38 rfl rfl⟩
set_option maxRecDepth 100000 in
def fX11_best : Fr := (RX11, cX11_best, 6, (some .int), "best", [])
set_option maxRecDepth 100000 in
theorem mbX11_best : MBV yX11_best fX11_best 4 := ⟨⟨tb_in 1155 rfl rfl, tb_in 104 rfl rfl, ⟨by decide +kernel, by decide +kernel⟩, by decide +kernel, by decide⟩, tb_in 1153 rfl rfl, tb_in 1154 rfl rfl⟩
set_option maxRecDepth 100000 in
def fX11_would : Fr := (RX11, cX11_would, 5, (some .int), "would", [])
set_option maxRecDepth 100000 in
theorem mbX11_would : MBV yX11_would fX11_would 3 := ⟨⟨tb_in 1178 rfl rfl, tb_in 104 rfl rfl, ⟨by decide +kernel, by decide +kernel⟩, by decide +kernel, by decide⟩, tb_in 1176 rfl rfl, tb_in 1177 rfl rfl⟩
set_option maxRecDepth 100000 in
def fX9_becomeLike : Fr := (RX9, cX9_becomeLike, 2, Option.none, "becomeLike", [])
set_option maxRecDepth 100000 in
theorem mbX9_becomeLike : MBV yX9_becomeLike fX9_becomeLike 1 := ⟨⟨tb_in 1189 rfl rfl, tb_in 107 rfl rfl, ⟨by decide +kernel, by decide +kernel⟩, by decide +kernel, by decide⟩, tb_in 1187 rfl rfl, tb_in 1188 rfl rfl⟩
set_option maxRecDepth 100000 in
def fX11_card : Fr := (RX11, cX11_card, 7, (some .int), "card", [])
set_option maxRecDepth 100000 in
theorem mbX11_card : MBV yX11_card fX11_card 2 := ⟨⟨tb_in 1185 rfl rfl, tb_in 104 rfl rfl, ⟨by decide +kernel, by decide +kernel⟩, by decide +kernel, by decide⟩, tb_in 1183 rfl rfl, tb_in 1184 rfl rfl⟩
set_option maxRecDepth 100000 in
def fX11_seeded : Fr := (RX11, cX11_seeded, 7, (some .int), "seeded", [])
set_option maxRecDepth 100000 in
theorem mbX11_seeded : MBV yX11_seeded fX11_seeded 2 := ⟨⟨tb_in 1197 rfl rfl, tb_in 104 rfl rfl, ⟨by decide +kernel, by decide +kernel⟩, by decide +kernel, by decide⟩, tb_in 1195 rfl rfl, tb_in 1196 rfl rfl⟩
set_option maxRecDepth 100000 in
def fX8_pays : Fr := (RX8, cX8_pays, 3, (some .boolean), "pays", [])
set_option maxRecDepth 100000 in
theorem mbX8_pays : MBV yX8_pays fX8_pays 2 := ⟨⟨tb_in 1216 rfl rfl, tb_in 106 rfl rfl, ⟨by decide +kernel, by decide +kernel⟩, by decide +kernel, by decide⟩, tb_in 1214 rfl rfl, tb_in 1215 rfl rfl⟩
set_option maxRecDepth 100000 in
def fX8_payingOdds : Fr := (RX8, cX8_payingOdds, 4, (some .int), "payingOdds", [])
set_option maxRecDepth 100000 in
theorem mbX8_payingOdds : MBV yX8_payingOdds fX8_payingOdds 1 := ⟨⟨tb_in 1212 rfl rfl, tb_in 106 rfl rfl, ⟨by decide +kernel, by decide +kernel⟩, by decide +kernel, by decide⟩, tb_in 1210 rfl rfl, tb_in 1211 rfl rfl⟩
set_option maxRecDepth 100000 in
def fX8_thousandths : Fr := (RX8, cX8_thousandths, 2, (some .int), "thousandths", [])
set_option maxRecDepth 100000 in
theorem mbX8_thousandths : MBV yX8_thousandths fX8_thousandths 1 := ⟨⟨tb_in 1220 rfl rfl, tb_in 106 rfl rfl, ⟨by decide +kernel, by decide +kernel⟩, by decide +kernel, by decide⟩, tb_in 1218 rfl rfl, tb_in 1219 rfl rfl⟩
set_option maxRecDepth 100000 in
def fX8_takenAt : Fr := (RX8, cX8_takenAt, 2, (some .int), "takenAt", [])
set_option maxRecDepth 100000 in
theorem mbX8_takenAt : MBV yX8_takenAt fX8_takenAt 1 := ⟨⟨tb_in 1208 rfl rfl, tb_in 106 rfl rfl, ⟨by decide +kernel, by decide +kernel⟩, by decide +kernel, by decide⟩, tb_in 1206 rfl rfl, tb_in 1207 rfl rfl⟩
set_option maxRecDepth 100000 in
def fX11_soonerOdds : Fr := (RX11, cX11_soonerOdds, 7, (some .int), "soonerOdds", [])
set_option maxRecDepth 100000 in
theorem mbX11_soonerOdds : MBV yX11_soonerOdds fX11_soonerOdds 2 := ⟨⟨tb_in 1224 rfl rfl, tb_in 104 rfl rfl, ⟨by decide +kernel, by decide +kernel⟩, by decide +kernel, by decide⟩, tb_in 1223 rfl rfl, tb_in 40 rfl rfl⟩
set_option maxRecDepth 100000 in
def fX11_price : Fr := (RX11, cX11_price, 6, (some .int), "price", [])
set_option maxRecDepth 100000 in
theorem mbX11_price : MBV yX11_price fX11_price 3 := ⟨⟨tb_in 1204 rfl rfl, tb_in 104 rfl rfl, ⟨by decide +kernel, by decide +kernel⟩, by decide +kernel, by decide⟩, tb_in 1202 rfl rfl, tb_in 1203 rfl rfl⟩
set_option maxRecDepth 100000 in
def fX11_priced : Fr := (RX11, cX11_priced, 5, (some .int), "priced", [])
set_option maxRecDepth 100000 in
theorem mbX11_priced : MBV yX11_priced fX11_priced 1 := ⟨⟨tb_in 1234 rfl rfl, tb_in 104 rfl rfl, ⟨by decide +kernel, by decide +kernel⟩, by decide +kernel, by decide⟩, tb_in 1232 rfl rfl, tb_in 1233 rfl rfl⟩
set_option maxRecDepth 100000 in
def fX8_partsAt : Fr := (RX8, cX8_partsAt, 2, (some .long), "partsAt", [])
set_option maxRecDepth 100000 in
theorem mbX8_partsAt : MBV yX8_partsAt fX8_partsAt 1 := ⟨⟨tb_in 1245 rfl rfl, tb_in 106 rfl rfl, ⟨by decide +kernel, by decide +kernel⟩, by decide +kernel, by decide⟩, tb_in 1243 rfl rfl, tb_in 1244 rfl rfl⟩
set_option maxRecDepth 100000 in
def fX11_mixed : Fr := (RX11, cX11_mixed, 7, (some .int), "mixed", [])
set_option maxRecDepth 100000 in
theorem mbX11_mixed : MBV yX11_mixed fX11_mixed 4 := ⟨⟨tb_in 1241 rfl rfl, tb_in 104 rfl rfl, ⟨by decide +kernel, by decide +kernel⟩, by decide +kernel, by decide⟩, tb_in 1239 rfl rfl, tb_in 1240 rfl rfl⟩
set_option maxRecDepth 100000 in
def fX3_begin : Fr := (RX3, cX3_begin, 4, Option.none, "begin", [])
set_option maxRecDepth 100000 in
theorem mbX3_begin : MBV yX3_begin fX3_begin 3 := ⟨⟨tb_in 1258 rfl rfl, tb_in 113 rfl rfl, ⟨by decide +kernel, by decide +kernel⟩, by decide +kernel, by decide⟩, tb_in 1256 rfl rfl, tb_in 1257 rfl rfl⟩
set_option maxRecDepth 100000 in
def fX3_goesOn : Fr := (RX3, cX3_goesOn, 6, (some .int), "goesOn", [])
set_option maxRecDepth 100000 in
theorem mbX3_goesOn : MBV yX3_goesOn fX3_goesOn 4 := ⟨⟨tb_in 1279 rfl rfl, tb_in 113 rfl rfl, ⟨by decide +kernel, by decide +kernel⟩, by decide +kernel, by decide⟩, tb_in 1278 rfl rfl, tb_in 42 rfl rfl⟩
set_option maxRecDepth 100000 in
def fX3_share : Fr := (RX3, cX3_share, 11, Option.none, "share", [])
set_option maxRecDepth 100000 in
theorem mbX3_share : MBV yX3_share fX3_share 1 := ⟨⟨tb_in 1271 rfl rfl, tb_in 113 rfl rfl, ⟨by decide +kernel, by decide +kernel⟩, by decide +kernel, by decide⟩, tb_in 1270 rfl rfl, tb_in 41 rfl rfl⟩
set_option maxRecDepth 100000 in
def fX3_go : Fr := (RX3, cX3_go, 4, Option.none, "go", [])
set_option maxRecDepth 100000 in
theorem mbX3_go : MBV yX3_go fX3_go 1 := ⟨⟨tb_in 1266 rfl rfl, tb_in 113 rfl rfl, ⟨by decide +kernel, by decide +kernel⟩, by decide +kernel, by decide⟩, tb_in 1264 rfl rfl, tb_in 1265 rfl rfl⟩
set_option maxRecDepth 100000 in
def fX11_near : Fr := (RX11, cX11_near, 5, (some .int), "near", [])
set_option maxRecDepth 100000 in
theorem mbX11_near : MBV yX11_near fX11_near 2 := ⟨⟨tb_in 1254 rfl rfl, tb_in 104 rfl rfl, ⟨by decide +kernel, by decide +kernel⟩, by decide +kernel, by decide⟩, tb_in 1252 rfl rfl, tb_in 1253 rfl rfl⟩
set_option maxRecDepth 100000 in
def fX0_write : Fr := (RX0, cX0_write, 2, Option.none, "write", [])
set_option maxRecDepth 100000 in
theorem mbX0_write : MBV yX0_write fX0_write 1 := ⟨⟨tb_in 1294 rfl rfl, tb_in 109 rfl rfl, ⟨by decide +kernel, by decide +kernel⟩, by decide +kernel, by decide⟩, tb_in 1292 rfl rfl, tb_in 1293 rfl rfl⟩
set_option maxRecDepth 100000 in
def fX4_goOnWith : Fr := (RX4, cX4_goOnWith, 2, Option.none, "goOnWith", [])
set_option maxRecDepth 100000 in
theorem mbX4_goOnWith : MBV yX4_goOnWith fX4_goOnWith 1 := ⟨⟨tb_in 1290 rfl rfl, tb_in 108 rfl rfl, ⟨by decide +kernel, by decide +kernel⟩, by decide +kernel, by decide⟩, tb_in 1288 rfl rfl, tb_in 1289 rfl rfl⟩
set_option maxRecDepth 100000 in
def fX11_give : Fr := (RX11, cX11_give, 4, (some .int), "give", [])
set_option maxRecDepth 100000 in
theorem mbX11_give : MBV yX11_give fX11_give 2 := ⟨⟨tb_in 1286 rfl rfl, tb_in 104 rfl rfl, ⟨by decide +kernel, by decide +kernel⟩, by decide +kernel, by decide⟩, tb_in 1284 rfl rfl, tb_in 1285 rfl rfl⟩
set_option maxRecDepth 100000 in
def fX2_whoGives : Fr := (RX2, cX2_whoGives, 5, (some .int), "whoGives", [])
set_option maxRecDepth 100000 in
theorem mbX2_whoGives : MBV yX2_whoGives fX2_whoGives 2 := ⟨⟨tb_in 1317 rfl rfl, tb_in 115 rfl rfl, ⟨by decide +kernel, by decide +kernel⟩, by decide +kernel, by decide⟩, tb_in 1316 rfl rfl, tb_in 44 rfl rfl⟩
set_option maxRecDepth 100000 in
def fX2_read : Fr := (RX2, cX2_read, 5, Option.none, "read", [])
set_option maxRecDepth 100000 in
theorem mbX2_read : MBV yX2_read fX2_read 1 := ⟨⟨tb_in 1311 rfl rfl, tb_in 115 rfl rfl, ⟨by decide +kernel, by decide +kernel⟩, by decide +kernel, by decide⟩, tb_in 1309 rfl rfl, tb_in 1310 rfl rfl⟩
set_option maxRecDepth 100000 in
def fX11_readClues : Fr := (RX11, cX11_readClues, 2, Option.none, "readClues", [])
set_option maxRecDepth 100000 in
theorem mbX11_readClues : MBV yX11_readClues fX11_readClues 1 := ⟨⟨tb_in 1307 rfl rfl, tb_in 104 rfl rfl, ⟨by decide +kernel, by decide +kernel⟩, by decide +kernel, by decide⟩, tb_in 1306 rfl rfl, tb_in 43 rfl rfl⟩
set_option maxRecDepth 100000 in
def fX11_given : Fr := (RX11, cX11_given, 5, (some .int), "given", [])
set_option maxRecDepth 100000 in
theorem mbX11_given : MBV yX11_given fX11_given 3 := ⟨⟨tb_in 1303 rfl rfl, tb_in 104 rfl rfl, ⟨by decide +kernel, by decide +kernel⟩, by decide +kernel, by decide⟩, tb_in 1301 rfl rfl, tb_in 1302 rfl rfl⟩
set_option maxRecDepth 100000 in
def fX2_howManyWith : Fr := (RX2, cX2_howManyWith, 4, (some .int), "howManyWith", [])
set_option maxRecDepth 100000 in
theorem mbX2_howManyWith : MBV yX2_howManyWith fX2_howManyWith 1 := ⟨⟨tb_in 1330 rfl rfl, tb_in 115 rfl rfl, ⟨by decide +kernel, by decide +kernel⟩, by decide +kernel, by decide⟩, tb_in 1328 rfl rfl, tb_in 1329 rfl rfl⟩
set_option maxRecDepth 100000 in
def fX2_howManyBy : Fr := (RX2, cX2_howManyBy, 4, (some .int), "howManyBy", [])
set_option maxRecDepth 100000 in
theorem mbX2_howManyBy : MBV yX2_howManyBy fX2_howManyBy 1 := ⟨⟨tb_in 1334 rfl rfl, tb_in 115 rfl rfl, ⟨by decide +kernel, by decide +kernel⟩, by decide +kernel, by decide⟩, tb_in 1332 rfl rfl, tb_in 1333 rfl rfl⟩
set_option maxRecDepth 100000 in
def fX11_who : Fr := (RX11, cX11_who, 5, (some .int), "who", [])
set_option maxRecDepth 100000 in
theorem mbX11_who : MBV yX11_who fX11_who 3 := ⟨⟨tb_in 1326 rfl rfl, tb_in 104 rfl rfl, ⟨by decide +kernel, by decide +kernel⟩, by decide +kernel, by decide⟩, tb_in 1324 rfl rfl, tb_in 1325 rfl rfl⟩
set_option maxRecDepth 100000 in
def fX11_strange : Fr := (RX11, cX11_strange, 2, (some .int), "strange", [])
set_option maxRecDepth 100000 in
theorem mbX11_strange : MBV yX11_strange fX11_strange 1 := ⟨⟨tb_in 1341 rfl rfl, tb_in 104 rfl rfl, ⟨by decide +kernel, by decide +kernel⟩, by decide +kernel, by decide⟩, tb_in 1339 rfl rfl, tb_in 1340 rfl rfl⟩
set_option maxRecDepth 100000 in
def fJ6_bitCount_0f7a4 : Fr := (RJ6, cJ6_bitCount_0f7a4, 1, (some .int), "bitCount", [])
set_option maxRecDepth 100000 in
theorem mbJ6_bitCount_0f7a4 : MBS yJ6_bitCount_0f7a4 fJ6_bitCount_0f7a4 1 := ⟨⟨tb_in 1355 rfl rfl, tb_in 128 rfl rfl, ⟨by decide +kernel, by decide +kernel⟩, by decide +kernel, by decide⟩, tb_in 1354 rfl rfl⟩
set_option maxRecDepth 100000 in
def fX2_explainAll : Fr := (RX2, cX2_explainAll, 4, (some .boolean), "explainAll", [])
set_option maxRecDepth 100000 in
theorem mbX2_explainAll : MBV yX2_explainAll fX2_explainAll 1 := ⟨⟨tb_in 1362 rfl rfl, tb_in 115 rfl rfl, ⟨by decide +kernel, by decide +kernel⟩, by decide +kernel, by decide⟩, tb_in 1361 rfl rfl, tb_in 45 rfl rfl⟩
set_option maxRecDepth 100000 in
def fX2_fewestSorts : Fr := (RX2, cX2_fewestSorts, 3, (some .int), "fewestSorts", [])
set_option maxRecDepth 100000 in
theorem mbX2_fewestSorts : MBV yX2_fewestSorts fX2_fewestSorts 0 := ⟨⟨tb_in 1352 rfl rfl, tb_in 115 rfl rfl, ⟨by decide +kernel, by decide +kernel⟩, by decide +kernel, by decide⟩, tb_in 1350 rfl rfl, tb_in 1351 rfl rfl⟩
set_option maxRecDepth 100000 in
def fX11_fewest : Fr := (RX11, cX11_fewest, 2, (some .int), "fewest", [])
set_option maxRecDepth 100000 in
theorem mbX11_fewest : MBV yX11_fewest fX11_fewest 1 := ⟨⟨tb_in 1348 rfl rfl, tb_in 104 rfl rfl, ⟨by decide +kernel, by decide +kernel⟩, by decide +kernel, by decide⟩, tb_in 1346 rfl rfl, tb_in 1347 rfl rfl⟩
set_option maxRecDepth 100000 in
def fX11_guess : Fr := (RX11, cX11_guess, 6, (some .boolean), "guess", [])
set_option maxRecDepth 100000 in
theorem mbX11_guess : MBV yX11_guess fX11_guess 4 := ⟨⟨tb_in 1369 rfl rfl, tb_in 104 rfl rfl, ⟨by decide +kernel, by decide +kernel⟩, by decide +kernel, by decide⟩, tb_in 1367 rfl rfl, tb_in 1368 rfl rfl⟩
set_option maxRecDepth 100000 in
def fX0_guessedOdds : Fr := (RX0, cX0_guessedOdds, 5, (some .int), "guessedOdds", [])
set_option maxRecDepth 100000 in
theorem mbX0_guessedOdds : MBV yX0_guessedOdds fX0_guessedOdds 2 := ⟨⟨tb_in 1380 rfl rfl, tb_in 109 rfl rfl, ⟨by decide +kernel, by decide +kernel⟩, by decide +kernel, by decide⟩, tb_in 1378 rfl rfl, tb_in 1379 rfl rfl⟩
set_option maxRecDepth 100000 in
def fX2_weight : Fr := (RX2, cX2_weight, 6, (some .int), "weight", [])
set_option maxRecDepth 100000 in
theorem mbX2_weight : MBV yX2_weight fX2_weight 3 := ⟨⟨tb_in 1395 rfl rfl, tb_in 115 rfl rfl, ⟨by decide +kernel, by decide +kernel⟩, by decide +kernel, by decide⟩, tb_in 1394 rfl rfl, tb_in 47 rfl rfl⟩
set_option maxRecDepth 100000 in
def fX2_weigh : Fr := (RX2, cX2_weigh, 7, Option.none, "weigh", [])
set_option maxRecDepth 100000 in
theorem mbX2_weigh : MBV yX2_weigh fX2_weigh 2 := ⟨⟨tb_in 1391 rfl rfl, tb_in 115 rfl rfl, ⟨by decide +kernel, by decide +kernel⟩, by decide +kernel, by decide⟩, tb_in 1390 rfl rfl, tb_in 46 rfl rfl⟩
set_option maxRecDepth 100000 in
def fX2_creditOf : Fr := (RX2, cX2_creditOf, 6, (some .int), "creditOf", [])
set_option maxRecDepth 100000 in
theorem mbX2_creditOf : MBV yX2_creditOf fX2_creditOf 2 := ⟨⟨tb_in 1385 rfl rfl, tb_in 115 rfl rfl, ⟨by decide +kernel, by decide +kernel⟩, by decide +kernel, by decide⟩, tb_in 1383 rfl rfl, tb_in 1384 rfl rfl⟩
set_option maxRecDepth 100000 in
def fX11_credit : Fr := (RX11, cX11_credit, 4, (some .int), "credit", [])
set_option maxRecDepth 100000 in
theorem mbX11_credit : MBV yX11_credit fX11_credit 2 := ⟨⟨tb_in 1376 rfl rfl, tb_in 104 rfl rfl, ⟨by decide +kernel, by decide +kernel⟩, by decide +kernel, by decide⟩, tb_in 1374 rfl rfl, tb_in 1375 rfl rfl⟩
set_option maxRecDepth 100000 in
def fX4_draw : Fr := (RX4, cX4_draw, 2, (some .int), "draw", [])
set_option maxRecDepth 100000 in
theorem mbX4_draw : MBV yX4_draw fX4_draw 1 := ⟨⟨tb_in 1416 rfl rfl, tb_in 108 rfl rfl, ⟨by decide +kernel, by decide +kernel⟩, by decide +kernel, by decide⟩, tb_in 1415 rfl rfl, tb_in 49 rfl rfl⟩
set_option maxRecDepth 100000 in
def fX4_drawSort : Fr := (RX4, cX4_drawSort, 4, (some .int), "drawSort", [])
set_option maxRecDepth 100000 in
theorem mbX4_drawSort : MBV yX4_drawSort fX4_drawSort 0 := ⟨⟨tb_in 1412 rfl rfl, tb_in 108 rfl rfl, ⟨by decide +kernel, by decide +kernel⟩, by decide +kernel, by decide⟩, tb_in 1411 rfl rfl, tb_in 48 rfl rfl⟩
set_option maxRecDepth 100000 in
def fX4_comesOne : Fr := (RX4, cX4_comesOne, 3, (some .int), "comesOne", [])
set_option maxRecDepth 100000 in
theorem mbX4_comesOne : MBV yX4_comesOne fX4_comesOne 1 := ⟨⟨tb_in 1408 rfl rfl, tb_in 108 rfl rfl, ⟨by decide +kernel, by decide +kernel⟩, by decide +kernel, by decide⟩, tb_in 1406 rfl rfl, tb_in 1407 rfl rfl⟩
set_option maxRecDepth 100000 in
def fX4_comesThief : Fr := (RX4, cX4_comesThief, 1, Option.none, "comesThief", [])
set_option maxRecDepth 100000 in
theorem mbX4_comesThief : MBV yX4_comesThief fX4_comesThief 0 := ⟨⟨tb_in 1424 rfl rfl, tb_in 108 rfl rfl, ⟨by decide +kernel, by decide +kernel⟩, by decide +kernel, by decide⟩, tb_in 1422 rfl rfl, tb_in 1423 rfl rfl⟩
set_option maxRecDepth 100000 in
def fX11_drawn : Fr := (RX11, cX11_drawn, 7, (some .int), "drawn", [])
set_option maxRecDepth 100000 in
theorem mbX11_drawn : MBV yX11_drawn fX11_drawn 3 := ⟨⟨tb_in 1403 rfl rfl, tb_in 104 rfl rfl, ⟨by decide +kernel, by decide +kernel⟩, by decide +kernel, by decide⟩, tb_in 1401 rfl rfl, tb_in 1402 rfl rfl⟩
set_option maxRecDepth 100000 in
def fX11_empty : Fr := (RX11, cX11_empty, 4, (some .int), "empty", [])
set_option maxRecDepth 100000 in
theorem mbX11_empty : MBV yX11_empty fX11_empty 1 := ⟨⟨tb_in 1431 rfl rfl, tb_in 104 rfl rfl, ⟨by decide +kernel, by decide +kernel⟩, by decide +kernel, by decide⟩, tb_in 1429 rfl rfl, tb_in 1430 rfl rfl⟩
set_option maxRecDepth 100000 in
def fX11_copy : Fr := (RX11, cX11_copy, 3, Option.none, "copy", [])
set_option maxRecDepth 100000 in
theorem mbX11_copy : MBS yX11_copy fX11_copy 2 := ⟨⟨tb_in 581 rfl rfl, tb_in 104 rfl rfl, ⟨by decide +kernel, by decide +kernel⟩, by decide +kernel, by decide⟩, tb_in 580 rfl rfl⟩
set_option maxRecDepth 100000 in
def fX0_becomeLike : Fr := (RX0, cX0_becomeLike, 2, Option.none, "becomeLike", [])
set_option maxRecDepth 100000 in
theorem mbX0_becomeLike : MBV yX0_becomeLike fX0_becomeLike 1 := ⟨⟨tb_in 578 rfl rfl, tb_in 109 rfl rfl, ⟨by decide +kernel, by decide +kernel⟩, by decide +kernel, by decide⟩, tb_in 576 rfl rfl, tb_in 577 rfl rfl⟩
set_option maxRecDepth 100000 in
def fX11_image : Fr := (RX11, cX11_image, 1, Option.none, "image", [])
set_option maxRecDepth 100000 in
theorem mbX11_image : MBV yX11_image fX11_image 0 := ⟨⟨tb_in 574 rfl rfl, tb_in 104 rfl rfl, ⟨by decide +kernel, by decide +kernel⟩, by decide +kernel, by decide⟩, tb_in 572 rfl rfl, tb_in 573 rfl rfl⟩
set_option maxRecDepth 100000 in
def fX11_restore : Fr := (RX11, cX11_restore, 1, (some .boolean), "restore", [])
set_option maxRecDepth 100000 in
theorem mbX11_restore : MBV yX11_restore fX11_restore 0 := ⟨⟨tb_in 586 rfl rfl, tb_in 104 rfl rfl, ⟨by decide +kernel, by decide +kernel⟩, by decide +kernel, by decide⟩, tb_in 584 rfl rfl, tb_in 585 rfl rfl⟩
set_option maxRecDepth 100000 in
def fX12_atFirst : Fr := (RX12, cX12_atFirst, 3, Option.none, "atFirst", [])
set_option maxRecDepth 100000 in
theorem mbX12_atFirst : MBV yX12_atFirst fX12_atFirst 1 := ⟨⟨tb_in 1455 rfl rfl, tb_in 116 rfl rfl, ⟨by decide +kernel, by decide +kernel⟩, by decide +kernel, by decide⟩, tb_in 1454 rfl rfl, tb_in 50 rfl rfl⟩
set_option maxRecDepth 100000 in
def fX12_init : Fr := (RX12, cX12_init, 2, Option.none, "<init>", [])
set_option maxRecDepth 100000 in
theorem mbX12_init : MBI yX12_init fX12_init 0 := ⟨⟨tb_in 1436 rfl rfl, tb_in 116 rfl rfl, ⟨by decide +kernel, by decide +kernel⟩, by decide +kernel, by decide⟩, rfl, tb_in 1435 rfl rfl⟩
set_option maxRecDepth 100000 in
def fX12_thrown : Fr := (RX12, cX12_thrown, 1, (some .int), "thrown", [])
set_option maxRecDepth 100000 in
theorem mbX12_thrown : MBV yX12_thrown fX12_thrown 0 := ⟨⟨tb_in 1635 rfl rfl, tb_in 116 rfl rfl, ⟨by decide +kernel, by decide +kernel⟩, by decide +kernel, by decide⟩, tb_in 1633 rfl rfl, tb_in 1634 rfl rfl⟩
set_option maxRecDepth 100000 in
def fX12_fail : Fr := (RX12, cX12_fail, 2, (some .int), "fail", [])
set_option maxRecDepth 100000 in
theorem mbX12_fail : MBV yX12_fail fX12_fail 1 := ⟨⟨tb_in 1653 rfl rfl, tb_in 116 rfl rfl, ⟨by decide +kernel, by decide +kernel⟩, by decide +kernel, by decide⟩, tb_in 1652 rfl rfl, tb_in 51 rfl rfl⟩
set_option maxRecDepth 100000 in
def fX12_isIn : Fr := (RX12, cX12_isIn, 3, (some .boolean), "isIn", [])
set_option maxRecDepth 100000 in
theorem mbX12_isIn : MBS yX12_isIn fX12_isIn 3 := ⟨⟨tb_in 1649 rfl rfl, tb_in 116 rfl rfl, ⟨by decide +kernel, by decide +kernel⟩, by decide +kernel, by decide⟩, tb_in 1648 rfl rfl⟩
set_option maxRecDepth 100000 in
def fX12_isGate : Fr := (RX12, cX12_isGate, 1, (some .boolean), "isGate", [])
set_option maxRecDepth 100000 in
theorem mbX12_isGate : MBS yX12_isGate fX12_isGate 1 := ⟨⟨tb_in 1646 rfl rfl, tb_in 116 rfl rfl, ⟨by decide +kernel, by decide +kernel⟩, by decide +kernel, by decide⟩, tb_in 1645 rfl rfl⟩
set_option maxRecDepth 100000 in
def fX12_isSort : Fr := (RX12, cX12_isSort, 3, (some .boolean), "isSort", [])
set_option maxRecDepth 100000 in
theorem mbX12_isSort : MBV yX12_isSort fX12_isSort 2 := ⟨⟨tb_in 1771 rfl rfl, tb_in 116 rfl rfl, ⟨by decide +kernel, by decide +kernel⟩, by decide +kernel, by decide⟩, tb_in 1770 rfl rfl, tb_in 72 rfl rfl⟩
set_option maxRecDepth 100000 in
def fX12_statesOf : Fr := (RX12, cX12_statesOf, 2, (some .int), "statesOf", [])
set_option maxRecDepth 100000 in
theorem mbX12_statesOf : MBV yX12_statesOf fX12_statesOf 1 := ⟨⟨tb_in 1783 rfl rfl, tb_in 116 rfl rfl, ⟨by decide +kernel, by decide +kernel⟩, by decide +kernel, by decide⟩, tb_in 1782 rfl rfl, tb_in 74 rfl rfl⟩
set_option maxRecDepth 100000 in
def fX12_isState : Fr := (RX12, cX12_isState, 3, (some .boolean), "isState", [])
set_option maxRecDepth 100000 in
theorem mbX12_isState : MBV yX12_isState fX12_isState 2 := ⟨⟨tb_in 1779 rfl rfl, tb_in 116 rfl rfl, ⟨by decide +kernel, by decide +kernel⟩, by decide +kernel, by decide⟩, tb_in 1778 rfl rfl, tb_in 73 rfl rfl⟩
set_option maxRecDepth 100000 in
def fX12_feed : Fr := (RX12, cX12_feed, 8, (some .int), "feed", [])
set_option maxRecDepth 100000 in
theorem mbX12_feed : MBV yX12_feed fX12_feed 5 := ⟨⟨tb_in 1639 rfl rfl, tb_in 116 rfl rfl, ⟨by decide +kernel, by decide +kernel⟩, by decide +kernel, by decide⟩, tb_in 1637 rfl rfl, tb_in 1638 rfl rfl⟩
set_option maxRecDepth 100000 in
def fX12_byteAt : Fr := (RX12, cX12_byteAt, 2, (some .int), "byteAt", [])
set_option maxRecDepth 100000 in
theorem mbX12_byteAt : MBV yX12_byteAt fX12_byteAt 1 := ⟨⟨tb_in 1661 rfl rfl, tb_in 116 rfl rfl, ⟨by decide +kernel, by decide +kernel⟩, by decide +kernel, by decide⟩, tb_in 1660 rfl rfl, tb_in 53 rfl rfl⟩
set_option maxRecDepth 100000 in
def fX12_isLetter : Fr := (RX12, cX12_isLetter, 1, (some .boolean), "isLetter", [])
set_option maxRecDepth 100000 in
theorem mbX12_isLetter : MBS yX12_isLetter fX12_isLetter 1 := ⟨⟨tb_in 1664 rfl rfl, tb_in 116 rfl rfl, ⟨by decide +kernel, by decide +kernel⟩, by decide +kernel, by decide⟩, tb_in 1663 rfl rfl⟩
set_option maxRecDepth 100000 in
def fX12_isDigit : Fr := (RX12, cX12_isDigit, 1, (some .boolean), "isDigit", [])
set_option maxRecDepth 100000 in
theorem mbX12_isDigit : MBS yX12_isDigit fX12_isDigit 1 := ⟨⟨tb_in 1667 rfl rfl, tb_in 116 rfl rfl, ⟨by decide +kernel, by decide +kernel⟩, by decide +kernel, by decide⟩, tb_in 1666 rfl rfl⟩
set_option maxRecDepth 100000 in
def fX12_isMark : Fr := (RX12, cX12_isMark, 1, (some .boolean), "isMark", [])
set_option maxRecDepth 100000 in
theorem mbX12_isMark : MBS yX12_isMark fX12_isMark 1 := ⟨⟨tb_in 1673 rfl rfl, tb_in 116 rfl rfl, ⟨by decide +kernel, by decide +kernel⟩, by decide +kernel, by decide⟩, tb_in 1672 rfl rfl⟩
set_option maxRecDepth 100000 in
def fX12_stepOn : Fr := (RX12, cX12_stepOn, 2, Option.none, "stepOn", [])
set_option maxRecDepth 100000 in
theorem mbX12_stepOn : MBV yX12_stepOn fX12_stepOn 0 := ⟨⟨tb_in 1657 rfl rfl, tb_in 116 rfl rfl, ⟨by decide +kernel, by decide +kernel⟩, by decide +kernel, by decide⟩, tb_in 1656 rfl rfl, tb_in 52 rfl rfl⟩
set_option maxRecDepth 100000 in
def fX12_wrong : Fr := (RX12, cX12_wrong, 2, Option.none, "wrong", [])
set_option maxRecDepth 100000 in
theorem mbX12_wrong : MBV yX12_wrong fX12_wrong 1 := ⟨⟨tb_in 1691 rfl rfl, tb_in 116 rfl rfl, ⟨by decide +kernel, by decide +kernel⟩, by decide +kernel, by decide⟩, tb_in 1690 rfl rfl, tb_in 57 rfl rfl⟩
set_option maxRecDepth 100000 in
def fX12_is : Fr := (RX12, cX12_is, 4, (some .boolean), "is", [])
set_option maxRecDepth 100000 in
theorem mbX12_is : MBV yX12_is fX12_is 1 := ⟨⟨tb_in 1685 rfl rfl, tb_in 116 rfl rfl, ⟨by decide +kernel, by decide +kernel⟩, by decide +kernel, by decide⟩, tb_in 1684 rfl rfl, tb_in 56 rfl rfl⟩
set_option maxRecDepth 100000 in
def fX12_isMarked : Fr := (RX12, cX12_isMarked, 2, (some .boolean), "isMarked", [])
set_option maxRecDepth 100000 in
theorem mbX12_isMarked : MBV yX12_isMarked fX12_isMarked 1 := ⟨⟨tb_in 1712 rfl rfl, tb_in 116 rfl rfl, ⟨by decide +kernel, by decide +kernel⟩, by decide +kernel, by decide⟩, tb_in 1711 rfl rfl, tb_in 62 rfl rfl⟩
set_option maxRecDepth 100000 in
def fX12_which : Fr := (RX12, cX12_which, 3, (some .int), "which", [])
set_option maxRecDepth 100000 in
theorem mbX12_which : MBV yX12_which fX12_which 1 := ⟨⟨tb_in 1681 rfl rfl, tb_in 116 rfl rfl, ⟨by decide +kernel, by decide +kernel⟩, by decide +kernel, by decide⟩, tb_in 1680 rfl rfl, tb_in 55 rfl rfl⟩
set_option maxRecDepth 100000 in
def fX12_word : Fr := (RX12, cX12_word, 2, Option.none, "word", [])
set_option maxRecDepth 100000 in
theorem mbX12_word : MBV yX12_word fX12_word 1 := ⟨⟨tb_in 1703 rfl rfl, tb_in 116 rfl rfl, ⟨by decide +kernel, by decide +kernel⟩, by decide +kernel, by decide⟩, tb_in 1702 rfl rfl, tb_in 60 rfl rfl⟩
set_option maxRecDepth 100000 in
def fX12_mark : Fr := (RX12, cX12_mark, 2, Option.none, "mark", [])
set_option maxRecDepth 100000 in
theorem mbX12_mark : MBV yX12_mark fX12_mark 1 := ⟨⟨tb_in 1741 rfl rfl, tb_in 116 rfl rfl, ⟨by decide +kernel, by decide +kernel⟩, by decide +kernel, by decide⟩, tb_in 1740 rfl rfl, tb_in 69 rfl rfl⟩
set_option maxRecDepth 100000 in
def fX12_readNumber : Fr := (RX12, cX12_readNumber, 4, (some .int), "readNumber", [])
set_option maxRecDepth 100000 in
theorem mbX12_readNumber : MBV yX12_readNumber fX12_readNumber 2 := ⟨⟨tb_in 1699 rfl rfl, tb_in 116 rfl rfl, ⟨by decide +kernel, by decide +kernel⟩, by decide +kernel, by decide⟩, tb_in 1698 rfl rfl, tb_in 59 rfl rfl⟩
set_option maxRecDepth 100000 in
def fX12_lay : Fr := (RX12, cX12_lay, 2, Option.none, "lay", [])
set_option maxRecDepth 100000 in
theorem mbX12_lay : MBV yX12_lay fX12_lay 1 := ⟨⟨tb_in 1737 rfl rfl, tb_in 116 rfl rfl, ⟨by decide +kernel, by decide +kernel⟩, by decide +kernel, by decide⟩, tb_in 1736 rfl rfl, tb_in 68 rfl rfl⟩
set_option maxRecDepth 100000 in
def fX12_readPart : Fr := (RX12, cX12_readPart, 3, Option.none, "readPart", [])
set_option maxRecDepth 100000 in
theorem mbX12_readPart : MBV yX12_readPart fX12_readPart 1 := ⟨⟨tb_in 1733 rfl rfl, tb_in 116 rfl rfl, ⟨by decide +kernel, by decide +kernel⟩, by decide +kernel, by decide⟩, tb_in 1732 rfl rfl, tb_in 67 rfl rfl⟩
set_option maxRecDepth 100000 in
def fX12_readProduct : Fr := (RX12, cX12_readProduct, 3, Option.none, "readProduct", [])
set_option maxRecDepth 100000 in
theorem mbX12_readProduct : MBV yX12_readProduct fX12_readProduct 1 := ⟨⟨tb_in 1729 rfl rfl, tb_in 116 rfl rfl, ⟨by decide +kernel, by decide +kernel⟩, by decide +kernel, by decide⟩, tb_in 1728 rfl rfl, tb_in 66 rfl rfl⟩
set_option maxRecDepth 100000 in
def fX12_readSum : Fr := (RX12, cX12_readSum, 3, Option.none, "readSum", [])
set_option maxRecDepth 100000 in
theorem mbX12_readSum : MBV yX12_readSum fX12_readSum 1 := ⟨⟨tb_in 1725 rfl rfl, tb_in 116 rfl rfl, ⟨by decide +kernel, by decide +kernel⟩, by decide +kernel, by decide⟩, tb_in 1724 rfl rfl, tb_in 65 rfl rfl⟩
set_option maxRecDepth 100000 in
def fX12_readNot : Fr := (RX12, cX12_readNot, 4, Option.none, "readNot", [])
set_option maxRecDepth 100000 in
theorem mbX12_readNot : MBV yX12_readNot fX12_readNot 1 := ⟨⟨tb_in 1720 rfl rfl, tb_in 116 rfl rfl, ⟨by decide +kernel, by decide +kernel⟩, by decide +kernel, by decide⟩, tb_in 1719 rfl rfl, tb_in 64 rfl rfl⟩
set_option maxRecDepth 100000 in
def fX12_readAnd : Fr := (RX12, cX12_readAnd, 2, Option.none, "readAnd", [])
set_option maxRecDepth 100000 in
theorem mbX12_readAnd : MBV yX12_readAnd fX12_readAnd 1 := ⟨⟨tb_in 1716 rfl rfl, tb_in 116 rfl rfl, ⟨by decide +kernel, by decide +kernel⟩, by decide +kernel, by decide⟩, tb_in 1715 rfl rfl, tb_in 63 rfl rfl⟩
set_option maxRecDepth 100000 in
def fX12_readExpression : Fr := (RX12, cX12_readExpression, 3, Option.none, "readExpression", [])
set_option maxRecDepth 100000 in
theorem mbX12_readExpression : MBV yX12_readExpression fX12_readExpression 1 := ⟨⟨tb_in 1708 rfl rfl, tb_in 116 rfl rfl, ⟨by decide +kernel, by decide +kernel⟩, by decide +kernel, by decide⟩, tb_in 1707 rfl rfl, tb_in 61 rfl rfl⟩
set_option maxRecDepth 100000 in
def fX12_readSort : Fr := (RX12, cX12_readSort, 2, Option.none, "readSort", [])
set_option maxRecDepth 100000 in
theorem mbX12_readSort : MBV yX12_readSort fX12_readSort 0 := ⟨⟨tb_in 1695 rfl rfl, tb_in 116 rfl rfl, ⟨by decide +kernel, by decide +kernel⟩, by decide +kernel, by decide⟩, tb_in 1694 rfl rfl, tb_in 58 rfl rfl⟩
set_option maxRecDepth 100000 in
def fX12_readClause : Fr := (RX12, cX12_readClause, 3, (some .int), "readClause", [])
set_option maxRecDepth 100000 in
theorem mbX12_readClause : MBV yX12_readClause fX12_readClause 1 := ⟨⟨tb_in 1677 rfl rfl, tb_in 116 rfl rfl, ⟨by decide +kernel, by decide +kernel⟩, by decide +kernel, by decide⟩, tb_in 1676 rfl rfl, tb_in 54 rfl rfl⟩
set_option maxRecDepth 100000 in
def fX12_take : Fr := (RX12, cX12_take, 3, Option.none, "take", [])
set_option maxRecDepth 100000 in
theorem mbX12_take : MBV yX12_take fX12_take 1 := ⟨⟨tb_in 1747 rfl rfl, tb_in 116 rfl rfl, ⟨by decide +kernel, by decide +kernel⟩, by decide +kernel, by decide⟩, tb_in 1746 rfl rfl, tb_in 70 rfl rfl⟩
set_option maxRecDepth 100000 in
def fX12_gate : Fr := (RX12, cX12_gate, 4, (some .int), "gate", [])
set_option maxRecDepth 100000 in
theorem mbX12_gate : MBV yX12_gate fX12_gate 2 := ⟨⟨tb_in 1643 rfl rfl, tb_in 116 rfl rfl, ⟨by decide +kernel, by decide +kernel⟩, by decide +kernel, by decide⟩, tb_in 1641 rfl rfl, tb_in 1642 rfl rfl⟩
set_option maxRecDepth 100000 in
def fX12_fault : Fr := (RX12, cX12_fault, 1, (some .int), "fault", [])
set_option maxRecDepth 100000 in
theorem mbX12_fault : MBV yX12_fault fX12_fault 0 := ⟨⟨tb_in 1751 rfl rfl, tb_in 116 rfl rfl, ⟨by decide +kernel, by decide +kernel⟩, by decide +kernel, by decide⟩, tb_in 1749 rfl rfl, tb_in 1750 rfl rfl⟩
set_option maxRecDepth 100000 in
def fX12_count : Fr := (RX12, cX12_count, 2, (some .int), "count", [])
set_option maxRecDepth 100000 in
theorem mbX12_count : MBV yX12_count fX12_count 1 := ⟨⟨tb_in 1755 rfl rfl, tb_in 116 rfl rfl, ⟨by decide +kernel, by decide +kernel⟩, by decide +kernel, by decide⟩, tb_in 1753 rfl rfl, tb_in 1754 rfl rfl⟩
set_option maxRecDepth 100000 in
def fX12_oddsOf : Fr := (RX12, cX12_oddsOf, 4, (some .int), "oddsOf", [])
set_option maxRecDepth 100000 in
theorem mbX12_oddsOf : MBV yX12_oddsOf fX12_oddsOf 1 := ⟨⟨tb_in 1763 rfl rfl, tb_in 116 rfl rfl, ⟨by decide +kernel, by decide +kernel⟩, by decide +kernel, by decide⟩, tb_in 1762 rfl rfl, tb_in 71 rfl rfl⟩
set_option maxRecDepth 100000 in
def fX12_about : Fr := (RX12, cX12_about, 3, (some .int), "about", [])
set_option maxRecDepth 100000 in
theorem mbX12_about : MBV yX12_about fX12_about 2 := ⟨⟨tb_in 1759 rfl rfl, tb_in 116 rfl rfl, ⟨by decide +kernel, by decide +kernel⟩, by decide +kernel, by decide⟩, tb_in 1757 rfl rfl, tb_in 1758 rfl rfl⟩
set_option maxRecDepth 100000 in
def fX12_sort : Fr := (RX12, cX12_sort, 4, (some .int), "sort", [])
set_option maxRecDepth 100000 in
theorem mbX12_sort : MBV yX12_sort fX12_sort 3 := ⟨⟨tb_in 1767 rfl rfl, tb_in 116 rfl rfl, ⟨by decide +kernel, by decide +kernel⟩, by decide +kernel, by decide⟩, tb_in 1765 rfl rfl, tb_in 1766 rfl rfl⟩
set_option maxRecDepth 100000 in
def fX12_valueOf : Fr := (RX12, cX12_valueOf, 7, (some .int), "valueOf", [])
set_option maxRecDepth 100000 in
theorem mbX12_valueOf : MBV yX12_valueOf fX12_valueOf 5 := ⟨⟨tb_in 1799 rfl rfl, tb_in 116 rfl rfl, ⟨by decide +kernel, by decide +kernel⟩, by decide +kernel, by decide⟩, tb_in 1798 rfl rfl, tb_in 78 rfl rfl⟩
set_option maxRecDepth 100000 in
def fX12_reckon : Fr := (RX12, cX12_reckon, 3, (some .int), "reckon", [])
set_option maxRecDepth 100000 in
theorem mbX12_reckon : MBS yX12_reckon fX12_reckon 3 := ⟨⟨tb_in 1805 rfl rfl, tb_in 116 rfl rfl, ⟨by decide +kernel, by decide +kernel⟩, by decide +kernel, by decide⟩, tb_in 1804 rfl rfl⟩
set_option maxRecDepth 100000 in
def fX12_evaluate : Fr := (RX12, cX12_evaluate, 8, (some .int), "evaluate", [])
set_option maxRecDepth 100000 in
theorem mbX12_evaluate : MBV yX12_evaluate fX12_evaluate 4 := ⟨⟨tb_in 1795 rfl rfl, tb_in 116 rfl rfl, ⟨by decide +kernel, by decide +kernel⟩, by decide +kernel, by decide⟩, tb_in 1794 rfl rfl, tb_in 77 rfl rfl⟩
set_option maxRecDepth 100000 in
def fX12_giftOf : Fr := (RX12, cX12_giftOf, 7, (some .int), "giftOf", [])
set_option maxRecDepth 100000 in
theorem mbX12_giftOf : MBV yX12_giftOf fX12_giftOf 4 := ⟨⟨tb_in 1791 rfl rfl, tb_in 116 rfl rfl, ⟨by decide +kernel, by decide +kernel⟩, by decide +kernel, by decide⟩, tb_in 1790 rfl rfl, tb_in 76 rfl rfl⟩
set_option maxRecDepth 100000 in
def fX12_gift : Fr := (RX12, cX12_gift, 4, (some .int), "gift", [])
set_option maxRecDepth 100000 in
theorem mbX12_gift : MBV yX12_gift fX12_gift 3 := ⟨⟨tb_in 1787 rfl rfl, tb_in 116 rfl rfl, ⟨by decide +kernel, by decide +kernel⟩, by decide +kernel, by decide⟩, tb_in 1786 rfl rfl, tb_in 75 rfl rfl⟩
set_option maxRecDepth 100000 in
def fX12_gives : Fr := (RX12, cX12_gives, 4, (some .int), "gives", [])
set_option maxRecDepth 100000 in
theorem mbX12_gives : MBV yX12_gives fX12_gives 3 := ⟨⟨tb_in 1775 rfl rfl, tb_in 116 rfl rfl, ⟨by decide +kernel, by decide +kernel⟩, by decide +kernel, by decide⟩, tb_in 1773 rfl rfl, tb_in 1774 rfl rfl⟩
set_option maxRecDepth 100000 in
def fX12_behind : Fr := (RX12, cX12_behind, 4, (some .int), "behind", [])
set_option maxRecDepth 100000 in
theorem mbX12_behind : MBV yX12_behind fX12_behind 3 := ⟨⟨tb_in 1813 rfl rfl, tb_in 116 rfl rfl, ⟨by decide +kernel, by decide +kernel⟩, by decide +kernel, by decide⟩, tb_in 1812 rfl rfl, tb_in 79 rfl rfl⟩
set_option maxRecDepth 100000 in
def fX12_goOn : Fr := (RX12, cX12_goOn, 4, (some .int), "goOn", [])
set_option maxRecDepth 100000 in
theorem mbX12_goOn : MBV yX12_goOn fX12_goOn 3 := ⟨⟨tb_in 1853 rfl rfl, tb_in 116 rfl rfl, ⟨by decide +kernel, by decide +kernel⟩, by decide +kernel, by decide⟩, tb_in 1852 rfl rfl, tb_in 85 rfl rfl⟩
set_option maxRecDepth 100000 in
def fX12_next : Fr := (RX12, cX12_next, 4, (some .int), "next", [])
set_option maxRecDepth 100000 in
theorem mbX12_next : MBV yX12_next fX12_next 3 := ⟨⟨tb_in 1809 rfl rfl, tb_in 116 rfl rfl, ⟨by decide +kernel, by decide +kernel⟩, by decide +kernel, by decide⟩, tb_in 1807 rfl rfl, tb_in 1808 rfl rfl⟩
set_option maxRecDepth 100000 in
def fX12_seed : Fr := (RX12, cX12_seed, 3, Option.none, "seed", [])
set_option maxRecDepth 100000 in
theorem mbX12_seed : MBV yX12_seed fX12_seed 2 := ⟨⟨tb_in 1817 rfl rfl, tb_in 116 rfl rfl, ⟨by decide +kernel, by decide +kernel⟩, by decide +kernel, by decide⟩, tb_in 1815 rfl rfl, tb_in 1816 rfl rfl⟩
set_option maxRecDepth 100000 in
def fX12_put : Fr := (RX12, cX12_put, 3, Option.none, "put", [])
set_option maxRecDepth 100000 in
theorem mbX12_put : MBV yX12_put fX12_put 2 := ⟨⟨tb_in 1828 rfl rfl, tb_in 116 rfl rfl, ⟨by decide +kernel, by decide +kernel⟩, by decide +kernel, by decide⟩, tb_in 1827 rfl rfl, tb_in 80 rfl rfl⟩
set_option maxRecDepth 100000 in
def fX12_isSetting : Fr := (RX12, cX12_isSetting, 1, (some .boolean), "isSetting", [])
set_option maxRecDepth 100000 in
theorem mbX12_isSetting : MBS yX12_isSetting fX12_isSetting 1 := ⟨⟨tb_in 1824 rfl rfl, tb_in 116 rfl rfl, ⟨by decide +kernel, by decide +kernel⟩, by decide +kernel, by decide⟩, tb_in 1823 rfl rfl⟩
set_option maxRecDepth 100000 in
def fX12_set : Fr := (RX12, cX12_set, 3, (some .boolean), "set", [])
set_option maxRecDepth 100000 in
theorem mbX12_set : MBV yX12_set fX12_set 2 := ⟨⟨tb_in 1821 rfl rfl, tb_in 116 rfl rfl, ⟨by decide +kernel, by decide +kernel⟩, by decide +kernel, by decide⟩, tb_in 1819 rfl rfl, tb_in 1820 rfl rfl⟩
set_option maxRecDepth 100000 in
def fX12_tellGifts : Fr := (RX12, cX12_tellGifts, 4, Option.none, "tellGifts", [])
set_option maxRecDepth 100000 in
theorem mbX12_tellGifts : MBV yX12_tellGifts fX12_tellGifts 1 := ⟨⟨tb_in 1840 rfl rfl, tb_in 116 rfl rfl, ⟨by decide +kernel, by decide +kernel⟩, by decide +kernel, by decide⟩, tb_in 1839 rfl rfl, tb_in 82 rfl rfl⟩
set_option maxRecDepth 100000 in
def fX12_startAt : Fr := (RX12, cX12_startAt, 3, Option.none, "startAt", [])
set_option maxRecDepth 100000 in
theorem mbX12_startAt : MBV yX12_startAt fX12_startAt 1 := ⟨⟨tb_in 1844 rfl rfl, tb_in 116 rfl rfl, ⟨by decide +kernel, by decide +kernel⟩, by decide +kernel, by decide⟩, tb_in 1843 rfl rfl, tb_in 83 rfl rfl⟩
set_option maxRecDepth 100000 in
def fX12_person : Fr := (RX12, cX12_person, 10, Option.none, "person", [])
set_option maxRecDepth 100000 in
theorem mbX12_person : MBV yX12_person fX12_person 1 := ⟨⟨tb_in 1849 rfl rfl, tb_in 116 rfl rfl, ⟨by decide +kernel, by decide +kernel⟩, by decide +kernel, by decide⟩, tb_in 1848 rfl rfl, tb_in 84 rfl rfl⟩
set_option maxRecDepth 100000 in
def fX12_lead : Fr := (RX12, cX12_lead, 5, Option.none, "lead", [])
set_option maxRecDepth 100000 in
theorem mbX12_lead : MBV yX12_lead fX12_lead 3 := ⟨⟨tb_in 1836 rfl rfl, tb_in 116 rfl rfl, ⟨by decide +kernel, by decide +kernel⟩, by decide +kernel, by decide⟩, tb_in 1835 rfl rfl, tb_in 81 rfl rfl⟩
set_option maxRecDepth 100000 in
def fX12_coinOf : Fr := (RX12, cX12_coinOf, 4, (some .int), "coinOf", [])
set_option maxRecDepth 100000 in
theorem mbX12_coinOf : MBV yX12_coinOf fX12_coinOf 3 := ⟨⟨tb_in 1882 rfl rfl, tb_in 116 rfl rfl, ⟨by decide +kernel, by decide +kernel⟩, by decide +kernel, by decide⟩, tb_in 1881 rfl rfl, tb_in 88 rfl rfl⟩
set_option maxRecDepth 100000 in
def fX12_coin : Fr := (RX12, cX12_coin, 4, (some .int), "coin", [])
set_option maxRecDepth 100000 in
theorem mbX12_coin : MBV yX12_coin fX12_coin 3 := ⟨⟨tb_in 1832 rfl rfl, tb_in 116 rfl rfl, ⟨by decide +kernel, by decide +kernel⟩, by decide +kernel, by decide⟩, tb_in 1830 rfl rfl, tb_in 1831 rfl rfl⟩
set_option maxRecDepth 100000 in
def fX12_cases : Fr := (RX12, cX12_cases, 4, (some .int), "cases", [])
set_option maxRecDepth 100000 in
theorem mbX12_cases : MBV yX12_cases fX12_cases 3 := ⟨⟨tb_in 1858 rfl rfl, tb_in 116 rfl rfl, ⟨by decide +kernel, by decide +kernel⟩, by decide +kernel, by decide⟩, tb_in 1856 rfl rfl, tb_in 1857 rfl rfl⟩
set_option maxRecDepth 100000 in
def fX12_drift : Fr := (RX12, cX12_drift, 3, (some .int), "drift", [])
set_option maxRecDepth 100000 in
theorem mbX12_drift : MBV yX12_drift fX12_drift 2 := ⟨⟨tb_in 1862 rfl rfl, tb_in 116 rfl rfl, ⟨by decide +kernel, by decide +kernel⟩, by decide +kernel, by decide⟩, tb_in 1860 rfl rfl, tb_in 1861 rfl rfl⟩
set_option maxRecDepth 100000 in
def fX12_turn : Fr := (RX12, cX12_turn, 4, (some .int), "turn", [])
set_option maxRecDepth 100000 in
theorem mbX12_turn : MBV yX12_turn fX12_turn 2 := ⟨⟨tb_in 1866 rfl rfl, tb_in 116 rfl rfl, ⟨by decide +kernel, by decide +kernel⟩, by decide +kernel, by decide⟩, tb_in 1864 rfl rfl, tb_in 1865 rfl rfl⟩
set_option maxRecDepth 100000 in
def fX12_tellComes : Fr := (RX12, cX12_tellComes, 6, Option.none, "tellComes", [])
set_option maxRecDepth 100000 in
theorem mbX12_tellComes : MBV yX12_tellComes fX12_tellComes 1 := ⟨⟨tb_in 1874 rfl rfl, tb_in 116 rfl rfl, ⟨by decide +kernel, by decide +kernel⟩, by decide +kernel, by decide⟩, tb_in 1873 rfl rfl, tb_in 86 rfl rfl⟩
set_option maxRecDepth 100000 in
def fX12_isRest : Fr := (RX12, cX12_isRest, 4, (some .boolean), "isRest", [])
set_option maxRecDepth 100000 in
theorem mbX12_isRest : MBV yX12_isRest fX12_isRest 2 := ⟨⟨tb_in 1878 rfl rfl, tb_in 116 rfl rfl, ⟨by decide +kernel, by decide +kernel⟩, by decide +kernel, by decide⟩, tb_in 1877 rfl rfl, tb_in 87 rfl rfl⟩
set_option maxRecDepth 100000 in
def fX12_rest : Fr := (RX12, cX12_rest, 8, (some .int), "rest", [])
set_option maxRecDepth 100000 in
theorem mbX12_rest : MBV yX12_rest fX12_rest 3 := ⟨⟨tb_in 1870 rfl rfl, tb_in 116 rfl rfl, ⟨by decide +kernel, by decide +kernel⟩, by decide +kernel, by decide⟩, tb_in 1868 rfl rfl, tb_in 1869 rfl rfl⟩
set_option maxRecDepth 100000 in
def fX12_keepRule : Fr := (RX12, cX12_keepRule, 3, Option.none, "keepRule", [])
set_option maxRecDepth 100000 in
theorem mbX12_keepRule : MBV yX12_keepRule fX12_keepRule 1 := ⟨⟨tb_in 1890 rfl rfl, tb_in 116 rfl rfl, ⟨by decide +kernel, by decide +kernel⟩, by decide +kernel, by decide⟩, tb_in 1889 rfl rfl, tb_in 89 rfl rfl⟩
set_option maxRecDepth 100000 in
def fX12_backRule : Fr := (RX12, cX12_backRule, 3, Option.none, "backRule", [])
set_option maxRecDepth 100000 in
theorem mbX12_backRule : MBV yX12_backRule fX12_backRule 1 := ⟨⟨tb_in 1894 rfl rfl, tb_in 116 rfl rfl, ⟨by decide +kernel, by decide +kernel⟩, by decide +kernel, by decide⟩, tb_in 1893 rfl rfl, tb_in 90 rfl rfl⟩
set_option maxRecDepth 100000 in
def fX12_best : Fr := (RX12, cX12_best, 9, (some .int), "best", [])
set_option maxRecDepth 100000 in
theorem mbX12_best : MBV yX12_best fX12_best 4 := ⟨⟨tb_in 1886 rfl rfl, tb_in 116 rfl rfl, ⟨by decide +kernel, by decide +kernel⟩, by decide +kernel, by decide⟩, tb_in 1884 rfl rfl, tb_in 1885 rfl rfl⟩
set_option maxRecDepth 100000 in
def fX12_would : Fr := (RX12, cX12_would, 5, (some .int), "would", [])
set_option maxRecDepth 100000 in
theorem mbX12_would : MBV yX12_would fX12_would 3 := ⟨⟨tb_in 1898 rfl rfl, tb_in 116 rfl rfl, ⟨by decide +kernel, by decide +kernel⟩, by decide +kernel, by decide⟩, tb_in 1896 rfl rfl, tb_in 1897 rfl rfl⟩
set_option maxRecDepth 100000 in
def fX12_card : Fr := (RX12, cX12_card, 7, (some .int), "card", [])
set_option maxRecDepth 100000 in
theorem mbX12_card : MBV yX12_card fX12_card 2 := ⟨⟨tb_in 1902 rfl rfl, tb_in 116 rfl rfl, ⟨by decide +kernel, by decide +kernel⟩, by decide +kernel, by decide⟩, tb_in 1900 rfl rfl, tb_in 1901 rfl rfl⟩
set_option maxRecDepth 100000 in
def fX12_seeded : Fr := (RX12, cX12_seeded, 7, (some .int), "seeded", [])
set_option maxRecDepth 100000 in
theorem mbX12_seeded : MBV yX12_seeded fX12_seeded 2 := ⟨⟨tb_in 1906 rfl rfl, tb_in 116 rfl rfl, ⟨by decide +kernel, by decide +kernel⟩, by decide +kernel, by decide⟩, tb_in 1904 rfl rfl, tb_in 1905 rfl rfl⟩
set_option maxRecDepth 100000 in
def fX12_pays : Fr := (RX12, cX12_pays, 4, (some .boolean), "pays", [])
set_option maxRecDepth 100000 in
theorem mbX12_pays : MBV yX12_pays fX12_pays 3 := ⟨⟨tb_in 1922 rfl rfl, tb_in 116 rfl rfl, ⟨by decide +kernel, by decide +kernel⟩, by decide +kernel, by decide⟩, tb_in 1921 rfl rfl, tb_in 93 rfl rfl⟩
set_option maxRecDepth 100000 in
def fX12_oddsThatPay : Fr := (RX12, cX12_oddsThatPay, 5, (some .int), "oddsThatPay", [])
set_option maxRecDepth 100000 in
theorem mbX12_oddsThatPay : MBV yX12_oddsThatPay fX12_oddsThatPay 2 := ⟨⟨tb_in 1918 rfl rfl, tb_in 116 rfl rfl, ⟨by decide +kernel, by decide +kernel⟩, by decide +kernel, by decide⟩, tb_in 1917 rfl rfl, tb_in 92 rfl rfl⟩
set_option maxRecDepth 100000 in
def fX12_takenBy : Fr := (RX12, cX12_takenBy, 3, (some .int), "takenBy", [])
set_option maxRecDepth 100000 in
theorem mbX12_takenBy : MBV yX12_takenBy fX12_takenBy 2 := ⟨⟨tb_in 1914 rfl rfl, tb_in 116 rfl rfl, ⟨by decide +kernel, by decide +kernel⟩, by decide +kernel, by decide⟩, tb_in 1913 rfl rfl, tb_in 91 rfl rfl⟩
set_option maxRecDepth 100000 in
def fX12_price : Fr := (RX12, cX12_price, 9, (some .int), "price", [])
set_option maxRecDepth 100000 in
theorem mbX12_price : MBV yX12_price fX12_price 3 := ⟨⟨tb_in 1910 rfl rfl, tb_in 116 rfl rfl, ⟨by decide +kernel, by decide +kernel⟩, by decide +kernel, by decide⟩, tb_in 1908 rfl rfl, tb_in 1909 rfl rfl⟩
set_option maxRecDepth 100000 in
def fX12_priced : Fr := (RX12, cX12_priced, 4, (some .int), "priced", [])
set_option maxRecDepth 100000 in
theorem mbX12_priced : MBV yX12_priced fX12_priced 1 := ⟨⟨tb_in 1926 rfl rfl, tb_in 116 rfl rfl, ⟨by decide +kernel, by decide +kernel⟩, by decide +kernel, by decide⟩, tb_in 1924 rfl rfl, tb_in 1925 rfl rfl⟩
set_option maxRecDepth 100000 in
def fX12_mixed : Fr := (RX12, cX12_mixed, 8, (some .int), "mixed", [])
set_option maxRecDepth 100000 in
theorem mbX12_mixed : MBV yX12_mixed fX12_mixed 4 := ⟨⟨tb_in 1930 rfl rfl, tb_in 116 rfl rfl, ⟨by decide +kernel, by decide +kernel⟩, by decide +kernel, by decide⟩, tb_in 1928 rfl rfl, tb_in 1929 rfl rfl⟩
set_option maxRecDepth 100000 in
def fX12_nearPart : Fr := (RX12, cX12_nearPart, 11, Option.none, "nearPart", [])
set_option maxRecDepth 100000 in
theorem mbX12_nearPart : MBV yX12_nearPart fX12_nearPart 4 := ⟨⟨tb_in 1942 rfl rfl, tb_in 116 rfl rfl, ⟨by decide +kernel, by decide +kernel⟩, by decide +kernel, by decide⟩, tb_in 1941 rfl rfl, tb_in 95 rfl rfl⟩
set_option maxRecDepth 100000 in
def fX12_nearPerson : Fr := (RX12, cX12_nearPerson, 10, Option.none, "nearPerson", [])
set_option maxRecDepth 100000 in
theorem mbX12_nearPerson : MBV yX12_nearPerson fX12_nearPerson 0 := ⟨⟨tb_in 1938 rfl rfl, tb_in 116 rfl rfl, ⟨by decide +kernel, by decide +kernel⟩, by decide +kernel, by decide⟩, tb_in 1937 rfl rfl, tb_in 94 rfl rfl⟩
set_option maxRecDepth 100000 in
def fX12_near : Fr := (RX12, cX12_near, 6, (some .int), "near", [])
set_option maxRecDepth 100000 in
theorem mbX12_near : MBV yX12_near fX12_near 2 := ⟨⟨tb_in 1934 rfl rfl, tb_in 116 rfl rfl, ⟨by decide +kernel, by decide +kernel⟩, by decide +kernel, by decide⟩, tb_in 1932 rfl rfl, tb_in 1933 rfl rfl⟩
set_option maxRecDepth 100000 in
def fX12_enter : Fr := (RX12, cX12_enter, 3, Option.none, "enter", [])
set_option maxRecDepth 100000 in
theorem mbX12_enter : MBV yX12_enter fX12_enter 2 := ⟨⟨tb_in 1950 rfl rfl, tb_in 116 rfl rfl, ⟨by decide +kernel, by decide +kernel⟩, by decide +kernel, by decide⟩, tb_in 1949 rfl rfl, tb_in 96 rfl rfl⟩
set_option maxRecDepth 100000 in
def fX12_give : Fr := (RX12, cX12_give, 3, (some .int), "give", [])
set_option maxRecDepth 100000 in
theorem mbX12_give : MBV yX12_give fX12_give 2 := ⟨⟨tb_in 1946 rfl rfl, tb_in 116 rfl rfl, ⟨by decide +kernel, by decide +kernel⟩, by decide +kernel, by decide⟩, tb_in 1944 rfl rfl, tb_in 1945 rfl rfl⟩
set_option maxRecDepth 100000 in
def fX12_stateAhead : Fr := (RX12, cX12_stateAhead, 5, (some .int), "stateAhead", [])
set_option maxRecDepth 100000 in
theorem mbX12_stateAhead : MBV yX12_stateAhead fX12_stateAhead 2 := ⟨⟨tb_in 1958 rfl rfl, tb_in 116 rfl rfl, ⟨by decide +kernel, by decide +kernel⟩, by decide +kernel, by decide⟩, tb_in 1957 rfl rfl, tb_in 97 rfl rfl⟩
set_option maxRecDepth 100000 in
def fX12_explained : Fr := (RX12, cX12_explained, 6, (some .int), "explained", [])
set_option maxRecDepth 100000 in
theorem mbX12_explained : MBV yX12_explained fX12_explained 2 := ⟨⟨tb_in 1962 rfl rfl, tb_in 116 rfl rfl, ⟨by decide +kernel, by decide +kernel⟩, by decide +kernel, by decide⟩, tb_in 1961 rfl rfl, tb_in 98 rfl rfl⟩
set_option maxRecDepth 100000 in
def fX12_given : Fr := (RX12, cX12_given, 4, (some .int), "given", [])
set_option maxRecDepth 100000 in
theorem mbX12_given : MBV yX12_given fX12_given 3 := ⟨⟨tb_in 1954 rfl rfl, tb_in 116 rfl rfl, ⟨by decide +kernel, by decide +kernel⟩, by decide +kernel, by decide⟩, tb_in 1952 rfl rfl, tb_in 1953 rfl rfl⟩
set_option maxRecDepth 100000 in
def fX12_who : Fr := (RX12, cX12_who, 7, (some .int), "who", [])
set_option maxRecDepth 100000 in
theorem mbX12_who : MBV yX12_who fX12_who 3 := ⟨⟨tb_in 1966 rfl rfl, tb_in 116 rfl rfl, ⟨by decide +kernel, by decide +kernel⟩, by decide +kernel, by decide⟩, tb_in 1964 rfl rfl, tb_in 1965 rfl rfl⟩
set_option maxRecDepth 100000 in
def fX12_strange : Fr := (RX12, cX12_strange, 4, (some .int), "strange", [])
set_option maxRecDepth 100000 in
theorem mbX12_strange : MBV yX12_strange fX12_strange 1 := ⟨⟨tb_in 1970 rfl rfl, tb_in 116 rfl rfl, ⟨by decide +kernel, by decide +kernel⟩, by decide +kernel, by decide⟩, tb_in 1968 rfl rfl, tb_in 1969 rfl rfl⟩
set_option maxRecDepth 100000 in
def fX12_bitsOf : Fr := (RX12, cX12_bitsOf, 3, (some .int), "bitsOf", [])
set_option maxRecDepth 100000 in
theorem mbX12_bitsOf : MBS yX12_bitsOf fX12_bitsOf 1 := ⟨⟨tb_in 1977 rfl rfl, tb_in 116 rfl rfl, ⟨by decide +kernel, by decide +kernel⟩, by decide +kernel, by decide⟩, tb_in 1976 rfl rfl⟩
set_option maxRecDepth 100000 in
def fX12_explainsAll : Fr := (RX12, cX12_explainsAll, 4, (some .boolean), "explainsAll", [])
set_option maxRecDepth 100000 in
theorem mbX12_explainsAll : MBV yX12_explainsAll fX12_explainsAll 2 := ⟨⟨tb_in 1981 rfl rfl, tb_in 116 rfl rfl, ⟨by decide +kernel, by decide +kernel⟩, by decide +kernel, by decide⟩, tb_in 1980 rfl rfl, tb_in 99 rfl rfl⟩
set_option maxRecDepth 100000 in
def fX12_fewest : Fr := (RX12, cX12_fewest, 5, (some .int), "fewest", [])
set_option maxRecDepth 100000 in
theorem mbX12_fewest : MBV yX12_fewest fX12_fewest 1 := ⟨⟨tb_in 1974 rfl rfl, tb_in 116 rfl rfl, ⟨by decide +kernel, by decide +kernel⟩, by decide +kernel, by decide⟩, tb_in 1972 rfl rfl, tb_in 1973 rfl rfl⟩
set_option maxRecDepth 100000 in
def fX12_guessAt : Fr := (RX12, cX12_guessAt, 4, (some .int), "guessAt", [])
set_option maxRecDepth 100000 in
theorem mbX12_guessAt : MBV yX12_guessAt fX12_guessAt 3 := ⟨⟨tb_in 1989 rfl rfl, tb_in 116 rfl rfl, ⟨by decide +kernel, by decide +kernel⟩, by decide +kernel, by decide⟩, tb_in 1988 rfl rfl, tb_in 100 rfl rfl⟩
set_option maxRecDepth 100000 in
def fX12_guessOdds : Fr := (RX12, cX12_guessOdds, 6, (some .int), "guessOdds", [])
set_option maxRecDepth 100000 in
theorem mbX12_guessOdds : MBV yX12_guessOdds fX12_guessOdds 3 := ⟨⟨tb_in 1997 rfl rfl, tb_in 116 rfl rfl, ⟨by decide +kernel, by decide +kernel⟩, by decide +kernel, by decide⟩, tb_in 1996 rfl rfl, tb_in 101 rfl rfl⟩
set_option maxRecDepth 100000 in
def fX12_guess : Fr := (RX12, cX12_guess, 5, (some .boolean), "guess", [])
set_option maxRecDepth 100000 in
theorem mbX12_guess : MBV yX12_guess fX12_guess 4 := ⟨⟨tb_in 1985 rfl rfl, tb_in 116 rfl rfl, ⟨by decide +kernel, by decide +kernel⟩, by decide +kernel, by decide⟩, tb_in 1983 rfl rfl, tb_in 1984 rfl rfl⟩
set_option maxRecDepth 100000 in
def fX12_credit : Fr := (RX12, cX12_credit, 11, (some .int), "credit", [])
set_option maxRecDepth 100000 in
theorem mbX12_credit : MBV yX12_credit fX12_credit 2 := ⟨⟨tb_in 1993 rfl rfl, tb_in 116 rfl rfl, ⟨by decide +kernel, by decide +kernel⟩, by decide +kernel, by decide⟩, tb_in 1991 rfl rfl, tb_in 1992 rfl rfl⟩
set_option maxRecDepth 100000 in
def fX12_draw : Fr := (RX12, cX12_draw, 2, (some .int), "draw", [])
set_option maxRecDepth 100000 in
theorem mbX12_draw : MBV yX12_draw fX12_draw 1 := ⟨⟨tb_in 2006 rfl rfl, tb_in 116 rfl rfl, ⟨by decide +kernel, by decide +kernel⟩, by decide +kernel, by decide⟩, tb_in 2005 rfl rfl, tb_in 102 rfl rfl⟩
set_option maxRecDepth 100000 in
def fX12_drawn : Fr := (RX12, cX12_drawn, 9, (some .int), "drawn", [])
set_option maxRecDepth 100000 in
theorem mbX12_drawn : MBV yX12_drawn fX12_drawn 3 := ⟨⟨tb_in 2002 rfl rfl, tb_in 116 rfl rfl, ⟨by decide +kernel, by decide +kernel⟩, by decide +kernel, by decide⟩, tb_in 2000 rfl rfl, tb_in 2001 rfl rfl⟩
set_option maxRecDepth 100000 in
def fX12_empty : Fr := (RX12, cX12_empty, 3, (some .int), "empty", [])
set_option maxRecDepth 100000 in
theorem mbX12_empty : MBV yX12_empty fX12_empty 1 := ⟨⟨tb_in 2011 rfl rfl, tb_in 116 rfl rfl, ⟨by decide +kernel, by decide +kernel⟩, by decide +kernel, by decide⟩, tb_in 2009 rfl rfl, tb_in 2010 rfl rfl⟩
set_option maxRecDepth 100000 in
def fX12_be : Fr := (RX12, cX12_be, 3, Option.none, "be", [])
set_option maxRecDepth 100000 in
theorem mbX12_be : MBS yX12_be fX12_be 2 := ⟨⟨tb_in 2018 rfl rfl, tb_in 116 rfl rfl, ⟨by decide +kernel, by decide +kernel⟩, by decide +kernel, by decide⟩, tb_in 2017 rfl rfl⟩
set_option maxRecDepth 100000 in
def fX12_image : Fr := (RX12, cX12_image, 1, Option.none, "image", [])
set_option maxRecDepth 100000 in
theorem mbX12_image : MBV yX12_image fX12_image 0 := ⟨⟨tb_in 2015 rfl rfl, tb_in 116 rfl rfl, ⟨by decide +kernel, by decide +kernel⟩, by decide +kernel, by decide⟩, tb_in 2013 rfl rfl, tb_in 2014 rfl rfl⟩
set_option maxRecDepth 100000 in
def fX12_restore : Fr := (RX12, cX12_restore, 1, (some .boolean), "restore", [])
set_option maxRecDepth 100000 in
theorem mbX12_restore : MBV yX12_restore fX12_restore 0 := ⟨⟨tb_in 2022 rfl rfl, tb_in 116 rfl rfl, ⟨by decide +kernel, by decide +kernel⟩, by decide +kernel, by decide⟩, tb_in 2020 rfl rfl, tb_in 2021 rfl rfl⟩
set_option maxRecDepth 100000 in
def fL_gate : Fr := (RL, cL_gate, 5, (some .int), "gate", [(0, 10, 13, 13), (0, 10, 17, 15)])
set_option maxRecDepth 100000 in
theorem mwL_gate : MBW yL_gate fL_gate 4 := ⟨tb_in 589 rfl rfl, tb_in 103 rfl rfl, ⟨by decide +kernel, by decide +kernel⟩, by decide +kernel, by decide, tb_in 588 rfl rfl⟩
set_option maxRecDepth 100000 in
def fL_count : Fr := (RL, cL_count, 4, (some .int), "count", [(0, 9, 12, 13)])
set_option maxRecDepth 100000 in
theorem mwL_count : MBW yL_count fL_count 3 := ⟨tb_in 906 rfl rfl, tb_in 103 rfl rfl, ⟨by decide +kernel, by decide +kernel⟩, by decide +kernel, by decide, tb_in 905 rfl rfl⟩
set_option maxRecDepth 100000 in
def fL_about : Fr := (RL, cL_about, 5, (some .int), "about", [(0, 10, 13, 13)])
set_option maxRecDepth 100000 in
theorem mwL_about : MBW yL_about fL_about 4 := ⟨tb_in 913 rfl rfl, tb_in 103 rfl rfl, ⟨by decide +kernel, by decide +kernel⟩, by decide +kernel, by decide, tb_in 912 rfl rfl⟩
set_option maxRecDepth 100000 in
def fL_sort : Fr := (RL, cL_sort, 6, (some .int), "sort", [(0, 12, 15, 13)])
set_option maxRecDepth 100000 in
theorem mwL_sort : MBW yL_sort fL_sort 5 := ⟨tb_in 928 rfl rfl, tb_in 103 rfl rfl, ⟨by decide +kernel, by decide +kernel⟩, by decide +kernel, by decide, tb_in 927 rfl rfl⟩
set_option maxRecDepth 100000 in
def fL_gives : Fr := (RL, cL_gives, 6, (some .int), "gives", [(0, 12, 15, 13)])
set_option maxRecDepth 100000 in
theorem mwL_gives : MBW yL_gives fL_gives 5 := ⟨tb_in 935 rfl rfl, tb_in 103 rfl rfl, ⟨by decide +kernel, by decide +kernel⟩, by decide +kernel, by decide, tb_in 934 rfl rfl⟩
set_option maxRecDepth 100000 in
def fL_next : Fr := (RL, cL_next, 6, (some .int), "next", [(0, 12, 15, 13)])
set_option maxRecDepth 100000 in
theorem mwL_next : MBW yL_next fL_next 5 := ⟨tb_in 976 rfl rfl, tb_in 103 rfl rfl, ⟨by decide +kernel, by decide +kernel⟩, by decide +kernel, by decide, tb_in 975 rfl rfl⟩
set_option maxRecDepth 100000 in
def fL_seed : Fr := (RL, cL_seed, 4, (some .int), "seed", [(0, 6, 9, 13)])
set_option maxRecDepth 100000 in
theorem mwL_seed : MBW yL_seed fL_seed 3 := ⟨tb_in 987 rfl rfl, tb_in 103 rfl rfl, ⟨by decide +kernel, by decide +kernel⟩, by decide +kernel, by decide, tb_in 986 rfl rfl⟩
set_option maxRecDepth 100000 in
def fL_set : Fr := (RL, cL_set, 5, (some .int), "set", [(0, 17, 20, 13)])
set_option maxRecDepth 100000 in
theorem mwL_set : MBW yL_set fL_set 4 := ⟨tb_in 995 rfl rfl, tb_in 103 rfl rfl, ⟨by decide +kernel, by decide +kernel⟩, by decide +kernel, by decide, tb_in 994 rfl rfl⟩
set_option maxRecDepth 100000 in
def fL_coin : Fr := (RL, cL_coin, 6, (some .int), "coin", [(0, 12, 15, 13), (0, 12, 19, 15)])
set_option maxRecDepth 100000 in
theorem mwL_coin : MBW yL_coin fL_coin 5 := ⟨tb_in 1003 rfl rfl, tb_in 103 rfl rfl, ⟨by decide +kernel, by decide +kernel⟩, by decide +kernel, by decide, tb_in 1002 rfl rfl⟩
set_option maxRecDepth 100000 in
def fL_cases : Fr := (RL, cL_cases, 6, (some .int), "cases", [(0, 12, 15, 13), (0, 12, 19, 15)])
set_option maxRecDepth 100000 in
theorem mwL_cases : MBW yL_cases fL_cases 5 := ⟨tb_in 1069 rfl rfl, tb_in 103 rfl rfl, ⟨by decide +kernel, by decide +kernel⟩, by decide +kernel, by decide, tb_in 1068 rfl rfl⟩
set_option maxRecDepth 100000 in
def fL_drift : Fr := (RL, cL_drift, 5, (some .int), "drift", [(0, 10, 13, 13), (0, 10, 17, 15)])
set_option maxRecDepth 100000 in
theorem mwL_drift : MBW yL_drift fL_drift 4 := ⟨tb_in 1077 rfl rfl, tb_in 103 rfl rfl, ⟨by decide +kernel, by decide +kernel⟩, by decide +kernel, by decide, tb_in 1076 rfl rfl⟩
set_option maxRecDepth 100000 in
def fL_turn : Fr := (RL, cL_turn, 5, (some .int), "turn", [(0, 10, 13, 13)])
set_option maxRecDepth 100000 in
theorem mwL_turn : MBW yL_turn fL_turn 4 := ⟨tb_in 1089 rfl rfl, tb_in 103 rfl rfl, ⟨by decide +kernel, by decide +kernel⟩, by decide +kernel, by decide, tb_in 1088 rfl rfl⟩
set_option maxRecDepth 100000 in
def fL_rest : Fr := (RL, cL_rest, 6, (some .int), "rest", [(0, 12, 15, 13)])
set_option maxRecDepth 100000 in
theorem mwL_rest : MBW yL_rest fL_rest 5 := ⟨tb_in 1096 rfl rfl, tb_in 103 rfl rfl, ⟨by decide +kernel, by decide +kernel⟩, by decide +kernel, by decide, tb_in 1095 rfl rfl⟩
set_option maxRecDepth 100000 in
def fL_best : Fr := (RL, cL_best, 7, (some .int), "best", [(0, 14, 17, 13), (0, 14, 21, 15)])
set_option maxRecDepth 100000 in
theorem mwL_best : MBW yL_best fL_best 6 := ⟨tb_in 1151 rfl rfl, tb_in 103 rfl rfl, ⟨by decide +kernel, by decide +kernel⟩, by decide +kernel, by decide, tb_in 1150 rfl rfl⟩
set_option maxRecDepth 100000 in
def fL_would : Fr := (RL, cL_would, 6, (some .int), "would", [(0, 12, 15, 13), (0, 12, 19, 15)])
set_option maxRecDepth 100000 in
theorem mwL_would : MBW yL_would fL_would 5 := ⟨tb_in 1174 rfl rfl, tb_in 103 rfl rfl, ⟨by decide +kernel, by decide +kernel⟩, by decide +kernel, by decide, tb_in 1173 rfl rfl⟩
set_option maxRecDepth 100000 in
def fL_card : Fr := (RL, cL_card, 5, (some .int), "card", [(0, 10, 13, 13), (0, 10, 17, 15)])
set_option maxRecDepth 100000 in
theorem mwL_card : MBW yL_card fL_card 4 := ⟨tb_in 1181 rfl rfl, tb_in 103 rfl rfl, ⟨by decide +kernel, by decide +kernel⟩, by decide +kernel, by decide, tb_in 1180 rfl rfl⟩
set_option maxRecDepth 100000 in
def fL_seeded : Fr := (RL, cL_seeded, 5, (some .int), "seeded", [(0, 10, 13, 13), (0, 10, 17, 15)])
set_option maxRecDepth 100000 in
theorem mwL_seeded : MBW yL_seeded fL_seeded 4 := ⟨tb_in 1193 rfl rfl, tb_in 103 rfl rfl, ⟨by decide +kernel, by decide +kernel⟩, by decide +kernel, by decide, tb_in 1192 rfl rfl⟩
set_option maxRecDepth 100000 in
def fL_price : Fr := (RL, cL_price, 6, (some .int), "price", [(0, 12, 15, 13)])
set_option maxRecDepth 100000 in
theorem mwL_price : MBW yL_price fL_price 5 := ⟨tb_in 1200 rfl rfl, tb_in 103 rfl rfl, ⟨by decide +kernel, by decide +kernel⟩, by decide +kernel, by decide, tb_in 1199 rfl rfl⟩
set_option maxRecDepth 100000 in
def fL_priced : Fr := (RL, cL_priced, 4, (some .int), "priced", [(0, 9, 12, 13)])
set_option maxRecDepth 100000 in
theorem mwL_priced : MBW yL_priced fL_priced 3 := ⟨tb_in 1230 rfl rfl, tb_in 103 rfl rfl, ⟨by decide +kernel, by decide +kernel⟩, by decide +kernel, by decide, tb_in 1229 rfl rfl⟩
set_option maxRecDepth 100000 in
def fL_mixed : Fr := (RL, cL_mixed, 7, (some .int), "mixed", [(0, 14, 17, 13), (0, 14, 21, 15)])
set_option maxRecDepth 100000 in
theorem mwL_mixed : MBW yL_mixed fL_mixed 6 := ⟨tb_in 1237 rfl rfl, tb_in 103 rfl rfl, ⟨by decide +kernel, by decide +kernel⟩, by decide +kernel, by decide, tb_in 1236 rfl rfl⟩
set_option maxRecDepth 100000 in
def fL_near : Fr := (RL, cL_near, 5, (some .int), "near", [(0, 10, 13, 13), (0, 10, 17, 15)])
set_option maxRecDepth 100000 in
theorem mwL_near : MBW yL_near fL_near 4 := ⟨tb_in 1250 rfl rfl, tb_in 103 rfl rfl, ⟨by decide +kernel, by decide +kernel⟩, by decide +kernel, by decide, tb_in 1249 rfl rfl⟩
set_option maxRecDepth 100000 in
def fL_give : Fr := (RL, cL_give, 5, (some .int), "give", [(0, 10, 13, 13)])
set_option maxRecDepth 100000 in
theorem mwL_give : MBW yL_give fL_give 4 := ⟨tb_in 1282 rfl rfl, tb_in 103 rfl rfl, ⟨by decide +kernel, by decide +kernel⟩, by decide +kernel, by decide, tb_in 1281 rfl rfl⟩
set_option maxRecDepth 100000 in
def fL_given : Fr := (RL, cL_given, 6, (some .int), "given", [(0, 12, 15, 13)])
set_option maxRecDepth 100000 in
theorem mwL_given : MBW yL_given fL_given 5 := ⟨tb_in 1299 rfl rfl, tb_in 103 rfl rfl, ⟨by decide +kernel, by decide +kernel⟩, by decide +kernel, by decide, tb_in 1298 rfl rfl⟩
set_option maxRecDepth 100000 in
def fL_who : Fr := (RL, cL_who, 6, (some .int), "who", [(0, 12, 15, 13)])
set_option maxRecDepth 100000 in
theorem mwL_who : MBW yL_who fL_who 5 := ⟨tb_in 1322 rfl rfl, tb_in 103 rfl rfl, ⟨by decide +kernel, by decide +kernel⟩, by decide +kernel, by decide, tb_in 1321 rfl rfl⟩
set_option maxRecDepth 100000 in
def fL_strange : Fr := (RL, cL_strange, 4, (some .int), "strange", [(0, 9, 12, 13)])
set_option maxRecDepth 100000 in
theorem mwL_strange : MBW yL_strange fL_strange 3 := ⟨tb_in 1337 rfl rfl, tb_in 103 rfl rfl, ⟨by decide +kernel, by decide +kernel⟩, by decide +kernel, by decide, tb_in 1336 rfl rfl⟩
set_option maxRecDepth 100000 in
def fL_fewest : Fr := (RL, cL_fewest, 4, (some .int), "fewest", [(0, 9, 12, 13)])
set_option maxRecDepth 100000 in
theorem mwL_fewest : MBW yL_fewest fL_fewest 3 := ⟨tb_in 1344 rfl rfl, tb_in 103 rfl rfl, ⟨by decide +kernel, by decide +kernel⟩, by decide +kernel, by decide, tb_in 1343 rfl rfl⟩
set_option maxRecDepth 100000 in
def fL_guess : Fr := (RL, cL_guess, 7, (some .int), "guess", [(0, 21, 24, 13)])
set_option maxRecDepth 100000 in
theorem mwL_guess : MBW yL_guess fL_guess 6 := ⟨tb_in 1365 rfl rfl, tb_in 103 rfl rfl, ⟨by decide +kernel, by decide +kernel⟩, by decide +kernel, by decide, tb_in 1364 rfl rfl⟩
set_option maxRecDepth 100000 in
def fL_credit : Fr := (RL, cL_credit, 5, (some .int), "credit", [(0, 10, 13, 13)])
set_option maxRecDepth 100000 in
theorem mwL_credit : MBW yL_credit fL_credit 4 := ⟨tb_in 1372 rfl rfl, tb_in 103 rfl rfl, ⟨by decide +kernel, by decide +kernel⟩, by decide +kernel, by decide, tb_in 1371 rfl rfl⟩
set_option maxRecDepth 100000 in
def fL_drawn : Fr := (RL, cL_drawn, 6, (some .int), "drawn", [(0, 12, 15, 13), (0, 12, 19, 15)])
set_option maxRecDepth 100000 in
theorem mwL_drawn : MBW yL_drawn fL_drawn 5 := ⟨tb_in 1399 rfl rfl, tb_in 103 rfl rfl, ⟨by decide +kernel, by decide +kernel⟩, by decide +kernel, by decide, tb_in 1398 rfl rfl⟩
set_option maxRecDepth 100000 in
def fL_empty : Fr := (RL, cL_empty, 4, (some .int), "empty", [(0, 9, 12, 13)])
set_option maxRecDepth 100000 in
theorem mwL_empty : MBW yL_empty fL_empty 3 := ⟨tb_in 1427 rfl rfl, tb_in 103 rfl rfl, ⟨by decide +kernel, by decide +kernel⟩, by decide +kernel, by decide, tb_in 1426 rfl rfl⟩
set_option maxRecDepth 100000 in
def fL_law : Fr := (RL, cL_law, 7, ret, "", [(0, 0, 0, 0)])
set_option maxRecDepth 100000 in
theorem oiX9_3 : Cond.methodLink RX9 3 Lib.objectInit ∈ TB := tb_in 154 rfl rfl
set_option maxRecDepth 100000 in
theorem oi_w : Cond.instanceMethod Lib.objectInit ∈ TB ∧ Cond.code Lib.objectInit ⟨#[0xb1]⟩ 1 none ∈ TB := ⟨tb_in 135 rfl rfl, tb_in 136 rfl rfl⟩
set_option maxRecDepth 100000 in
theorem flX9_9 : FLk RX9 9 9 0 0 false := ⟨(RX9, TX9, 4), rfl, by decide, tb_in 155 rfl rfl, rfl, rfl⟩
set_option maxRecDepth 100000 in
theorem flX9_15 : FLk RX9 15 9 1 0 false := ⟨(RX9, TX9, 4), rfl, by decide, tb_in 160 rfl rfl, rfl, rfl⟩
set_option maxRecDepth 100000 in
theorem flX9_18 : FLk RX9 18 9 2 0 false := ⟨(RX9, TX9, 4), rfl, by decide, tb_in 164 rfl rfl, rfl, rfl⟩
set_option maxRecDepth 100000 in
theorem flX9_21 : FLk RX9 21 9 3 0 false := ⟨(RX9, TX9, 4), rfl, by decide, tb_in 168 rfl rfl, rfl, rfl⟩
set_option maxRecDepth 100000 in
theorem oiX8_3 : Cond.methodLink RX8 3 Lib.objectInit ∈ TB := tb_in 148 rfl rfl
set_option maxRecDepth 100000 in
theorem flX8_9 : FLk RX8 9 8 0 0 false := ⟨(RX8, TX8, 13), rfl, by decide, tb_in 182 rfl rfl, rfl, rfl⟩
set_option maxRecDepth 100000 in
theorem flX8_15 : FLk RX8 15 8 1 0 false := ⟨(RX8, TX8, 13), rfl, by decide, tb_in 190 rfl rfl, rfl, rfl⟩
set_option maxRecDepth 100000 in
theorem flX8_18 : FLk RX8 18 8 2 0 false := ⟨(RX8, TX8, 13), rfl, by decide, tb_in 193 rfl rfl, rfl, rfl⟩
set_option maxRecDepth 100000 in
theorem flX8_21 : FLk RX8 21 8 3 0 false := ⟨(RX8, TX8, 13), rfl, by decide, tb_in 195 rfl rfl, rfl, rfl⟩
set_option maxRecDepth 100000 in
theorem flX8_24 : FLk RX8 24 8 4 0 false := ⟨(RX8, TX8, 13), rfl, by decide, tb_in 198 rfl rfl, rfl, rfl⟩
set_option maxRecDepth 100000 in
theorem flX8_27 : FLk RX8 27 8 5 0 false := ⟨(RX8, TX8, 13), rfl, by decide, tb_in 201 rfl rfl, rfl, rfl⟩
set_option maxRecDepth 100000 in
theorem flX8_30 : FLk RX8 30 8 6 0 false := ⟨(RX8, TX8, 13), rfl, by decide, tb_in 202 rfl rfl, rfl, rfl⟩
set_option maxRecDepth 100000 in
theorem ac_1 : Cond.arrayClass .int ∈ TB := tb_in 181 rfl rfl
set_option maxRecDepth 100000 in
theorem flX8_33 : FLk RX8 33 8 7 2 true := ⟨(RX8, TX8, 13), rfl, by decide, tb_in 203 rfl rfl, rfl, rfl⟩
set_option maxRecDepth 100000 in
theorem flX8_37 : FLk RX8 37 8 8 2 true := ⟨(RX8, TX8, 13), rfl, by decide, tb_in 207 rfl rfl, rfl, rfl⟩
set_option maxRecDepth 100000 in
theorem flX8_40 : FLk RX8 40 8 9 2 true := ⟨(RX8, TX8, 13), rfl, by decide, tb_in 211 rfl rfl, rfl, rfl⟩
set_option maxRecDepth 100000 in
theorem flX8_43 : FLk RX8 43 8 10 2 true := ⟨(RX8, TX8, 13), rfl, by decide, tb_in 215 rfl rfl, rfl, rfl⟩
set_option maxRecDepth 100000 in
theorem flX8_46 : FLk RX8 46 8 11 2 true := ⟨(RX8, TX8, 13), rfl, by decide, tb_in 217 rfl rfl, rfl, rfl⟩
set_option maxRecDepth 100000 in
theorem nwX8_49 : Cond.classLink RX8 49 RX9 ∈ TB ∧ Cond.instantiable RX9 4 ∈ TB ∧ Cond.initialized RX9 ∈ TB := ⟨tb_in 149 rfl rfl, tb_in 150 rfl rfl, tb_in 107 rfl rfl⟩
set_option maxRecDepth 100000 in
theorem nlX8_51 : Cond.methodLinkNest RX8 51 yX9_init RX11 ∈ nstL := List.mem_of_getElem? (i := 2) rfl
set_option maxRecDepth 100000 in
theorem flX8_52 : FLk RX8 52 8 12 2 true := ⟨(RX8, TX8, 13), rfl, by decide, tb_in 220 rfl rfl, rfl, rfl⟩
set_option maxRecDepth 100000 in
theorem oiX6_3 : Cond.methodLink RX6 3 Lib.objectInit ∈ TB := tb_in 142 rfl rfl
set_option maxRecDepth 100000 in
theorem flX6_9 : FLk RX6 9 6 0 2 true := ⟨(RX6, TX6, 12), rfl, by decide, tb_in 251 rfl rfl, rfl, rfl⟩
set_option maxRecDepth 100000 in
theorem flX6_15 : FLk RX6 15 6 1 0 false := ⟨(RX6, TX6, 12), rfl, by decide, tb_in 252 rfl rfl, rfl, rfl⟩
set_option maxRecDepth 100000 in
theorem flX6_19 : FLk RX6 19 6 2 0 false := ⟨(RX6, TX6, 12), rfl, by decide, tb_in 254 rfl rfl, rfl, rfl⟩
set_option maxRecDepth 100000 in
theorem nwX6_22 : Cond.classLink RX6 22 RX8 ∈ TB ∧ Cond.instantiable RX8 13 ∈ TB ∧ Cond.initialized RX8 ∈ TB := ⟨tb_in 143 rfl rfl, tb_in 144 rfl rfl, tb_in 106 rfl rfl⟩
set_option maxRecDepth 100000 in
theorem nlX6_24 : Cond.methodLinkNest RX6 24 yX8_init RX11 ∈ nstL := List.mem_of_getElem? (i := 1) rfl
set_option maxRecDepth 100000 in
theorem flX6_25 : FLk RX6 25 6 3 2 false := ⟨(RX6, TX6, 12), rfl, by decide, tb_in 256 rfl rfl, rfl, rfl⟩
set_option maxRecDepth 100000 in
theorem flX6_29 : FLk RX6 29 6 4 0 false := ⟨(RX6, TX6, 12), rfl, by decide, tb_in 258 rfl rfl, rfl, rfl⟩
set_option maxRecDepth 100000 in
theorem flX6_32 : FLk RX6 32 6 5 0 false := ⟨(RX6, TX6, 12), rfl, by decide, tb_in 259 rfl rfl, rfl, rfl⟩
set_option maxRecDepth 100000 in
theorem flX6_35 : FLk RX6 35 6 6 0 false := ⟨(RX6, TX6, 12), rfl, by decide, tb_in 260 rfl rfl, rfl, rfl⟩
set_option maxRecDepth 100000 in
theorem flX6_38 : FLk RX6 38 6 7 0 false := ⟨(RX6, TX6, 12), rfl, by decide, tb_in 261 rfl rfl, rfl, rfl⟩
set_option maxRecDepth 100000 in
theorem flX6_41 : FLk RX6 41 6 8 0 false := ⟨(RX6, TX6, 12), rfl, by decide, tb_in 262 rfl rfl, rfl, rfl⟩
set_option maxRecDepth 100000 in
theorem flX6_44 : FLk RX6 44 6 9 0 false := ⟨(RX6, TX6, 12), rfl, by decide, tb_in 263 rfl rfl, rfl, rfl⟩
set_option maxRecDepth 100000 in
theorem flX6_47 : FLk RX6 47 6 10 0 false := ⟨(RX6, TX6, 12), rfl, by decide, tb_in 264 rfl rfl, rfl, rfl⟩
set_option maxRecDepth 100000 in
theorem flX6_50 : FLk RX6 50 6 11 0 false := ⟨(RX6, TX6, 12), rfl, by decide, tb_in 265 rfl rfl, rfl, rfl⟩
set_option maxRecDepth 100000 in
theorem oiX0_3 : Cond.methodLink RX0 3 Lib.objectInit ∈ TB := tb_in 304 rfl rfl
set_option maxRecDepth 100000 in
theorem flX0_9 : FLk RX0 9 0 0 0 false := ⟨(RX0, TX0, 7), rfl, by decide, tb_in 305 rfl rfl, rfl, rfl⟩
set_option maxRecDepth 100000 in
theorem flX0_15 : FLk RX0 15 0 1 0 false := ⟨(RX0, TX0, 7), rfl, by decide, tb_in 308 rfl rfl, rfl, rfl⟩
set_option maxRecDepth 100000 in
theorem flX0_18 : FLk RX0 18 0 2 0 false := ⟨(RX0, TX0, 7), rfl, by decide, tb_in 310 rfl rfl, rfl, rfl⟩
set_option maxRecDepth 100000 in
theorem flX0_21 : FLk RX0 21 0 3 0 false := ⟨(RX0, TX0, 7), rfl, by decide, tb_in 313 rfl rfl, rfl, rfl⟩
set_option maxRecDepth 100000 in
theorem flX0_24 : FLk RX0 24 0 4 0 false := ⟨(RX0, TX0, 7), rfl, by decide, tb_in 316 rfl rfl, rfl, rfl⟩
set_option maxRecDepth 100000 in
theorem flX0_27 : FLk RX0 27 0 5 2 true := ⟨(RX0, TX0, 7), rfl, by decide, tb_in 318 rfl rfl, rfl, rfl⟩
set_option maxRecDepth 100000 in
theorem flX0_31 : FLk RX0 31 0 6 2 true := ⟨(RX0, TX0, 7), rfl, by decide, tb_in 321 rfl rfl, rfl, rfl⟩
set_option maxRecDepth 100000 in
theorem oiX4_3 : Cond.methodLink RX4 3 Lib.objectInit ∈ TB := tb_in 296 rfl rfl
set_option maxRecDepth 100000 in
theorem nwX4_9 : Cond.classLink RX4 9 RX8 ∈ TB ∧ Cond.instantiable RX8 13 ∈ TB ∧ Cond.initialized RX8 ∈ TB := ⟨tb_in 297 rfl rfl, tb_in 144 rfl rfl, tb_in 106 rfl rfl⟩
set_option maxRecDepth 100000 in
theorem nlX4_11 : Cond.methodLinkNest RX4 11 yX8_init RX11 ∈ nstL := List.mem_of_getElem? (i := 4) rfl
set_option maxRecDepth 100000 in
theorem flX4_12 : FLk RX4 12 4 0 2 false := ⟨(RX4, TX4, 4), rfl, by decide, tb_in 338 rfl rfl, rfl, rfl⟩
set_option maxRecDepth 100000 in
theorem nwX4_18 : Cond.classLink RX4 18 RX0 ∈ TB ∧ Cond.instantiable RX0 7 ∈ TB ∧ Cond.initialized RX0 ∈ TB := ⟨tb_in 299 rfl rfl, tb_in 300 rfl rfl, tb_in 109 rfl rfl⟩
set_option maxRecDepth 100000 in
theorem nlX4_20 : Cond.methodLinkNest RX4 20 yX0_init RX11 ∈ nstL := List.mem_of_getElem? (i := 5) rfl
set_option maxRecDepth 100000 in
theorem flX4_21 : FLk RX4 21 4 1 2 true := ⟨(RX4, TX4, 4), rfl, by decide, tb_in 340 rfl rfl, rfl, rfl⟩
set_option maxRecDepth 100000 in
theorem flX4_25 : FLk RX4 25 4 2 2 true := ⟨(RX4, TX4, 4), rfl, by decide, tb_in 342 rfl rfl, rfl, rfl⟩
set_option maxRecDepth 100000 in
theorem flX4_28 : FLk RX4 28 4 3 0 false := ⟨(RX4, TX4, 4), rfl, by decide, tb_in 344 rfl rfl, rfl, rfl⟩
set_option maxRecDepth 100000 in
theorem oiX5_3 : Cond.methodLink RX5 3 Lib.objectInit ∈ TB := tb_in 360 rfl rfl
set_option maxRecDepth 100000 in
theorem flX5_9 : FLk RX5 9 5 3 2 true := ⟨(RX5, TX5, 5), rfl, by decide, tb_in 368 rfl rfl, rfl, rfl⟩
set_option maxRecDepth 100000 in
theorem flX5_15 : FLk RX5 15 5 4 2 true := ⟨(RX5, TX5, 5), rfl, by decide, tb_in 369 rfl rfl, rfl, rfl⟩
set_option maxRecDepth 100000 in
theorem flX5_18 : FLk RX5 18 5 0 2 false := ⟨(RX5, TX5, 5), rfl, by decide, tb_in 361 rfl rfl, rfl, rfl⟩
set_option maxRecDepth 100000 in
theorem flX5_22 : FLk RX5 22 8 12 2 true := ⟨(RX8, TX8, 13), rfl, by decide, tb_in 219 rfl rfl, rfl, rfl⟩
set_option maxRecDepth 100000 in
theorem flX5_28 : FLk RX5 28 5 1 2 false := ⟨(RX5, TX5, 5), rfl, by decide, tb_in 366 rfl rfl, rfl, rfl⟩
set_option maxRecDepth 100000 in
theorem flX5_29 : FLk RX5 29 5 2 2 true := ⟨(RX5, TX5, 5), rfl, by decide, tb_in 367 rfl rfl, rfl, rfl⟩
set_option maxRecDepth 100000 in
theorem oiX1_1 : Cond.methodLink RX1 1 Lib.objectInit ∈ TB := tb_in 392 rfl rfl
set_option maxRecDepth 100000 in
theorem flX1_7 : FLk RX1 7 1 2 0 false := ⟨(RX1, TX1, 3), rfl, by decide, tb_in 395 rfl rfl, rfl, rfl⟩
set_option maxRecDepth 100000 in
theorem flX1_13 : FLk RX1 13 1 0 2 true := ⟨(RX1, TX1, 3), rfl, by decide, tb_in 393 rfl rfl, rfl, rfl⟩
set_option maxRecDepth 100000 in
theorem flX1_17 : FLk RX1 17 1 1 2 true := ⟨(RX1, TX1, 3), rfl, by decide, tb_in 394 rfl rfl, rfl, rfl⟩
set_option maxRecDepth 100000 in
theorem oiX10_3 : Cond.methodLink RX10 3 Lib.objectInit ∈ TB := tb_in 386 rfl rfl
set_option maxRecDepth 100000 in
theorem nwX10_9 : Cond.classLink RX10 9 RX1 ∈ TB ∧ Cond.instantiable RX1 3 ∈ TB ∧ Cond.initialized RX1 ∈ TB := ⟨tb_in 387 rfl rfl, tb_in 388 rfl rfl, tb_in 112 rfl rfl⟩
set_option maxRecDepth 100000 in
theorem mlX10_11 : Cond.methodLink RX10 11 yX1_init ∈ TB := tb_in 389 rfl rfl
set_option maxRecDepth 100000 in
theorem flX10_14 : FLk RX10 14 10 1 2 false := ⟨(RX10, TX10, 5), rfl, by decide, tb_in 406 rfl rfl, rfl, rfl⟩
set_option maxRecDepth 100000 in
theorem flX10_20 : FLk RX10 20 10 2 2 false := ⟨(RX10, TX10, 5), rfl, by decide, tb_in 408 rfl rfl, rfl, rfl⟩
set_option maxRecDepth 100000 in
theorem flX10_23 : FLk RX10 23 10 3 1 false := ⟨(RX10, TX10, 5), rfl, by decide, tb_in 409 rfl rfl, rfl, rfl⟩
set_option maxRecDepth 100000 in
theorem flX10_27 : FLk RX10 27 10 4 1 false := ⟨(RX10, TX10, 5), rfl, by decide, tb_in 411 rfl rfl, rfl, rfl⟩
set_option maxRecDepth 100000 in
theorem flX10_30 : FLk RX10 30 10 0 2 true := ⟨(RX10, TX10, 5), rfl, by decide, tb_in 405 rfl rfl, rfl, rfl⟩
set_option maxRecDepth 100000 in
theorem oiX3_3 : Cond.methodLink RX3 3 Lib.objectInit ∈ TB := tb_in 428 rfl rfl
set_option maxRecDepth 100000 in
theorem nwX3_9 : Cond.classLink RX3 9 RX1 ∈ TB ∧ Cond.instantiable RX1 3 ∈ TB ∧ Cond.initialized RX1 ∈ TB := ⟨tb_in 429 rfl rfl, tb_in 388 rfl rfl, tb_in 112 rfl rfl⟩
set_option maxRecDepth 100000 in
theorem mlX3_13 : Cond.methodLink RX3 13 yX1_init ∈ TB := tb_in 430 rfl rfl
set_option maxRecDepth 100000 in
theorem flX3_16 : FLk RX3 16 3 2 2 false := ⟨(RX3, TX3, 7), rfl, by decide, tb_in 435 rfl rfl, rfl, rfl⟩
set_option maxRecDepth 100000 in
theorem flX3_20 : FLk RX3 20 3 3 2 false := ⟨(RX3, TX3, 7), rfl, by decide, tb_in 436 rfl rfl, rfl, rfl⟩
set_option maxRecDepth 100000 in
theorem flX3_23 : FLk RX3 23 3 4 1 false := ⟨(RX3, TX3, 7), rfl, by decide, tb_in 437 rfl rfl, rfl, rfl⟩
set_option maxRecDepth 100000 in
theorem flX3_27 : FLk RX3 27 3 5 1 false := ⟨(RX3, TX3, 7), rfl, by decide, tb_in 439 rfl rfl, rfl, rfl⟩
set_option maxRecDepth 100000 in
theorem flX3_30 : FLk RX3 30 3 6 1 false := ⟨(RX3, TX3, 7), rfl, by decide, tb_in 441 rfl rfl, rfl, rfl⟩
set_option maxRecDepth 100000 in
theorem flX3_33 : FLk RX3 33 3 0 2 true := ⟨(RX3, TX3, 7), rfl, by decide, tb_in 433 rfl rfl, rfl, rfl⟩
set_option maxRecDepth 100000 in
theorem nwX3_37 : Cond.classLink RX3 37 RX5 ∈ TB ∧ Cond.instantiable RX5 5 ∈ TB ∧ Cond.initialized RX5 ∈ TB := ⟨tb_in 431 rfl rfl, tb_in 356 rfl rfl, tb_in 110 rfl rfl⟩
set_option maxRecDepth 100000 in
theorem mlX3_39 : Cond.methodLink RX3 39 yX5_init ∈ TB := tb_in 432 rfl rfl
set_option maxRecDepth 100000 in
theorem flX3_42 : FLk RX3 42 3 1 2 true := ⟨(RX3, TX3, 7), rfl, by decide, tb_in 434 rfl rfl, rfl, rfl⟩
set_option maxRecDepth 100000 in
theorem oiX7_3 : Cond.methodLink RX7 3 Lib.objectInit ∈ TB := tb_in 463 rfl rfl
set_option maxRecDepth 100000 in
theorem ac_2 : Cond.arrayClass .long ∈ TB := tb_in 480 rfl rfl
set_option maxRecDepth 100000 in
theorem flX7_9 : FLk RX7 9 7 1 2 true := ⟨(RX7, TX7, 5), rfl, by decide, tb_in 465 rfl rfl, rfl, rfl⟩
set_option maxRecDepth 100000 in
theorem flX7_15 : FLk RX7 15 7 2 2 true := ⟨(RX7, TX7, 5), rfl, by decide, tb_in 466 rfl rfl, rfl, rfl⟩
set_option maxRecDepth 100000 in
theorem flX7_18 : FLk RX7 18 7 3 0 false := ⟨(RX7, TX7, 5), rfl, by decide, tb_in 467 rfl rfl, rfl, rfl⟩
set_option maxRecDepth 100000 in
theorem flX7_22 : FLk RX7 22 7 4 0 false := ⟨(RX7, TX7, 5), rfl, by decide, tb_in 468 rfl rfl, rfl, rfl⟩
set_option maxRecDepth 100000 in
theorem flX7_25 : FLk RX7 25 7 0 2 true := ⟨(RX7, TX7, 5), rfl, by decide, tb_in 464 rfl rfl, rfl, rfl⟩
set_option maxRecDepth 100000 in
theorem oiX2_3 : Cond.methodLink RX2 3 Lib.objectInit ∈ TB := tb_in 486 rfl rfl
set_option maxRecDepth 100000 in
theorem flX2_9 : FLk RX2 9 2 1 2 true := ⟨(RX2, TX2, 6), rfl, by decide, tb_in 488 rfl rfl, rfl, rfl⟩
set_option maxRecDepth 100000 in
theorem flX2_15 : FLk RX2 15 2 2 2 true := ⟨(RX2, TX2, 6), rfl, by decide, tb_in 490 rfl rfl, rfl, rfl⟩
set_option maxRecDepth 100000 in
theorem flX2_18 : FLk RX2 18 2 3 0 false := ⟨(RX2, TX2, 6), rfl, by decide, tb_in 492 rfl rfl, rfl, rfl⟩
set_option maxRecDepth 100000 in
theorem flX2_22 : FLk RX2 22 2 4 2 true := ⟨(RX2, TX2, 6), rfl, by decide, tb_in 493 rfl rfl, rfl, rfl⟩
set_option maxRecDepth 100000 in
theorem flX2_25 : FLk RX2 25 2 5 2 true := ⟨(RX2, TX2, 6), rfl, by decide, tb_in 494 rfl rfl, rfl, rfl⟩
set_option maxRecDepth 100000 in
theorem flX2_28 : FLk RX2 28 2 0 2 true := ⟨(RX2, TX2, 6), rfl, by decide, tb_in 487 rfl rfl, rfl, rfl⟩
set_option maxRecDepth 100000 in
theorem oiX11_3 : Cond.methodLink RX11 3 Lib.objectInit ∈ TB := tb_in 134 rfl rfl
set_option maxRecDepth 100000 in
theorem nwX11_9 : Cond.classLink RX11 9 RX6 ∈ TB ∧ Cond.instantiable RX6 12 ∈ TB ∧ Cond.initialized RX6 ∈ TB := ⟨tb_in 137 rfl rfl, tb_in 138 rfl rfl, tb_in 105 rfl rfl⟩
set_option maxRecDepth 100000 in
theorem nlX11_11 : Cond.methodLinkNest RX11 11 yX6_init RX11 ∈ nstL := List.mem_of_getElem? (i := 0) rfl
set_option maxRecDepth 100000 in
theorem flX11_12 : FLk RX11 12 11 0 2 true := ⟨(RX11, TX11, 15), rfl, by decide, tb_in 510 rfl rfl, rfl, rfl⟩
set_option maxRecDepth 100000 in
theorem nwX11_16 : Cond.classLink RX11 16 RX4 ∈ TB ∧ Cond.instantiable RX4 4 ∈ TB ∧ Cond.initialized RX4 ∈ TB := ⟨tb_in 291 rfl rfl, tb_in 292 rfl rfl, tb_in 108 rfl rfl⟩
set_option maxRecDepth 100000 in
theorem nlX11_18 : Cond.methodLinkNest RX11 18 yX4_init RX11 ∈ nstL := List.mem_of_getElem? (i := 3) rfl
set_option maxRecDepth 100000 in
theorem flX11_19 : FLk RX11 19 11 1 2 true := ⟨(RX11, TX11, 15), rfl, by decide, tb_in 511 rfl rfl, rfl, rfl⟩
set_option maxRecDepth 100000 in
theorem flX11_23 : FLk RX11 23 11 2 2 true := ⟨(RX11, TX11, 15), rfl, by decide, tb_in 512 rfl rfl, rfl, rfl⟩
set_option maxRecDepth 100000 in
theorem flX11_26 : FLk RX11 26 11 3 2 true := ⟨(RX11, TX11, 15), rfl, by decide, tb_in 513 rfl rfl, rfl, rfl⟩
set_option maxRecDepth 100000 in
theorem flX11_30 : FLk RX11 30 11 4 2 true := ⟨(RX11, TX11, 15), rfl, by decide, tb_in 514 rfl rfl, rfl, rfl⟩
set_option maxRecDepth 100000 in
theorem flX11_33 : FLk RX11 33 11 5 3 false := ⟨(RX11, TX11, 15), rfl, by decide, tb_in 515 rfl rfl, rfl, rfl⟩
set_option maxRecDepth 100000 in
theorem flX11_37 : FLk RX11 37 11 6 0 false := ⟨(RX11, TX11, 15), rfl, by decide, tb_in 516 rfl rfl, rfl, rfl⟩
set_option maxRecDepth 100000 in
theorem nwX11_41 : Cond.classLink RX11 41 RX5 ∈ TB ∧ Cond.instantiable RX5 5 ∈ TB ∧ Cond.initialized RX5 ∈ TB := ⟨tb_in 355 rfl rfl, tb_in 356 rfl rfl, tb_in 110 rfl rfl⟩
set_option maxRecDepth 100000 in
theorem flX11_43 : FLk RX11 43 4 0 2 false := ⟨(RX4, TX4, 4), rfl, by decide, tb_in 339 rfl rfl, rfl, rfl⟩
set_option maxRecDepth 100000 in
theorem mlX11_47 : Cond.methodLink RX11 47 yX5_init ∈ TB := tb_in 357 rfl rfl
set_option maxRecDepth 100000 in
theorem flX11_50 : FLk RX11 50 11 7 2 true := ⟨(RX11, TX11, 15), rfl, by decide, tb_in 517 rfl rfl, rfl, rfl⟩
set_option maxRecDepth 100000 in
theorem nwX11_54 : Cond.classLink RX11 54 RX10 ∈ TB ∧ Cond.instantiable RX10 5 ∈ TB ∧ Cond.initialized RX10 ∈ TB := ⟨tb_in 381 rfl rfl, tb_in 382 rfl rfl, tb_in 111 rfl rfl⟩
set_option maxRecDepth 100000 in
theorem mlX11_56 : Cond.methodLink RX11 56 yX10_init ∈ TB := tb_in 383 rfl rfl
set_option maxRecDepth 100000 in
theorem flX11_59 : FLk RX11 59 11 8 2 true := ⟨(RX11, TX11, 15), rfl, by decide, tb_in 518 rfl rfl, rfl, rfl⟩
set_option maxRecDepth 100000 in
theorem nwX11_63 : Cond.classLink RX11 63 RX3 ∈ TB ∧ Cond.instantiable RX3 7 ∈ TB ∧ Cond.initialized RX3 ∈ TB := ⟨tb_in 423 rfl rfl, tb_in 424 rfl rfl, tb_in 113 rfl rfl⟩
set_option maxRecDepth 100000 in
theorem mlX11_65 : Cond.methodLink RX11 65 yX3_init ∈ TB := tb_in 425 rfl rfl
set_option maxRecDepth 100000 in
theorem flX11_68 : FLk RX11 68 11 9 2 true := ⟨(RX11, TX11, 15), rfl, by decide, tb_in 519 rfl rfl, rfl, rfl⟩
set_option maxRecDepth 100000 in
theorem nwX11_72 : Cond.classLink RX11 72 RX7 ∈ TB ∧ Cond.instantiable RX7 5 ∈ TB ∧ Cond.initialized RX7 ∈ TB := ⟨tb_in 458 rfl rfl, tb_in 459 rfl rfl, tb_in 114 rfl rfl⟩
set_option maxRecDepth 100000 in
theorem mlX11_74 : Cond.methodLink RX11 74 yX7_init ∈ TB := tb_in 460 rfl rfl
set_option maxRecDepth 100000 in
theorem flX11_75 : FLk RX11 75 11 10 2 true := ⟨(RX11, TX11, 15), rfl, by decide, tb_in 520 rfl rfl, rfl, rfl⟩
set_option maxRecDepth 100000 in
theorem nwX11_79 : Cond.classLink RX11 79 RX2 ∈ TB ∧ Cond.instantiable RX2 6 ∈ TB ∧ Cond.initialized RX2 ∈ TB := ⟨tb_in 481 rfl rfl, tb_in 482 rfl rfl, tb_in 115 rfl rfl⟩
set_option maxRecDepth 100000 in
theorem mlX11_81 : Cond.methodLink RX11 81 yX2_init ∈ TB := tb_in 483 rfl rfl
set_option maxRecDepth 100000 in
theorem flX11_82 : FLk RX11 82 11 11 2 true := ⟨(RX11, TX11, 15), rfl, by decide, tb_in 521 rfl rfl, rfl, rfl⟩
set_option maxRecDepth 100000 in
theorem nwX11_86 : Cond.classLink RX11 86 RX9 ∈ TB ∧ Cond.instantiable RX9 4 ∈ TB ∧ Cond.initialized RX9 ∈ TB := ⟨tb_in 508 rfl rfl, tb_in 150 rfl rfl, tb_in 107 rfl rfl⟩
set_option maxRecDepth 100000 in
theorem nlX11_88 : Cond.methodLinkNest RX11 88 yX9_init RX11 ∈ nstL := List.mem_of_getElem? (i := 6) rfl
set_option maxRecDepth 100000 in
theorem flX11_89 : FLk RX11 89 11 12 2 true := ⟨(RX11, TX11, 15), rfl, by decide, tb_in 522 rfl rfl, rfl, rfl⟩
set_option maxRecDepth 100000 in
theorem flX11_93 : FLk RX11 93 11 13 0 false := ⟨(RX11, TX11, 15), rfl, by decide, tb_in 523 rfl rfl, rfl, rfl⟩
set_option maxRecDepth 100000 in
theorem flX11_96 : FLk RX11 96 11 14 0 false := ⟨(RX11, TX11, 15), rfl, by decide, tb_in 524 rfl rfl, rfl, rfl⟩
set_option maxRecDepth 100000 in
theorem nlX6_53 : Cond.methodLinkNest RX6 53 yX11_put RX11 ∈ nstL := List.mem_of_getElem? (i := 7) rfl
set_option maxRecDepth 100000 in
theorem flX11_99 : FLk RX11 99 6 1 0 false := ⟨(RX6, TX6, 12), rfl, by decide, tb_in 253 rfl rfl, rfl, rfl⟩
set_option maxRecDepth 100000 in
theorem mlX11_102 : Cond.methodLink RX11 102 yX6_take ∈ TB := tb_in 560 rfl rfl
set_option maxRecDepth 100000 in
theorem xt_219 : XT 219 0 := ⟨tb_in 603 rfl rfl, tb_in 120 rfl rfl, xg_0, xw_0, xo_0, by decide +kernel⟩
set_option maxRecDepth 100000 in
theorem mlX11_134 : Cond.methodLink RX11 134 yX11_askKnown ∈ TB := tb_in 600 rfl rfl
set_option maxRecDepth 100000 in
theorem xt_332 : XT 332 1 := ⟨tb_in 673 rfl rfl, tb_in 121 rfl rfl, xg_1, xw_1, xo_1, by decide +kernel⟩
set_option maxRecDepth 100000 in
theorem mlX9_24 : Cond.methodLink RX9 24 yX9_become ∈ TB := tb_in 701 rfl rfl
set_option maxRecDepth 100000 in
theorem mlX8_56 : Cond.methodLink RX8 56 yX9_clear ∈ TB := tb_in 697 rfl rfl
set_option maxRecDepth 100000 in
theorem nlX6_206 : Cond.methodLinkNest RX6 206 yX11_at RX11 ∈ nstL := List.mem_of_getElem? (i := 9) rfl
set_option maxRecDepth 100000 in
theorem mlX6_220 : Cond.methodLink RX6 220 yX6_isDigit ∈ TB := tb_in 718 rfl rfl
set_option maxRecDepth 100000 in
theorem mlX6_217 : Cond.methodLink RX6 217 yX6_isLetter ∈ TB := tb_in 715 rfl rfl
set_option maxRecDepth 100000 in
theorem mlX6_226 : Cond.methodLink RX6 226 yX6_isSign ∈ TB := tb_in 725 rfl rfl
set_option maxRecDepth 100000 in
theorem mlX6_223 : Cond.methodLink RX6 223 yX6_readNumber ∈ TB := tb_in 721 rfl rfl
set_option maxRecDepth 100000 in
theorem mlX6_214 : Cond.methodLink RX6 214 yX6_isBlank ∈ TB := tb_in 712 rfl rfl
set_option maxRecDepth 100000 in
theorem mlX6_201 : Cond.methodLink RX6 201 yJ0_length_8abf5 ∈ TB := tb_in 737 rfl rfl
set_option maxRecDepth 100000 in
theorem mlX6_210 : Cond.methodLink RX6 210 yJ0_charAt_5068e ∈ TB := tb_in 747 rfl rfl
set_option maxRecDepth 100000 in
theorem mlX6_114 : Cond.methodLink RX6 114 yX6_refuse ∈ TB := tb_in 789 rfl rfl
set_option maxRecDepth 100000 in
theorem mlX6_60 : Cond.methodLink RX6 60 yX6_advance ∈ TB := tb_in 705 rfl rfl
set_option maxRecDepth 100000 in
theorem mlX6_69 : Cond.methodLink RX6 69 yX6_isWord ∈ TB := tb_in 733 rfl rfl
set_option maxRecDepth 100000 in
theorem nlX8_71 : Cond.methodLinkNest RX8 71 yX11_put RX11 ∈ nstL := List.mem_of_getElem? (i := 10) rfl
set_option maxRecDepth 100000 in
theorem mlX8_75 : Cond.methodLink RX8 75 yX8_add ∈ TB := tb_in 852 rfl rfl
set_option maxRecDepth 100000 in
theorem mlX6_143 : Cond.methodLink RX6 143 yX6_either ∈ TB := tb_in 804 rfl rfl
set_option maxRecDepth 100000 in
theorem mlX6_117 : Cond.methodLink RX6 117 yX6_sign ∈ TB := tb_in 833 rfl rfl
set_option maxRecDepth 100000 in
theorem mlX6_189 : Cond.methodLink RX6 189 yX6_valueAsked ∈ TB := tb_in 837 rfl rfl
set_option maxRecDepth 100000 in
theorem mlX6_193 : Cond.methodLink RX6 193 yX8_addValue ∈ TB := tb_in 848 rfl rfl
set_option maxRecDepth 100000 in
theorem mlX6_123 : Cond.methodLink RX6 123 yX6_numberFrom ∈ TB := tb_in 793 rfl rfl
set_option maxRecDepth 100000 in
theorem mlX6_166 : Cond.methodLink RX6 166 yX8_add ∈ TB := tb_in 857 rfl rfl
set_option maxRecDepth 100000 in
theorem mlX6_186 : Cond.methodLink RX6 186 yX6_part ∈ TB := tb_in 829 rfl rfl
set_option maxRecDepth 100000 in
theorem mlX6_183 : Cond.methodLink RX6 183 yX6_product ∈ TB := tb_in 825 rfl rfl
set_option maxRecDepth 100000 in
theorem mlX6_180 : Cond.methodLink RX6 180 yX6_sum ∈ TB := tb_in 821 rfl rfl
set_option maxRecDepth 100000 in
theorem mlX6_177 : Cond.methodLink RX6 177 yX6_test ∈ TB := tb_in 817 rfl rfl
set_option maxRecDepth 100000 in
theorem mlX6_170 : Cond.methodLink RX6 170 yX6_negation ∈ TB := tb_in 812 rfl rfl
set_option maxRecDepth 100000 in
theorem mlX6_161 : Cond.methodLink RX6 161 yX6_both ∈ TB := tb_in 808 rfl rfl
set_option maxRecDepth 100000 in
theorem nlX8_79 : Cond.methodLinkNest RX8 79 yX11_at RX11 ∈ nstL := List.mem_of_getElem? (i := 11) rfl
set_option maxRecDepth 100000 in
theorem flX6_120 : FLk RX6 120 8 0 0 false := ⟨(RX8, TX8, 13), rfl, by decide, tb_in 186 rfl rfl, rfl, rfl⟩
set_option maxRecDepth 100000 in
theorem flX6_127 : FLk RX6 127 8 7 2 true := ⟨(RX8, TX8, 13), rfl, by decide, tb_in 205 rfl rfl, rfl, rfl⟩
set_option maxRecDepth 100000 in
theorem mlX6_132 : Cond.methodLink RX6 132 yX6_word ∈ TB := tb_in 798 rfl rfl
set_option maxRecDepth 100000 in
theorem flX6_135 : FLk RX6 135 8 8 2 true := ⟨(RX8, TX8, 13), rfl, by decide, tb_in 209 rfl rfl, rfl, rfl⟩
set_option maxRecDepth 100000 in
theorem flX6_139 : FLk RX6 139 8 9 2 true := ⟨(RX8, TX8, 13), rfl, by decide, tb_in 213 rfl rfl, rfl, rfl⟩
set_option maxRecDepth 100000 in
theorem mlX6_146 : Cond.methodLink RX6 146 yX8_closeSort ∈ TB := tb_in 860 rfl rfl
set_option maxRecDepth 100000 in
theorem flX6_149 : FLk RX6 149 8 2 0 false := ⟨(RX8, TX8, 13), rfl, by decide, tb_in 194 rfl rfl, rfl, rfl⟩
set_option maxRecDepth 100000 in
theorem flX6_92 : FLk RX6 92 8 12 2 true := ⟨(RX8, TX8, 13), rfl, by decide, tb_in 222 rfl rfl, rfl, rfl⟩
set_option maxRecDepth 100000 in
theorem flX6_151 : FLk RX6 151 9 0 0 false := ⟨(RX9, TX9, 4), rfl, by decide, tb_in 158 rfl rfl, rfl, rfl⟩
set_option maxRecDepth 100000 in
theorem flX6_153 : FLk RX6 153 9 3 0 false := ⟨(RX9, TX9, 4), rfl, by decide, tb_in 171 rfl rfl, rfl, rfl⟩
set_option maxRecDepth 100000 in
theorem flX6_155 : FLk RX6 155 8 3 0 false := ⟨(RX8, TX8, 13), rfl, by decide, tb_in 197 rfl rfl, rfl, rfl⟩
set_option maxRecDepth 100000 in
theorem flX6_158 : FLk RX6 158 8 4 0 false := ⟨(RX8, TX8, 13), rfl, by decide, tb_in 200 rfl rfl, rfl, rfl⟩
set_option maxRecDepth 100000 in
theorem mlX6_78 : Cond.methodLink RX6 78 yX6_once ∈ TB := tb_in 866 rfl rfl
set_option maxRecDepth 100000 in
theorem mlX6_111 : Cond.methodLink RX6 111 yX6_thiefClause ∈ TB := tb_in 883 rfl rfl
set_option maxRecDepth 100000 in
theorem mlX6_106 : Cond.methodLink RX6 106 yX6_leastClause ∈ TB := tb_in 878 rfl rfl
set_option maxRecDepth 100000 in
theorem flX6_102 : FLk RX6 102 9 2 0 false := ⟨(RX9, TX9, 4), rfl, by decide, tb_in 167 rfl rfl, rfl, rfl⟩
set_option maxRecDepth 100000 in
theorem flX6_96 : FLk RX6 96 9 1 0 false := ⟨(RX9, TX9, 4), rfl, by decide, tb_in 162 rfl rfl, rfl, rfl⟩
set_option maxRecDepth 100000 in
theorem mlX6_87 : Cond.methodLink RX6 87 yX6_cardClause ∈ TB := tb_in 874 rfl rfl
set_option maxRecDepth 100000 in
theorem mlX6_82 : Cond.methodLink RX6 82 yX6_sightClause ∈ TB := tb_in 870 rfl rfl
set_option maxRecDepth 100000 in
theorem mlX6_73 : Cond.methodLink RX6 73 yX6_sortClause ∈ TB := tb_in 785 rfl rfl
set_option maxRecDepth 100000 in
theorem mlX6_63 : Cond.methodLink RX6 63 yX6_clause ∈ TB := tb_in 728 rfl rfl
set_option maxRecDepth 100000 in
theorem mlX6_57 : Cond.methodLink RX6 57 yX8_clear ∈ TB := tb_in 693 rfl rfl
set_option maxRecDepth 100000 in
theorem mlX11_138 : Cond.methodLink RX11 138 yX11_at ∈ TB := tb_in 891 rfl rfl
set_option maxRecDepth 100000 in
theorem mlX11_321 : Cond.methodLink RX11 321 yX11_put ∈ TB := tb_in 892 rfl rfl
set_option maxRecDepth 100000 in
theorem mlX0_34 : Cond.methodLink RX0 34 yX0_beginAt ∈ TB := tb_in 897 rfl rfl
set_option maxRecDepth 100000 in
theorem mlX0_38 : Cond.methodLink RX0 38 yJ7_fill_53178 ∈ TB := tb_in 901 rfl rfl
set_option maxRecDepth 100000 in
theorem flX11_124 : FLk RX11 124 6 3 2 false := ⟨(RX6, TX6, 12), rfl, by decide, tb_in 257 rfl rfl, rfl, rfl⟩
set_option maxRecDepth 100000 in
theorem flX11_125 : FLk RX11 125 4 1 2 true := ⟨(RX4, TX4, 4), rfl, by decide, tb_in 341 rfl rfl, rfl, rfl⟩
set_option maxRecDepth 100000 in
theorem mlX11_129 : Cond.methodLink RX11 129 yX0_clear ∈ TB := tb_in 893 rfl rfl
set_option maxRecDepth 100000 in
theorem mlX11_121 : Cond.methodLink RX11 121 yX11_refused ∈ TB := tb_in 887 rfl rfl
set_option maxRecDepth 100000 in
theorem mlX11_106 : Cond.methodLink RX11 106 yX11_gateOf ∈ TB := tb_in 596 rfl rfl
set_option maxRecDepth 100000 in
theorem mlX11_110 : Cond.methodLink RX11 110 yX11_askRange ∈ TB := tb_in 670 rfl rfl
set_option maxRecDepth 100000 in
theorem mlX11_114 : Cond.methodLink RX11 114 yX6_read ∈ TB := tb_in 689 rfl rfl
set_option maxRecDepth 100000 in
theorem flX11_118 : FLk RX11 118 6 2 0 false := ⟨(RX6, TX6, 12), rfl, by decide, tb_in 255 rfl rfl, rfl, rfl⟩
set_option maxRecDepth 100000 in
theorem flX8_59 : FLk RX8 59 9 0 0 false := ⟨(RX9, TX9, 4), rfl, by decide, tb_in 156 rfl rfl, rfl, rfl⟩
set_option maxRecDepth 100000 in
theorem flX8_62 : FLk RX8 62 9 1 0 false := ⟨(RX9, TX9, 4), rfl, by decide, tb_in 161 rfl rfl, rfl, rfl⟩
set_option maxRecDepth 100000 in
theorem flX8_65 : FLk RX8 65 9 2 0 false := ⟨(RX9, TX9, 4), rfl, by decide, tb_in 166 rfl rfl, rfl, rfl⟩
set_option maxRecDepth 100000 in
theorem flX8_68 : FLk RX8 68 9 3 0 false := ⟨(RX9, TX9, 4), rfl, by decide, tb_in 169 rfl rfl, rfl, rfl⟩
set_option maxRecDepth 100000 in
theorem mlX11_147 : Cond.methodLink RX11 147 yX0_told ∈ TB := tb_in 922 rfl rfl
set_option maxRecDepth 100000 in
theorem mlX11_142 : Cond.methodLink RX11 142 yX8_told ∈ TB := tb_in 918 rfl rfl
set_option maxRecDepth 100000 in
theorem flX11_148 : FLk RX11 148 8 0 0 false := ⟨(RX8, TX8, 13), rfl, by decide, tb_in 188 rfl rfl, rfl, rfl⟩
set_option maxRecDepth 100000 in
theorem flX11_151 : FLk RX11 151 8 7 2 true := ⟨(RX8, TX8, 13), rfl, by decide, tb_in 206 rfl rfl, rfl, rfl⟩
set_option maxRecDepth 100000 in
theorem flX11_154 : FLk RX11 154 8 8 2 true := ⟨(RX8, TX8, 13), rfl, by decide, tb_in 210 rfl rfl, rfl, rfl⟩
set_option maxRecDepth 100000 in
theorem flX11_157 : FLk RX11 157 8 9 2 true := ⟨(RX8, TX8, 13), rfl, by decide, tb_in 214 rfl rfl, rfl, rfl⟩
set_option maxRecDepth 100000 in
theorem mlX5_32 : Cond.methodLink RX5 32 yJ7_fill_53178 ∈ TB := tb_in 948 rfl rfl
set_option maxRecDepth 100000 in
theorem nlX5_63 : Cond.methodLinkNest RX5 63 yX11_put RX11 ∈ nstL := List.mem_of_getElem? (i := 13) rfl
set_option maxRecDepth 100000 in
theorem flX5_79 : FLk RX5 79 9 1 0 false := ⟨(RX9, TX9, 4), rfl, by decide, tb_in 163 rfl rfl, rfl, rfl⟩
set_option maxRecDepth 100000 in
theorem flX5_38 : FLk RX5 38 9 2 0 false := ⟨(RX9, TX9, 4), rfl, by decide, tb_in 165 rfl rfl, rfl, rfl⟩
set_option maxRecDepth 100000 in
theorem flX5_82 : FLk RX5 82 9 3 0 false := ⟨(RX9, TX9, 4), rfl, by decide, tb_in 170 rfl rfl, rfl, rfl⟩
set_option maxRecDepth 100000 in
theorem flX5_76 : FLk RX5 76 9 0 0 false := ⟨(RX9, TX9, 4), rfl, by decide, tb_in 157 rfl rfl, rfl, rfl⟩
set_option maxRecDepth 100000 in
theorem mlX5_73 : Cond.methodLink RX5 73 yX8_meanOf ∈ TB := tb_in 959 rfl rfl
set_option maxRecDepth 100000 in
theorem flX5_67 : FLk RX5 67 8 9 2 true := ⟨(RX8, TX8, 13), rfl, by decide, tb_in 212 rfl rfl, rfl, rfl⟩
set_option maxRecDepth 100000 in
theorem nlX5_44 : Cond.methodLinkNest RX5 44 yX11_at RX11 ∈ nstL := List.mem_of_getElem? (i := 12) rfl
set_option maxRecDepth 100000 in
theorem flX5_70 : FLk RX5 70 8 8 2 true := ⟨(RX8, TX8, 13), rfl, by decide, tb_in 208 rfl rfl, rfl, rfl⟩
set_option maxRecDepth 100000 in
theorem flX5_85 : FLk RX5 85 8 11 2 true := ⟨(RX8, TX8, 13), rfl, by decide, tb_in 218 rfl rfl, rfl, rfl⟩
set_option maxRecDepth 100000 in
theorem mlX5_88 : Cond.methodLink RX5 88 yX5_joined ∈ TB := tb_in 967 rfl rfl
set_option maxRecDepth 100000 in
theorem mlX5_48 : Cond.methodLink RX5 48 yX5_look ∈ TB := tb_in 954 rfl rfl
set_option maxRecDepth 100000 in
theorem flX5_52 : FLk RX5 52 8 10 2 true := ⟨(RX8, TX8, 13), rfl, by decide, tb_in 216 rfl rfl, rfl, rfl⟩
set_option maxRecDepth 100000 in
theorem mlX5_55 : Cond.methodLink RX5 55 yX5_worked ∈ TB := tb_in 963 rfl rfl
set_option maxRecDepth 100000 in
theorem mlX5_59 : Cond.methodLink RX5 59 yX5_kept ∈ TB := tb_in 970 rfl rfl
set_option maxRecDepth 100000 in
theorem mlX11_160 : Cond.methodLink RX11 160 yX8_states ∈ TB := tb_in 940 rfl rfl
set_option maxRecDepth 100000 in
theorem flX11_164 : FLk RX11 164 8 12 2 true := ⟨(RX8, TX8, 13), rfl, by decide, tb_in 223 rfl rfl, rfl, rfl⟩
set_option maxRecDepth 100000 in
theorem mlX11_167 : Cond.methodLink RX11 167 yX5_begin ∈ TB := tb_in 944 rfl rfl
set_option maxRecDepth 100000 in
theorem mlX11_171 : Cond.methodLink RX11 171 yX5_giftAt ∈ TB := tb_in 949 rfl rfl
set_option maxRecDepth 100000 in
theorem mlX11_175 : Cond.methodLink RX11 175 yX8_stateBehind ∈ TB := tb_in 981 rfl rfl
set_option maxRecDepth 100000 in
theorem mlX11_179 : Cond.methodLink RX11 179 yX0_beginAt ∈ TB := tb_in 992 rfl rfl
set_option maxRecDepth 100000 in
theorem mlX11_182 : Cond.methodLink RX11 182 yX9_become ∈ TB := tb_in 1000 rfl rfl
set_option maxRecDepth 100000 in
theorem nlX1_20 : Cond.methodLinkNest RX1 20 yX11_at RX11 ∈ nstL := List.mem_of_getElem? (i := 14) rfl
set_option maxRecDepth 100000 in
theorem nlX1_26 : Cond.methodLinkNest RX1 26 yX11_put RX11 ∈ nstL := List.mem_of_getElem? (i := 15) rfl
set_option maxRecDepth 100000 in
theorem mlX10_34 : Cond.methodLink RX10 34 yX1_clear ∈ TB := tb_in 1016 rfl rfl
set_option maxRecDepth 100000 in
theorem ccX10_37 : Cond.constant RX10 37 (1000000000 : Int32) ∈ TB := tb_in 1022 rfl rfl
set_option maxRecDepth 100000 in
theorem mlX10_38 : Cond.methodLink RX10 38 yX1_add ∈ TB := tb_in 1023 rfl rfl
set_option maxRecDepth 100000 in
theorem flX10_48 : FLk RX10 48 8 0 0 false := ⟨(RX8, TX8, 13), rfl, by decide, tb_in 183 rfl rfl, rfl, rfl⟩
set_option maxRecDepth 100000 in
theorem mlX10_80 : Cond.methodLink RX10 80 yX8_partOf ∈ TB := tb_in 1047 rfl rfl
set_option maxRecDepth 100000 in
theorem mlX10_84 : Cond.methodLink RX10 84 yX5_giftAt ∈ TB := tb_in 1051 rfl rfl
set_option maxRecDepth 100000 in
theorem mlX10_87 : Cond.methodLink RX10 87 yX8_stateBehind ∈ TB := tb_in 1052 rfl rfl
set_option maxRecDepth 100000 in
theorem mlX10_77 : Cond.methodLink RX10 77 yX1_amountOf ∈ TB := tb_in 1043 rfl rfl
set_option maxRecDepth 100000 in
theorem flX10_42 : FLk RX10 42 5 0 2 false := ⟨(RX5, TX5, 5), rfl, by decide, tb_in 364 rfl rfl, rfl, rfl⟩
set_option maxRecDepth 100000 in
theorem flX10_67 : FLk RX10 67 1 2 0 false := ⟨(RX1, TX1, 3), rfl, by decide, tb_in 397 rfl rfl, rfl, rfl⟩
set_option maxRecDepth 100000 in
theorem mlX10_70 : Cond.methodLink RX10 70 yX1_placeOf ∈ TB := tb_in 1035 rfl rfl
set_option maxRecDepth 100000 in
theorem mlX10_74 : Cond.methodLink RX10 74 yX10_share ∈ TB := tb_in 1039 rfl rfl
set_option maxRecDepth 100000 in
theorem mlX1_30 : Cond.methodLink RX1 30 yX1_amountOf ∈ TB := tb_in 1057 rfl rfl
set_option maxRecDepth 100000 in
theorem mlX10_54 : Cond.methodLink RX10 54 yX10_comesOne ∈ TB := tb_in 1031 rfl rfl
set_option maxRecDepth 100000 in
theorem mlX10_57 : Cond.methodLink RX10 57 yX1_isLike ∈ TB := tb_in 1053 rfl rfl
set_option maxRecDepth 100000 in
theorem flX11_207 : FLk RX11 207 0 0 0 false := ⟨(RX0, TX0, 7), rfl, by decide, tb_in 307 rfl rfl, rfl, rfl⟩
set_option maxRecDepth 100000 in
theorem mlX11_236 : Cond.methodLink RX11 236 yX10_begin ∈ TB := tb_in 1012 rfl rfl
set_option maxRecDepth 100000 in
theorem mlX11_238 : Cond.methodLink RX11 238 yX10_go ∈ TB := tb_in 1027 rfl rfl
set_option maxRecDepth 100000 in
theorem ccX10_65 : Cond.constantLong RX10 65 (1000000 : Int64) ∈ TB := tb_in 1062 rfl rfl
set_option maxRecDepth 100000 in
theorem mlX11_185 : Cond.methodLink RX11 185 yX11_walkAlong ∈ TB := tb_in 1008 rfl rfl
set_option maxRecDepth 100000 in
theorem mlX11_189 : Cond.methodLink RX11 189 yX10_thousandthsGiven ∈ TB := tb_in 1058 rfl rfl
set_option maxRecDepth 100000 in
theorem mlX11_192 : Cond.methodLink RX11 192 yX10_thousandthsAway ∈ TB := tb_in 1063 rfl rfl
set_option maxRecDepth 100000 in
theorem flX11_195 : FLk RX11 195 10 1 2 false := ⟨(RX10, TX10, 5), rfl, by decide, tb_in 407 rfl rfl, rfl, rfl⟩
set_option maxRecDepth 100000 in
theorem mlX11_199 : Cond.methodLink RX11 199 yX1_amountOf ∈ TB := tb_in 1074 rfl rfl
set_option maxRecDepth 100000 in
theorem mlX10_61 : Cond.methodLink RX10 61 yX10_go ∈ TB := tb_in 1086 rfl rfl
set_option maxRecDepth 100000 in
theorem mlX11_204 : Cond.methodLink RX11 204 yX10_driftOfOneMore ∈ TB := tb_in 1082 rfl rfl
set_option maxRecDepth 100000 in
theorem mlX7_56 : Cond.methodLink RX7 56 yX7_isRow ∈ TB := tb_in 1110 rfl rfl
set_option maxRecDepth 100000 in
theorem flX7_29 : FLk RX7 29 5 0 2 false := ⟨(RX5, TX5, 5), rfl, by decide, tb_in 362 rfl rfl, rfl, rfl⟩
set_option maxRecDepth 100000 in
theorem flX7_62 : FLk RX7 62 8 0 0 false := ⟨(RX8, TX8, 13), rfl, by decide, tb_in 189 rfl rfl, rfl, rfl⟩
set_option maxRecDepth 100000 in
theorem mlX7_65 : Cond.methodLink RX7 65 yX5_giftAt ∈ TB := tb_in 1118 rfl rfl
set_option maxRecDepth 100000 in
theorem mlX7_69 : Cond.methodLink RX7 69 yX8_stateBehind ∈ TB := tb_in 1119 rfl rfl
set_option maxRecDepth 100000 in
theorem mlX7_59 : Cond.methodLink RX7 59 yX7_mark ∈ TB := tb_in 1114 rfl rfl
set_option maxRecDepth 100000 in
theorem mlX7_44 : Cond.methodLink RX7 44 yX7_reaches ∈ TB := tb_in 1120 rfl rfl
set_option maxRecDepth 100000 in
theorem mlX7_48 : Cond.methodLink RX7 48 yX7_reachAsFarAs ∈ TB := tb_in 1124 rfl rfl
set_option maxRecDepth 100000 in
theorem mlX7_40 : Cond.methodLink RX7 40 yX7_link ∈ TB := tb_in 1106 rfl rfl
set_option maxRecDepth 100000 in
theorem mlX7_35 : Cond.methodLink RX7 35 yX8_states ∈ TB := tb_in 1105 rfl rfl
set_option maxRecDepth 100000 in
theorem mlX7_52 : Cond.methodLink RX7 52 yX7_isLeastOfRest ∈ TB := tb_in 1132 rfl rfl
set_option maxRecDepth 100000 in
theorem mlX11_210 : Cond.methodLink RX11 210 yX7_find ∈ TB := tb_in 1101 rfl rfl
set_option maxRecDepth 100000 in
theorem mlX11_213 : Cond.methodLink RX11 213 yX7_howMany ∈ TB := tb_in 1128 rfl rfl
set_option maxRecDepth 100000 in
theorem mlX11_216 : Cond.methodLink RX11 216 yX7_leastOf ∈ TB := tb_in 1136 rfl rfl
set_option maxRecDepth 100000 in
theorem mlX11_226 : Cond.methodLink RX11 226 yX7_sizeFrom ∈ TB := tb_in 1141 rfl rfl
set_option maxRecDepth 100000 in
theorem mlX11_229 : Cond.methodLink RX11 229 yX11_meanFrom ∈ TB := tb_in 1145 rfl rfl
set_option maxRecDepth 100000 in
theorem mlX8_96 : Cond.methodLink RX8 96 yX8_asks ∈ TB := tb_in 1164 rfl rfl
set_option maxRecDepth 100000 in
theorem mlX8_100 : Cond.methodLink RX8 100 yX8_lesserCardIsLike ∈ TB := tb_in 1168 rfl rfl
set_option maxRecDepth 100000 in
theorem mlX11_366 : Cond.methodLink RX11 366 yX8_lesserIsLike ∈ TB := tb_in 1160 rfl rfl
set_option maxRecDepth 100000 in
theorem mlX11_232 : Cond.methodLink RX11 232 yX11_searchSettings ∈ TB := tb_in 1156 rfl rfl
set_option maxRecDepth 100000 in
theorem flX11_245 : FLk RX11 245 9 0 0 false := ⟨(RX9, TX9, 4), rfl, by decide, tb_in 159 rfl rfl, rfl, rfl⟩
set_option maxRecDepth 100000 in
theorem mlX11_248 : Cond.methodLink RX11 248 yX8_lesserCardIsLike ∈ TB := tb_in 1190 rfl rfl
set_option maxRecDepth 100000 in
theorem mlX11_241 : Cond.methodLink RX11 241 yX9_becomeLike ∈ TB := tb_in 1186 rfl rfl
set_option maxRecDepth 100000 in
theorem mlX8_83 : Cond.methodLink RX8 83 yX8_pays ∈ TB := tb_in 1213 rfl rfl
set_option maxRecDepth 100000 in
theorem mlX8_87 : Cond.methodLink RX8 87 yX8_payingOdds ∈ TB := tb_in 1209 rfl rfl
set_option maxRecDepth 100000 in
theorem mlX8_91 : Cond.methodLink RX8 91 yX8_thousandths ∈ TB := tb_in 1217 rfl rfl
set_option maxRecDepth 100000 in
theorem mlX11_369 : Cond.methodLink RX11 369 yX8_pays ∈ TB := tb_in 1225 rfl rfl
set_option maxRecDepth 100000 in
theorem mlX11_265 : Cond.methodLink RX11 265 yX8_thousandths ∈ TB := tb_in 1227 rfl rfl
set_option maxRecDepth 100000 in
theorem mlX11_252 : Cond.methodLink RX11 252 yX8_takenAt ∈ TB := tb_in 1205 rfl rfl
set_option maxRecDepth 100000 in
theorem mlX11_255 : Cond.methodLink RX11 255 yX11_soonerOdds ∈ TB := tb_in 1221 rfl rfl
set_option maxRecDepth 100000 in
theorem flX11_259 : FLk RX11 259 8 1 0 false := ⟨(RX8, TX8, 13), rfl, by decide, tb_in 192 rfl rfl, rfl, rfl⟩
set_option maxRecDepth 100000 in
theorem mlX11_262 : Cond.methodLink RX11 262 yX8_payingOdds ∈ TB := tb_in 1226 rfl rfl
set_option maxRecDepth 100000 in
theorem ccX8_94 : Cond.constantLong RX8 94 (1000000000 : Int64) ∈ TB := tb_in 1246 rfl rfl
set_option maxRecDepth 100000 in
theorem flX11_268 : FLk RX11 268 10 3 1 false := ⟨(RX10, TX10, 5), rfl, by decide, tb_in 410 rfl rfl, rfl, rfl⟩
set_option maxRecDepth 100000 in
theorem mlX11_272 : Cond.methodLink RX11 272 yX8_partsAt ∈ TB := tb_in 1242 rfl rfl
set_option maxRecDepth 100000 in
theorem ccX11_276 : Cond.constantLong RX11 276 (1000000 : Int64) ∈ TB := tb_in 1247 rfl rfl
set_option maxRecDepth 100000 in
theorem flX3_45 : FLk RX3 45 8 12 2 true := ⟨(RX8, TX8, 13), rfl, by decide, tb_in 221 rfl rfl, rfl, rfl⟩
set_option maxRecDepth 100000 in
theorem mlX3_51 : Cond.methodLink RX3 51 yX5_begin ∈ TB := tb_in 1259 rfl rfl
set_option maxRecDepth 100000 in
theorem mlX3_55 : Cond.methodLink RX3 55 yX1_clear ∈ TB := tb_in 1260 rfl rfl
set_option maxRecDepth 100000 in
theorem ccX3_58 : Cond.constant RX3 58 (1000000000 : Int32) ∈ TB := tb_in 1261 rfl rfl
set_option maxRecDepth 100000 in
theorem mlX3_59 : Cond.methodLink RX3 59 yX1_add ∈ TB := tb_in 1262 rfl rfl
set_option maxRecDepth 100000 in
theorem flX3_63 : FLk RX3 63 5 0 2 false := ⟨(RX5, TX5, 5), rfl, by decide, tb_in 365 rfl rfl, rfl, rfl⟩
set_option maxRecDepth 100000 in
theorem flX3_67 : FLk RX3 67 8 0 0 false := ⟨(RX8, TX8, 13), rfl, by decide, tb_in 184 rfl rfl, rfl, rfl⟩
set_option maxRecDepth 100000 in
theorem mlX3_89 : Cond.methodLink RX3 89 yX5_giftAt ∈ TB := tb_in 1274 rfl rfl
set_option maxRecDepth 100000 in
theorem mlX3_92 : Cond.methodLink RX3 92 yX8_stateBehind ∈ TB := tb_in 1275 rfl rfl
set_option maxRecDepth 100000 in
theorem mlX3_96 : Cond.methodLink RX3 96 yX3_goesOn ∈ TB := tb_in 1276 rfl rfl
set_option maxRecDepth 100000 in
theorem mlX3_85 : Cond.methodLink RX3 85 yX8_partOf ∈ TB := tb_in 1273 rfl rfl
set_option maxRecDepth 100000 in
theorem mlX3_82 : Cond.methodLink RX3 82 yX1_amountOf ∈ TB := tb_in 1272 rfl rfl
set_option maxRecDepth 100000 in
theorem flX3_71 : FLk RX3 71 1 2 0 false := ⟨(RX1, TX1, 3), rfl, by decide, tb_in 396 rfl rfl, rfl, rfl⟩
set_option maxRecDepth 100000 in
theorem mlX3_74 : Cond.methodLink RX3 74 yX1_placeOf ∈ TB := tb_in 1267 rfl rfl
set_option maxRecDepth 100000 in
theorem mlX3_78 : Cond.methodLink RX3 78 yX3_share ∈ TB := tb_in 1268 rfl rfl
set_option maxRecDepth 100000 in
theorem mlX11_278 : Cond.methodLink RX11 278 yX3_begin ∈ TB := tb_in 1255 rfl rfl
set_option maxRecDepth 100000 in
theorem mlX11_281 : Cond.methodLink RX11 281 yX3_go ∈ TB := tb_in 1263 rfl rfl
set_option maxRecDepth 100000 in
theorem flX11_282 : FLk RX11 282 3 4 1 false := ⟨(RX3, TX3, 7), rfl, by decide, tb_in 438 rfl rfl, rfl, rfl⟩
set_option maxRecDepth 100000 in
theorem flX11_285 : FLk RX11 285 3 5 1 false := ⟨(RX3, TX3, 7), rfl, by decide, tb_in 440 rfl rfl, rfl, rfl⟩
set_option maxRecDepth 100000 in
theorem flX11_288 : FLk RX11 288 3 6 1 false := ⟨(RX3, TX3, 7), rfl, by decide, tb_in 442 rfl rfl, rfl, rfl⟩
set_option maxRecDepth 100000 in
theorem nlX0_48 : Cond.methodLinkNest RX0 48 yX11_put RX11 ∈ nstL := List.mem_of_getElem? (i := 16) rfl
set_option maxRecDepth 100000 in
theorem mlX4_32 : Cond.methodLink RX4 32 yX0_write ∈ TB := tb_in 1291 rfl rfl
set_option maxRecDepth 100000 in
theorem flX4_36 : FLk RX4 36 0 1 0 false := ⟨(RX0, TX0, 7), rfl, by decide, tb_in 309 rfl rfl, rfl, rfl⟩
set_option maxRecDepth 100000 in
theorem mlX4_39 : Cond.methodLink RX4 39 yX8_stateBehind ∈ TB := tb_in 1296 rfl rfl
set_option maxRecDepth 100000 in
theorem flX11_291 : FLk RX11 291 0 2 0 false := ⟨(RX0, TX0, 7), rfl, by decide, tb_in 312 rfl rfl, rfl, rfl⟩
set_option maxRecDepth 100000 in
theorem mlX11_294 : Cond.methodLink RX11 294 yX4_goOnWith ∈ TB := tb_in 1287 rfl rfl
set_option maxRecDepth 100000 in
theorem flX2_53 : FLk RX2 53 5 0 2 false := ⟨(RX5, TX5, 5), rfl, by decide, tb_in 363 rfl rfl, rfl, rfl⟩
set_option maxRecDepth 100000 in
theorem flX2_64 : FLk RX2 64 8 0 0 false := ⟨(RX8, TX8, 13), rfl, by decide, tb_in 185 rfl rfl, rfl, rfl⟩
set_option maxRecDepth 100000 in
theorem mlX2_67 : Cond.methodLink RX2 67 yX5_giftAt ∈ TB := tb_in 1318 rfl rfl
set_option maxRecDepth 100000 in
theorem flX2_38 : FLk RX2 38 0 5 2 true := ⟨(RX0, TX0, 7), rfl, by decide, tb_in 319 rfl rfl, rfl, rfl⟩
set_option maxRecDepth 100000 in
theorem nlX2_41 : Cond.methodLinkNest RX2 41 yX11_at RX11 ∈ nstL := List.mem_of_getElem? (i := 17) rfl
set_option maxRecDepth 100000 in
theorem nlX2_45 : Cond.methodLinkNest RX2 45 yX11_put RX11 ∈ nstL := List.mem_of_getElem? (i := 18) rfl
set_option maxRecDepth 100000 in
theorem mlX2_49 : Cond.methodLink RX2 49 yX2_whoGives ∈ TB := tb_in 1314 rfl rfl
set_option maxRecDepth 100000 in
theorem mlX2_59 : Cond.methodLink RX2 59 yX8_stateBehind ∈ TB := tb_in 1319 rfl rfl
set_option maxRecDepth 100000 in
theorem flX2_32 : FLk RX2 32 0 2 0 false := ⟨(RX0, TX0, 7), rfl, by decide, tb_in 311 rfl rfl, rfl, rfl⟩
set_option maxRecDepth 100000 in
theorem flX2_35 : FLk RX2 35 0 0 0 false := ⟨(RX0, TX0, 7), rfl, by decide, tb_in 306 rfl rfl, rfl, rfl⟩
set_option maxRecDepth 100000 in
theorem mlX11_364 : Cond.methodLink RX11 364 yX2_read ∈ TB := tb_in 1308 rfl rfl
set_option maxRecDepth 100000 in
theorem mlX11_297 : Cond.methodLink RX11 297 yX11_readClues ∈ TB := tb_in 1304 rfl rfl
set_option maxRecDepth 100000 in
theorem flX11_301 : FLk RX11 301 0 5 2 true := ⟨(RX0, TX0, 7), rfl, by decide, tb_in 320 rfl rfl, rfl, rfl⟩
set_option maxRecDepth 100000 in
theorem flX11_304 : FLk RX11 304 2 1 2 true := ⟨(RX2, TX2, 6), rfl, by decide, tb_in 489 rfl rfl, rfl, rfl⟩
set_option maxRecDepth 100000 in
theorem flX11_306 : FLk RX11 306 2 2 2 true := ⟨(RX2, TX2, 6), rfl, by decide, tb_in 491 rfl rfl, rfl, rfl⟩
set_option maxRecDepth 100000 in
theorem mlX11_309 : Cond.methodLink RX11 309 yX2_howManyWith ∈ TB := tb_in 1327 rfl rfl
set_option maxRecDepth 100000 in
theorem mlX11_312 : Cond.methodLink RX11 312 yX2_howManyBy ∈ TB := tb_in 1331 rfl rfl
set_option maxRecDepth 100000 in
theorem ccJ6_265 : Cond.constant RJ6 265 (1431655765 : Int32) ∈ TB := tb_in 1356 rfl rfl
set_option maxRecDepth 100000 in
theorem ccJ6_266 : Cond.constant RJ6 266 (858993459 : Int32) ∈ TB := tb_in 1357 rfl rfl
set_option maxRecDepth 100000 in
theorem ccJ6_267 : Cond.constant RJ6 267 (252645135 : Int32) ∈ TB := tb_in 1358 rfl rfl
set_option maxRecDepth 100000 in
theorem mlX2_71 : Cond.methodLink RX2 71 yJ6_bitCount_0f7a4 ∈ TB := tb_in 1353 rfl rfl
set_option maxRecDepth 100000 in
theorem mlX2_77 : Cond.methodLink RX2 77 yX2_explainAll ∈ TB := tb_in 1359 rfl rfl
set_option maxRecDepth 100000 in
theorem mlX11_315 : Cond.methodLink RX11 315 yX2_fewestSorts ∈ TB := tb_in 1349 rfl rfl
set_option maxRecDepth 100000 in
theorem flX11_318 : FLk RX11 318 0 6 2 true := ⟨(RX0, TX0, 7), rfl, by decide, tb_in 322 rfl rfl, rfl, rfl⟩
set_option maxRecDepth 100000 in
theorem nlX0_52 : Cond.methodLinkNest RX0 52 yX11_at RX11 ∈ nstL := List.mem_of_getElem? (i := 19) rfl
set_option maxRecDepth 100000 in
theorem mlX2_81 : Cond.methodLink RX2 81 yX0_guessedOdds ∈ TB := tb_in 1386 rfl rfl
set_option maxRecDepth 100000 in
theorem ccX2_93 : Cond.constantLong RX2 93 (1000000 : Int64) ∈ TB := tb_in 1396 rfl rfl
set_option maxRecDepth 100000 in
theorem mlX2_89 : Cond.methodLink RX2 89 yX2_weight ∈ TB := tb_in 1392 rfl rfl
set_option maxRecDepth 100000 in
theorem mlX2_85 : Cond.methodLink RX2 85 yX2_weigh ∈ TB := tb_in 1388 rfl rfl
set_option maxRecDepth 100000 in
theorem ccX2_84 : Cond.constant RX2 84 (1000000 : Int32) ∈ TB := tb_in 1387 rfl rfl
set_option maxRecDepth 100000 in
theorem mlX11_325 : Cond.methodLink RX11 325 yX0_guessedOdds ∈ TB := tb_in 1377 rfl rfl
set_option maxRecDepth 100000 in
theorem mlX11_328 : Cond.methodLink RX11 328 yX2_creditOf ∈ TB := tb_in 1382 rfl rfl
set_option maxRecDepth 100000 in
theorem ccX4_86 : Cond.constant RX4 86 (1103515245 : Int32) ∈ TB := tb_in 1417 rfl rfl
set_option maxRecDepth 100000 in
theorem flX4_75 : FLk RX4 75 8 0 0 false := ⟨(RX8, TX8, 13), rfl, by decide, tb_in 187 rfl rfl, rfl, rfl⟩
set_option maxRecDepth 100000 in
theorem flX4_78 : FLk RX4 78 8 7 2 true := ⟨(RX8, TX8, 13), rfl, by decide, tb_in 204 rfl rfl, rfl, rfl⟩
set_option maxRecDepth 100000 in
theorem nlX4_82 : Cond.methodLinkNest RX4 82 yX11_at RX11 ∈ nstL := List.mem_of_getElem? (i := 20) rfl
set_option maxRecDepth 100000 in
theorem flX4_72 : FLk RX4 72 8 1 0 false := ⟨(RX8, TX8, 13), rfl, by decide, tb_in 191 rfl rfl, rfl, rfl⟩
set_option maxRecDepth 100000 in
theorem mlX4_62 : Cond.methodLink RX4 62 yX4_draw ∈ TB := tb_in 1413 rfl rfl
set_option maxRecDepth 100000 in
theorem mlX4_43 : Cond.methodLink RX4 43 yX4_drawSort ∈ TB := tb_in 1409 rfl rfl
set_option maxRecDepth 100000 in
theorem mlX4_47 : Cond.methodLink RX4 47 yX5_giftAt ∈ TB := tb_in 1419 rfl rfl
set_option maxRecDepth 100000 in
theorem mlX4_53 : Cond.methodLink RX4 53 yX4_goOnWith ∈ TB := tb_in 1420 rfl rfl
set_option maxRecDepth 100000 in
theorem flX4_56 : FLk RX4 56 0 3 0 false := ⟨(RX0, TX0, 7), rfl, by decide, tb_in 314 rfl rfl, rfl, rfl⟩
set_option maxRecDepth 100000 in
theorem flX4_59 : FLk RX4 59 8 4 0 false := ⟨(RX8, TX8, 13), rfl, by decide, tb_in 199 rfl rfl, rfl, rfl⟩
set_option maxRecDepth 100000 in
theorem flX4_66 : FLk RX4 66 8 3 0 false := ⟨(RX8, TX8, 13), rfl, by decide, tb_in 196 rfl rfl, rfl, rfl⟩
set_option maxRecDepth 100000 in
theorem flX4_69 : FLk RX4 69 0 4 0 false := ⟨(RX0, TX0, 7), rfl, by decide, tb_in 317 rfl rfl, rfl, rfl⟩
set_option maxRecDepth 100000 in
theorem mlX11_340 : Cond.methodLink RX11 340 yX4_comesOne ∈ TB := tb_in 1405 rfl rfl
set_option maxRecDepth 100000 in
theorem mlX11_344 : Cond.methodLink RX11 344 yX4_comesThief ∈ TB := tb_in 1421 rfl rfl
set_option maxRecDepth 100000 in
theorem flX11_337 : FLk RX11 337 4 3 0 false := ⟨(RX4, TX4, 4), rfl, by decide, tb_in 345 rfl rfl, rfl, rfl⟩
set_option maxRecDepth 100000 in
theorem flX11_347 : FLk RX11 347 0 3 0 false := ⟨(RX0, TX0, 7), rfl, by decide, tb_in 315 rfl rfl, rfl, rfl⟩
set_option maxRecDepth 100000 in
theorem nlX0_44 : Cond.methodLinkNest RX0 44 yX11_copy RX11 ∈ nstL := List.mem_of_getElem? (i := 8) rfl
set_option maxRecDepth 100000 in
theorem flX11_350 : FLk RX11 350 4 2 2 true := ⟨(RX4, TX4, 4), rfl, by decide, tb_in 343 rfl rfl, rfl, rfl⟩
set_option maxRecDepth 100000 in
theorem mlX11_353 : Cond.methodLink RX11 353 yX0_becomeLike ∈ TB := tb_in 575 rfl rfl
set_option maxRecDepth 100000 in
theorem mlX11_356 : Cond.methodLink RX11 356 yX11_copy ∈ TB := tb_in 582 rfl rfl
set_option maxRecDepth 100000 in
theorem flX12_46 : FLk RX12 46 12 4 2 true := ⟨(RX12, TX12, 58), rfl, by decide, tb_in 1460 rfl rfl, rfl, rfl⟩
set_option maxRecDepth 100000 in
theorem flX12_42 : FLk RX12 42 12 3 2 true := ⟨(RX12, TX12, 58), rfl, by decide, tb_in 1459 rfl rfl, rfl, rfl⟩
set_option maxRecDepth 100000 in
theorem mlX12_155 : Cond.methodLink RX12 155 yX12_atFirst ∈ TB := tb_in 1452 rfl rfl
set_option maxRecDepth 100000 in
theorem oiX12_1 : Cond.methodLink RX12 1 Lib.objectInit ∈ TB := tb_in 1437 rfl rfl
set_option maxRecDepth 100000 in
theorem aoX12_7 : Cond.classLink RX12 7 "java/lang/String" ∈ TB := tb_in 1438 rfl rfl
set_option maxRecDepth 100000 in
theorem flX12_23 : FLk RX12 23 12 0 2 true := ⟨(RX12, TX12, 58), rfl, by decide, tb_in 1456 rfl rfl, rfl, rfl⟩
set_option maxRecDepth 100000 in
theorem flX12_39 : FLk RX12 39 12 1 2 true := ⟨(RX12, TX12, 58), rfl, by decide, tb_in 1457 rfl rfl, rfl, rfl⟩
set_option maxRecDepth 100000 in
theorem flX12_49 : FLk RX12 49 12 5 2 true := ⟨(RX12, TX12, 58), rfl, by decide, tb_in 1461 rfl rfl, rfl, rfl⟩
set_option maxRecDepth 100000 in
theorem flX12_52 : FLk RX12 52 12 6 2 true := ⟨(RX12, TX12, 58), rfl, by decide, tb_in 1462 rfl rfl, rfl, rfl⟩
set_option maxRecDepth 100000 in
theorem flX12_54 : FLk RX12 54 12 7 2 true := ⟨(RX12, TX12, 58), rfl, by decide, tb_in 1463 rfl rfl, rfl, rfl⟩
set_option maxRecDepth 100000 in
theorem flX12_56 : FLk RX12 56 12 8 2 true := ⟨(RX12, TX12, 58), rfl, by decide, tb_in 1464 rfl rfl, rfl, rfl⟩
set_option maxRecDepth 100000 in
theorem flX12_59 : FLk RX12 59 12 9 2 true := ⟨(RX12, TX12, 58), rfl, by decide, tb_in 1465 rfl rfl, rfl, rfl⟩
set_option maxRecDepth 100000 in
theorem flX12_62 : FLk RX12 62 12 10 2 true := ⟨(RX12, TX12, 58), rfl, by decide, tb_in 1466 rfl rfl, rfl, rfl⟩
set_option maxRecDepth 100000 in
theorem flX12_65 : FLk RX12 65 12 11 2 true := ⟨(RX12, TX12, 58), rfl, by decide, tb_in 1467 rfl rfl, rfl, rfl⟩
set_option maxRecDepth 100000 in
theorem flX12_68 : FLk RX12 68 12 12 2 true := ⟨(RX12, TX12, 58), rfl, by decide, tb_in 1468 rfl rfl, rfl, rfl⟩
set_option maxRecDepth 100000 in
theorem flX12_71 : FLk RX12 71 12 13 2 true := ⟨(RX12, TX12, 58), rfl, by decide, tb_in 1469 rfl rfl, rfl, rfl⟩
set_option maxRecDepth 100000 in
theorem flX12_74 : FLk RX12 74 12 14 2 true := ⟨(RX12, TX12, 58), rfl, by decide, tb_in 1470 rfl rfl, rfl, rfl⟩
set_option maxRecDepth 100000 in
theorem flX12_77 : FLk RX12 77 12 15 2 true := ⟨(RX12, TX12, 58), rfl, by decide, tb_in 1471 rfl rfl, rfl, rfl⟩
set_option maxRecDepth 100000 in
theorem flX12_80 : FLk RX12 80 12 16 2 true := ⟨(RX12, TX12, 58), rfl, by decide, tb_in 1472 rfl rfl, rfl, rfl⟩
set_option maxRecDepth 100000 in
theorem flX12_83 : FLk RX12 83 12 17 2 true := ⟨(RX12, TX12, 58), rfl, by decide, tb_in 1473 rfl rfl, rfl, rfl⟩
set_option maxRecDepth 100000 in
theorem flX12_86 : FLk RX12 86 12 18 2 true := ⟨(RX12, TX12, 58), rfl, by decide, tb_in 1474 rfl rfl, rfl, rfl⟩
set_option maxRecDepth 100000 in
theorem flX12_89 : FLk RX12 89 12 19 2 true := ⟨(RX12, TX12, 58), rfl, by decide, tb_in 1475 rfl rfl, rfl, rfl⟩
set_option maxRecDepth 100000 in
theorem flX12_92 : FLk RX12 92 12 29 0 false := ⟨(RX12, TX12, 58), rfl, by decide, tb_in 1485 rfl rfl, rfl, rfl⟩
set_option maxRecDepth 100000 in
theorem flX12_96 : FLk RX12 96 12 31 2 true := ⟨(RX12, TX12, 58), rfl, by decide, tb_in 1487 rfl rfl, rfl, rfl⟩
set_option maxRecDepth 100000 in
theorem flX12_99 : FLk RX12 99 12 32 2 true := ⟨(RX12, TX12, 58), rfl, by decide, tb_in 1488 rfl rfl, rfl, rfl⟩
set_option maxRecDepth 100000 in
theorem flX12_103 : FLk RX12 103 12 33 2 true := ⟨(RX12, TX12, 58), rfl, by decide, tb_in 1489 rfl rfl, rfl, rfl⟩
set_option maxRecDepth 100000 in
theorem flX12_106 : FLk RX12 106 12 34 2 true := ⟨(RX12, TX12, 58), rfl, by decide, tb_in 1490 rfl rfl, rfl, rfl⟩
set_option maxRecDepth 100000 in
theorem ac_3 : Cond.arrayClass .boolean ∈ TB := tb_in 1631 rfl rfl
set_option maxRecDepth 100000 in
theorem flX12_109 : FLk RX12 109 12 38 2 true := ⟨(RX12, TX12, 58), rfl, by decide, tb_in 1494 rfl rfl, rfl, rfl⟩
set_option maxRecDepth 100000 in
theorem flX12_113 : FLk RX12 113 12 39 2 true := ⟨(RX12, TX12, 58), rfl, by decide, tb_in 1495 rfl rfl, rfl, rfl⟩
set_option maxRecDepth 100000 in
theorem flX12_116 : FLk RX12 116 12 40 2 true := ⟨(RX12, TX12, 58), rfl, by decide, tb_in 1496 rfl rfl, rfl, rfl⟩
set_option maxRecDepth 100000 in
theorem flX12_119 : FLk RX12 119 12 41 2 true := ⟨(RX12, TX12, 58), rfl, by decide, tb_in 1497 rfl rfl, rfl, rfl⟩
set_option maxRecDepth 100000 in
theorem flX12_122 : FLk RX12 122 12 42 2 true := ⟨(RX12, TX12, 58), rfl, by decide, tb_in 1498 rfl rfl, rfl, rfl⟩
set_option maxRecDepth 100000 in
theorem flX12_125 : FLk RX12 125 12 46 2 true := ⟨(RX12, TX12, 58), rfl, by decide, tb_in 1502 rfl rfl, rfl, rfl⟩
set_option maxRecDepth 100000 in
theorem flX12_128 : FLk RX12 128 12 47 2 true := ⟨(RX12, TX12, 58), rfl, by decide, tb_in 1503 rfl rfl, rfl, rfl⟩
set_option maxRecDepth 100000 in
theorem flX12_131 : FLk RX12 131 12 50 2 true := ⟨(RX12, TX12, 58), rfl, by decide, tb_in 1506 rfl rfl, rfl, rfl⟩
set_option maxRecDepth 100000 in
theorem flX12_134 : FLk RX12 134 12 51 2 true := ⟨(RX12, TX12, 58), rfl, by decide, tb_in 1507 rfl rfl, rfl, rfl⟩
set_option maxRecDepth 100000 in
theorem flX12_137 : FLk RX12 137 12 52 2 true := ⟨(RX12, TX12, 58), rfl, by decide, tb_in 1508 rfl rfl, rfl, rfl⟩
set_option maxRecDepth 100000 in
theorem flX12_140 : FLk RX12 140 12 53 2 true := ⟨(RX12, TX12, 58), rfl, by decide, tb_in 1509 rfl rfl, rfl, rfl⟩
set_option maxRecDepth 100000 in
theorem flX12_143 : FLk RX12 143 12 54 2 true := ⟨(RX12, TX12, 58), rfl, by decide, tb_in 1510 rfl rfl, rfl, rfl⟩
set_option maxRecDepth 100000 in
theorem flX12_146 : FLk RX12 146 12 55 2 true := ⟨(RX12, TX12, 58), rfl, by decide, tb_in 1511 rfl rfl, rfl, rfl⟩
set_option maxRecDepth 100000 in
theorem flX12_149 : FLk RX12 149 12 56 2 true := ⟨(RX12, TX12, 58), rfl, by decide, tb_in 1512 rfl rfl, rfl, rfl⟩
set_option maxRecDepth 100000 in
theorem flX12_152 : FLk RX12 152 12 57 2 true := ⟨(RX12, TX12, 58), rfl, by decide, tb_in 1513 rfl rfl, rfl, rfl⟩
set_option maxRecDepth 100000 in
theorem flX12_159 : FLk RX12 159 12 2 0 false := ⟨(RX12, TX12, 58), rfl, by decide, tb_in 1458 rfl rfl, rfl, rfl⟩
set_option maxRecDepth 100000 in
theorem mlX12_162 : Cond.methodLink RX12 162 yX12_isIn ∈ TB := tb_in 1647 rfl rfl
set_option maxRecDepth 100000 in
theorem mlX12_166 : Cond.methodLink RX12 166 yX12_isGate ∈ TB := tb_in 1644 rfl rfl
set_option maxRecDepth 100000 in
theorem mlX12_170 : Cond.methodLink RX12 170 yX12_statesOf ∈ TB := tb_in 1780 rfl rfl
set_option maxRecDepth 100000 in
theorem flX12_174 : FLk RX12 174 12 20 0 false := ⟨(RX12, TX12, 58), rfl, by decide, tb_in 1476 rfl rfl, rfl, rfl⟩
set_option maxRecDepth 100000 in
theorem flX12_177 : FLk RX12 177 12 22 0 false := ⟨(RX12, TX12, 58), rfl, by decide, tb_in 1478 rfl rfl, rfl, rfl⟩
set_option maxRecDepth 100000 in
theorem flX12_180 : FLk RX12 180 12 21 0 false := ⟨(RX12, TX12, 58), rfl, by decide, tb_in 1477 rfl rfl, rfl, rfl⟩
set_option maxRecDepth 100000 in
theorem flX12_210 : FLk RX12 210 12 26 0 false := ⟨(RX12, TX12, 58), rfl, by decide, tb_in 1482 rfl rfl, rfl, rfl⟩
set_option maxRecDepth 100000 in
theorem flX12_189 : FLk RX12 189 12 23 0 false := ⟨(RX12, TX12, 58), rfl, by decide, tb_in 1479 rfl rfl, rfl, rfl⟩
set_option maxRecDepth 100000 in
theorem mlX12_183 : Cond.methodLink RX12 183 yX12_byteAt ∈ TB := tb_in 1658 rfl rfl
set_option maxRecDepth 100000 in
theorem mlX12_195 : Cond.methodLink RX12 195 yX12_isDigit ∈ TB := tb_in 1665 rfl rfl
set_option maxRecDepth 100000 in
theorem flX12_198 : FLk RX12 198 12 24 0 false := ⟨(RX12, TX12, 58), rfl, by decide, tb_in 1480 rfl rfl, rfl, rfl⟩
set_option maxRecDepth 100000 in
theorem mlX12_201 : Cond.methodLink RX12 201 yJ9_min_7cf53 ∈ TB := tb_in 1668 rfl rfl
set_option maxRecDepth 100000 in
theorem mlX12_192 : Cond.methodLink RX12 192 yX12_isLetter ∈ TB := tb_in 1662 rfl rfl
set_option maxRecDepth 100000 in
theorem flX12_186 : FLk RX12 186 12 25 0 false := ⟨(RX12, TX12, 58), rfl, by decide, tb_in 1481 rfl rfl, rfl, rfl⟩
set_option maxRecDepth 100000 in
theorem mlX12_207 : Cond.methodLink RX12 207 yX12_isMark ∈ TB := tb_in 1671 rfl rfl
set_option maxRecDepth 100000 in
theorem flX12_213 : FLk RX12 213 12 27 0 false := ⟨(RX12, TX12, 58), rfl, by decide, tb_in 1483 rfl rfl, rfl, rfl⟩
set_option maxRecDepth 100000 in
theorem flX12_216 : FLk RX12 216 12 28 0 false := ⟨(RX12, TX12, 58), rfl, by decide, tb_in 1484 rfl rfl, rfl, rfl⟩
set_option maxRecDepth 100000 in
theorem mlX12_219 : Cond.methodLink RX12 219 yJ0_length_8abf5 ∈ TB := tb_in 1686 rfl rfl
set_option maxRecDepth 100000 in
theorem mlX12_223 : Cond.methodLink RX12 223 yJ0_charAt_5068e ∈ TB := tb_in 1687 rfl rfl
set_option maxRecDepth 100000 in
theorem mlX12_227 : Cond.methodLink RX12 227 yX12_is ∈ TB := tb_in 1682 rfl rfl
set_option maxRecDepth 100000 in
theorem mlX12_234 : Cond.methodLink RX12 234 yX12_stepOn ∈ TB := tb_in 1654 rfl rfl
set_option maxRecDepth 100000 in
theorem mlX12_231 : Cond.methodLink RX12 231 yX12_wrong ∈ TB := tb_in 1688 rfl rfl
set_option maxRecDepth 100000 in
theorem mlX12_237 : Cond.methodLink RX12 237 yX12_isMarked ∈ TB := tb_in 1709 rfl rfl
set_option maxRecDepth 100000 in
theorem flX12_240 : FLk RX12 240 12 30 0 false := ⟨(RX12, TX12, 58), rfl, by decide, tb_in 1486 rfl rfl, rfl, rfl⟩
set_option maxRecDepth 100000 in
theorem mlX12_246 : Cond.methodLink RX12 246 yX12_lay ∈ TB := tb_in 1734 rfl rfl
set_option maxRecDepth 100000 in
theorem mlX12_243 : Cond.methodLink RX12 243 yX12_readNumber ∈ TB := tb_in 1696 rfl rfl
set_option maxRecDepth 100000 in
theorem mlX12_249 : Cond.methodLink RX12 249 yX12_which ∈ TB := tb_in 1678 rfl rfl
set_option maxRecDepth 100000 in
theorem mlX12_253 : Cond.methodLink RX12 253 yX12_mark ∈ TB := tb_in 1738 rfl rfl
set_option maxRecDepth 100000 in
theorem mlX12_256 : Cond.methodLink RX12 256 yX12_readExpression ∈ TB := tb_in 1705 rfl rfl
set_option maxRecDepth 100000 in
theorem mlX12_259 : Cond.methodLink RX12 259 yX12_readPart ∈ TB := tb_in 1730 rfl rfl
set_option maxRecDepth 100000 in
theorem mlX12_262 : Cond.methodLink RX12 262 yX12_readProduct ∈ TB := tb_in 1726 rfl rfl
set_option maxRecDepth 100000 in
theorem mlX12_267 : Cond.methodLink RX12 267 yX12_readSum ∈ TB := tb_in 1722 rfl rfl
set_option maxRecDepth 100000 in
theorem mlX12_270 : Cond.methodLink RX12 270 yX12_readNot ∈ TB := tb_in 1717 rfl rfl
set_option maxRecDepth 100000 in
theorem mlX12_275 : Cond.methodLink RX12 275 yX12_readAnd ∈ TB := tb_in 1713 rfl rfl
set_option maxRecDepth 100000 in
theorem mlX12_280 : Cond.methodLink RX12 280 yX12_word ∈ TB := tb_in 1700 rfl rfl
set_option maxRecDepth 100000 in
theorem mlX12_286 : Cond.methodLink RX12 286 yX12_readSort ∈ TB := tb_in 1692 rfl rfl
set_option maxRecDepth 100000 in
theorem flX12_298 : FLk RX12 298 12 49 3 false := ⟨(RX12, TX12, 58), rfl, by decide, tb_in 1505 rfl rfl, rfl, rfl⟩
set_option maxRecDepth 100000 in
theorem mlX12_295 : Cond.methodLink RX12 295 yX12_take ∈ TB := tb_in 1744 rfl rfl
set_option maxRecDepth 100000 in
theorem mlX12_292 : Cond.methodLink RX12 292 yX12_readClause ∈ TB := tb_in 1674 rfl rfl
set_option maxRecDepth 100000 in
theorem mlX12_289 : Cond.methodLink RX12 289 yX12_fail ∈ TB := tb_in 1650 rfl rfl
set_option maxRecDepth 100000 in
theorem mlX12_302 : Cond.methodLink RX12 302 yX12_oddsOf ∈ TB := tb_in 1760 rfl rfl
set_option maxRecDepth 100000 in
theorem mlX12_305 : Cond.methodLink RX12 305 yX12_isSort ∈ TB := tb_in 1768 rfl rfl
set_option maxRecDepth 100000 in
theorem mlX12_309 : Cond.methodLink RX12 309 yJ9_max_7cf53 ∈ TB := tb_in 1800 rfl rfl
set_option maxRecDepth 100000 in
theorem mlX12_316 : Cond.methodLink RX12 316 yX12_reckon ∈ TB := tb_in 1803 rfl rfl
set_option maxRecDepth 100000 in
theorem mlX12_312 : Cond.methodLink RX12 312 yX12_valueOf ∈ TB := tb_in 1796 rfl rfl
set_option maxRecDepth 100000 in
theorem mlX12_320 : Cond.methodLink RX12 320 yX12_evaluate ∈ TB := tb_in 1792 rfl rfl
set_option maxRecDepth 100000 in
theorem mlX12_324 : Cond.methodLink RX12 324 yX12_giftOf ∈ TB := tb_in 1788 rfl rfl
set_option maxRecDepth 100000 in
theorem mlX12_327 : Cond.methodLink RX12 327 yX12_isState ∈ TB := tb_in 1776 rfl rfl
set_option maxRecDepth 100000 in
theorem mlX12_330 : Cond.methodLink RX12 330 yX12_gift ∈ TB := tb_in 1784 rfl rfl
set_option maxRecDepth 100000 in
theorem mlX12_333 : Cond.methodLink RX12 333 yX12_behind ∈ TB := tb_in 1810 rfl rfl
set_option maxRecDepth 100000 in
theorem mlX12_336 : Cond.methodLink RX12 336 yX12_isSetting ∈ TB := tb_in 1822 rfl rfl
set_option maxRecDepth 100000 in
theorem mlX12_339 : Cond.methodLink RX12 339 yX12_put ∈ TB := tb_in 1825 rfl rfl
set_option maxRecDepth 100000 in
theorem ccX12_343 : Cond.constantLong RX12 343 (1000000000 : Int64) ∈ TB := tb_in 1845 rfl rfl
set_option maxRecDepth 100000 in
theorem flX12_345 : FLk RX12 345 12 35 1 false := ⟨(RX12, TX12, 58), rfl, by decide, tb_in 1491 rfl rfl, rfl, rfl⟩
set_option maxRecDepth 100000 in
theorem flX12_349 : FLk RX12 349 12 36 1 false := ⟨(RX12, TX12, 58), rfl, by decide, tb_in 1492 rfl rfl, rfl, rfl⟩
set_option maxRecDepth 100000 in
theorem mlX12_355 : Cond.methodLink RX12 355 yX12_goOn ∈ TB := tb_in 1850 rfl rfl
set_option maxRecDepth 100000 in
theorem flX12_352 : FLk RX12 352 12 37 1 false := ⟨(RX12, TX12, 58), rfl, by decide, tb_in 1493 rfl rfl, rfl, rfl⟩
set_option maxRecDepth 100000 in
theorem mlX12_364 : Cond.methodLink RX12 364 yX12_person ∈ TB := tb_in 1846 rfl rfl
set_option maxRecDepth 100000 in
theorem mlX12_358 : Cond.methodLink RX12 358 yX12_tellGifts ∈ TB := tb_in 1837 rfl rfl
set_option maxRecDepth 100000 in
theorem mlX12_361 : Cond.methodLink RX12 361 yX12_startAt ∈ TB := tb_in 1841 rfl rfl
set_option maxRecDepth 100000 in
theorem mlX12_367 : Cond.methodLink RX12 367 yX12_lead ∈ TB := tb_in 1833 rfl rfl
set_option maxRecDepth 100000 in
theorem ccX12_371 : Cond.constantLong RX12 371 (1000000 : Int64) ∈ TB := tb_in 1854 rfl rfl
set_option maxRecDepth 100000 in
theorem mlX12_379 : Cond.methodLink RX12 379 yX12_coinOf ∈ TB := tb_in 1879 rfl rfl
set_option maxRecDepth 100000 in
theorem mlX12_376 : Cond.methodLink RX12 376 yX12_isRest ∈ TB := tb_in 1875 rfl rfl
set_option maxRecDepth 100000 in
theorem mlX12_373 : Cond.methodLink RX12 373 yX12_tellComes ∈ TB := tb_in 1871 rfl rfl
set_option maxRecDepth 100000 in
theorem mlX12_385 : Cond.methodLink RX12 385 yX12_backRule ∈ TB := tb_in 1891 rfl rfl
set_option maxRecDepth 100000 in
theorem mlX12_382 : Cond.methodLink RX12 382 yX12_keepRule ∈ TB := tb_in 1887 rfl rfl
set_option maxRecDepth 100000 in
theorem mlX12_388 : Cond.methodLink RX12 388 yX12_pays ∈ TB := tb_in 1919 rfl rfl
set_option maxRecDepth 100000 in
theorem mlX12_391 : Cond.methodLink RX12 391 yX12_oddsThatPay ∈ TB := tb_in 1915 rfl rfl
set_option maxRecDepth 100000 in
theorem mlX12_394 : Cond.methodLink RX12 394 yX12_takenBy ∈ TB := tb_in 1911 rfl rfl
set_option maxRecDepth 100000 in
theorem flX12_397 : FLk RX12 397 12 43 1 false := ⟨(RX12, TX12, 58), rfl, by decide, tb_in 1499 rfl rfl, rfl, rfl⟩
set_option maxRecDepth 100000 in
theorem flX12_400 : FLk RX12 400 12 45 1 false := ⟨(RX12, TX12, 58), rfl, by decide, tb_in 1501 rfl rfl, rfl, rfl⟩
set_option maxRecDepth 100000 in
theorem flX12_403 : FLk RX12 403 12 44 1 false := ⟨(RX12, TX12, 58), rfl, by decide, tb_in 1500 rfl rfl, rfl, rfl⟩
set_option maxRecDepth 100000 in
theorem mlX12_406 : Cond.methodLink RX12 406 yX12_nearPart ∈ TB := tb_in 1939 rfl rfl
set_option maxRecDepth 100000 in
theorem mlX12_410 : Cond.methodLink RX12 410 yX12_nearPerson ∈ TB := tb_in 1935 rfl rfl
set_option maxRecDepth 100000 in
theorem mlX12_413 : Cond.methodLink RX12 413 yX12_enter ∈ TB := tb_in 1947 rfl rfl
set_option maxRecDepth 100000 in
theorem mlX12_416 : Cond.methodLink RX12 416 yX12_stateAhead ∈ TB := tb_in 1955 rfl rfl
set_option maxRecDepth 100000 in
theorem mlX12_419 : Cond.methodLink RX12 419 yX12_explained ∈ TB := tb_in 1959 rfl rfl
set_option maxRecDepth 100000 in
theorem mlX12_425 : Cond.methodLink RX12 425 yX12_explainsAll ∈ TB := tb_in 1978 rfl rfl
set_option maxRecDepth 100000 in
theorem mlX12_422 : Cond.methodLink RX12 422 yX12_bitsOf ∈ TB := tb_in 1975 rfl rfl
set_option maxRecDepth 100000 in
theorem mlX12_428 : Cond.methodLink RX12 428 yX12_guessAt ∈ TB := tb_in 1986 rfl rfl
set_option maxRecDepth 100000 in
theorem mlX12_431 : Cond.methodLink RX12 431 yX12_guessOdds ∈ TB := tb_in 1994 rfl rfl
set_option maxRecDepth 100000 in
theorem ccX12_434 : Cond.constant RX12 434 (1000000 : Int32) ∈ TB := tb_in 1998 rfl rfl
set_option maxRecDepth 100000 in
theorem flX12_435 : FLk RX12 435 12 48 0 false := ⟨(RX12, TX12, 58), rfl, by decide, tb_in 1504 rfl rfl, rfl, rfl⟩
set_option maxRecDepth 100000 in
theorem ccX12_438 : Cond.constant RX12 438 (1103515245 : Int32) ∈ TB := tb_in 2007 rfl rfl
set_option maxRecDepth 100000 in
theorem mlX12_439 : Cond.methodLink RX12 439 yX12_draw ∈ TB := tb_in 2003 rfl rfl
set_option maxRecDepth 100000 in
theorem mlX12_442 : Cond.methodLink RX12 442 yX12_be ∈ TB := tb_in 2016 rfl rfl
set_option maxRecDepth 100000 in
theorem mlL_7 : Cond.methodLink RL 7 yX11_gate ∈ TB := tb_in 592 rfl rfl
set_option maxRecDepth 100000 in
theorem clL_13 : Cond.classLink RL 13 xnse ∈ TB := tb_in 590 rfl rfl
set_option maxRecDepth 100000 in
theorem clL_15 : Cond.classLink RL 15 xiae ∈ TB := tb_in 591 rfl rfl
set_option maxRecDepth 100000 in
theorem mlL_17 : Cond.methodLink RL 17 yX11_count ∈ TB := tb_in 907 rfl rfl
set_option maxRecDepth 100000 in
theorem mlL_21 : Cond.methodLink RL 21 yX11_about ∈ TB := tb_in 914 rfl rfl
set_option maxRecDepth 100000 in
theorem mlL_24 : Cond.methodLink RL 24 yX11_sort ∈ TB := tb_in 929 rfl rfl
set_option maxRecDepth 100000 in
theorem mlL_28 : Cond.methodLink RL 28 yX11_gives ∈ TB := tb_in 936 rfl rfl
set_option maxRecDepth 100000 in
theorem mlL_31 : Cond.methodLink RL 31 yX11_next ∈ TB := tb_in 977 rfl rfl
set_option maxRecDepth 100000 in
theorem mlL_34 : Cond.methodLink RL 34 yX11_seed ∈ TB := tb_in 988 rfl rfl
set_option maxRecDepth 100000 in
theorem mlL_38 : Cond.methodLink RL 38 yX11_set ∈ TB := tb_in 996 rfl rfl
set_option maxRecDepth 100000 in
theorem mlL_42 : Cond.methodLink RL 42 yX11_coin ∈ TB := tb_in 1004 rfl rfl
set_option maxRecDepth 100000 in
theorem mlL_45 : Cond.methodLink RL 45 yX11_cases ∈ TB := tb_in 1070 rfl rfl
set_option maxRecDepth 100000 in
theorem mlL_48 : Cond.methodLink RL 48 yX11_drift ∈ TB := tb_in 1078 rfl rfl
set_option maxRecDepth 100000 in
theorem mlL_51 : Cond.methodLink RL 51 yX11_turn ∈ TB := tb_in 1090 rfl rfl
set_option maxRecDepth 100000 in
theorem mlL_54 : Cond.methodLink RL 54 yX11_rest ∈ TB := tb_in 1097 rfl rfl
set_option maxRecDepth 100000 in
theorem mlL_57 : Cond.methodLink RL 57 yX11_best ∈ TB := tb_in 1152 rfl rfl
set_option maxRecDepth 100000 in
theorem mlL_61 : Cond.methodLink RL 61 yX11_would ∈ TB := tb_in 1175 rfl rfl
set_option maxRecDepth 100000 in
theorem mlL_64 : Cond.methodLink RL 64 yX11_card ∈ TB := tb_in 1182 rfl rfl
set_option maxRecDepth 100000 in
theorem mlL_67 : Cond.methodLink RL 67 yX11_seeded ∈ TB := tb_in 1194 rfl rfl
set_option maxRecDepth 100000 in
theorem mlL_70 : Cond.methodLink RL 70 yX11_price ∈ TB := tb_in 1201 rfl rfl
set_option maxRecDepth 100000 in
theorem mlL_73 : Cond.methodLink RL 73 yX11_priced ∈ TB := tb_in 1231 rfl rfl
set_option maxRecDepth 100000 in
theorem mlL_76 : Cond.methodLink RL 76 yX11_mixed ∈ TB := tb_in 1238 rfl rfl
set_option maxRecDepth 100000 in
theorem mlL_79 : Cond.methodLink RL 79 yX11_near ∈ TB := tb_in 1251 rfl rfl
set_option maxRecDepth 100000 in
theorem mlL_82 : Cond.methodLink RL 82 yX11_give ∈ TB := tb_in 1283 rfl rfl
set_option maxRecDepth 100000 in
theorem mlL_85 : Cond.methodLink RL 85 yX11_given ∈ TB := tb_in 1300 rfl rfl
set_option maxRecDepth 100000 in
theorem mlL_88 : Cond.methodLink RL 88 yX11_who ∈ TB := tb_in 1323 rfl rfl
set_option maxRecDepth 100000 in
theorem mlL_91 : Cond.methodLink RL 91 yX11_strange ∈ TB := tb_in 1338 rfl rfl
set_option maxRecDepth 100000 in
theorem mlL_94 : Cond.methodLink RL 94 yX11_fewest ∈ TB := tb_in 1345 rfl rfl
set_option maxRecDepth 100000 in
theorem mlL_97 : Cond.methodLink RL 97 yX11_guess ∈ TB := tb_in 1366 rfl rfl
set_option maxRecDepth 100000 in
theorem mlL_101 : Cond.methodLink RL 101 yX11_credit ∈ TB := tb_in 1373 rfl rfl
set_option maxRecDepth 100000 in
theorem mlL_104 : Cond.methodLink RL 104 yX11_drawn ∈ TB := tb_in 1400 rfl rfl
set_option maxRecDepth 100000 in
theorem mlL_107 : Cond.methodLink RL 107 yX11_empty ∈ TB := tb_in 1428 rfl rfl
set_option maxRecDepth 100000 in
theorem mlL_228 : Cond.methodLink RL 228 yX11_restore ∈ TB := tb_in 583 rfl rfl
set_option maxRecDepth 100000 in
theorem mlL_232 : Cond.methodLink RL 232 yX12_restore ∈ TB := tb_in 2019 rfl rfl
set_option maxRecDepth 100000 in
theorem mlL_224 : Cond.methodLink RL 224 yX11_image ∈ TB := tb_in 571 rfl rfl
set_option maxRecDepth 100000 in
theorem mlL_227 : Cond.methodLink RL 227 yX12_image ∈ TB := tb_in 2012 rfl rfl
set_option maxRecDepth 100000 in
theorem mlL_221 : Cond.methodLink RL 221 yL_empty ∈ TB := tb_in 1425 rfl rfl
set_option maxRecDepth 100000 in
theorem mlL_223 : Cond.methodLink RL 223 yX12_empty ∈ TB := tb_in 2008 rfl rfl
set_option maxRecDepth 100000 in
theorem mlL_125 : Cond.methodLink RL 125 yX12_thrown ∈ TB := tb_in 1632 rfl rfl
set_option maxRecDepth 100000 in
theorem mlL_218 : Cond.methodLink RL 218 yL_drawn ∈ TB := tb_in 1397 rfl rfl
set_option maxRecDepth 100000 in
theorem mlL_220 : Cond.methodLink RL 220 yX12_drawn ∈ TB := tb_in 1999 rfl rfl
set_option maxRecDepth 100000 in
theorem mlL_215 : Cond.methodLink RL 215 yL_credit ∈ TB := tb_in 1370 rfl rfl
set_option maxRecDepth 100000 in
theorem mlL_217 : Cond.methodLink RL 217 yX12_credit ∈ TB := tb_in 1990 rfl rfl
set_option maxRecDepth 100000 in
theorem mlL_212 : Cond.methodLink RL 212 yL_guess ∈ TB := tb_in 1363 rfl rfl
set_option maxRecDepth 100000 in
theorem mlL_214 : Cond.methodLink RL 214 yX12_guess ∈ TB := tb_in 1982 rfl rfl
set_option maxRecDepth 100000 in
theorem mlL_209 : Cond.methodLink RL 209 yL_fewest ∈ TB := tb_in 1342 rfl rfl
set_option maxRecDepth 100000 in
theorem mlL_211 : Cond.methodLink RL 211 yX12_fewest ∈ TB := tb_in 1971 rfl rfl
set_option maxRecDepth 100000 in
theorem mlL_206 : Cond.methodLink RL 206 yL_strange ∈ TB := tb_in 1335 rfl rfl
set_option maxRecDepth 100000 in
theorem mlL_208 : Cond.methodLink RL 208 yX12_strange ∈ TB := tb_in 1967 rfl rfl
set_option maxRecDepth 100000 in
theorem mlL_203 : Cond.methodLink RL 203 yL_who ∈ TB := tb_in 1320 rfl rfl
set_option maxRecDepth 100000 in
theorem mlL_205 : Cond.methodLink RL 205 yX12_who ∈ TB := tb_in 1963 rfl rfl
set_option maxRecDepth 100000 in
theorem mlL_200 : Cond.methodLink RL 200 yL_given ∈ TB := tb_in 1297 rfl rfl
set_option maxRecDepth 100000 in
theorem mlL_202 : Cond.methodLink RL 202 yX12_given ∈ TB := tb_in 1951 rfl rfl
set_option maxRecDepth 100000 in
theorem mlL_197 : Cond.methodLink RL 197 yL_give ∈ TB := tb_in 1280 rfl rfl
set_option maxRecDepth 100000 in
theorem mlL_199 : Cond.methodLink RL 199 yX12_give ∈ TB := tb_in 1943 rfl rfl
set_option maxRecDepth 100000 in
theorem mlL_194 : Cond.methodLink RL 194 yL_near ∈ TB := tb_in 1248 rfl rfl
set_option maxRecDepth 100000 in
theorem mlL_196 : Cond.methodLink RL 196 yX12_near ∈ TB := tb_in 1931 rfl rfl
set_option maxRecDepth 100000 in
theorem mlL_191 : Cond.methodLink RL 191 yL_mixed ∈ TB := tb_in 1235 rfl rfl
set_option maxRecDepth 100000 in
theorem mlL_193 : Cond.methodLink RL 193 yX12_mixed ∈ TB := tb_in 1927 rfl rfl
set_option maxRecDepth 100000 in
theorem mlL_188 : Cond.methodLink RL 188 yL_priced ∈ TB := tb_in 1228 rfl rfl
set_option maxRecDepth 100000 in
theorem mlL_190 : Cond.methodLink RL 190 yX12_priced ∈ TB := tb_in 1923 rfl rfl
set_option maxRecDepth 100000 in
theorem mlL_185 : Cond.methodLink RL 185 yL_price ∈ TB := tb_in 1198 rfl rfl
set_option maxRecDepth 100000 in
theorem mlL_187 : Cond.methodLink RL 187 yX12_price ∈ TB := tb_in 1907 rfl rfl
set_option maxRecDepth 100000 in
theorem mlL_182 : Cond.methodLink RL 182 yL_seeded ∈ TB := tb_in 1191 rfl rfl
set_option maxRecDepth 100000 in
theorem mlL_184 : Cond.methodLink RL 184 yX12_seeded ∈ TB := tb_in 1903 rfl rfl
set_option maxRecDepth 100000 in
theorem mlL_179 : Cond.methodLink RL 179 yL_card ∈ TB := tb_in 1179 rfl rfl
set_option maxRecDepth 100000 in
theorem mlL_181 : Cond.methodLink RL 181 yX12_card ∈ TB := tb_in 1899 rfl rfl
set_option maxRecDepth 100000 in
theorem mlL_176 : Cond.methodLink RL 176 yL_would ∈ TB := tb_in 1172 rfl rfl
set_option maxRecDepth 100000 in
theorem mlL_178 : Cond.methodLink RL 178 yX12_would ∈ TB := tb_in 1895 rfl rfl
set_option maxRecDepth 100000 in
theorem mlL_172 : Cond.methodLink RL 172 yL_best ∈ TB := tb_in 1149 rfl rfl
set_option maxRecDepth 100000 in
theorem mlL_175 : Cond.methodLink RL 175 yX12_best ∈ TB := tb_in 1883 rfl rfl
set_option maxRecDepth 100000 in
theorem mlL_169 : Cond.methodLink RL 169 yL_rest ∈ TB := tb_in 1094 rfl rfl
set_option maxRecDepth 100000 in
theorem mlL_171 : Cond.methodLink RL 171 yX12_rest ∈ TB := tb_in 1867 rfl rfl
set_option maxRecDepth 100000 in
theorem mlL_166 : Cond.methodLink RL 166 yL_turn ∈ TB := tb_in 1087 rfl rfl
set_option maxRecDepth 100000 in
theorem mlL_168 : Cond.methodLink RL 168 yX12_turn ∈ TB := tb_in 1863 rfl rfl
set_option maxRecDepth 100000 in
theorem mlL_163 : Cond.methodLink RL 163 yL_drift ∈ TB := tb_in 1075 rfl rfl
set_option maxRecDepth 100000 in
theorem mlL_165 : Cond.methodLink RL 165 yX12_drift ∈ TB := tb_in 1859 rfl rfl
set_option maxRecDepth 100000 in
theorem mlL_160 : Cond.methodLink RL 160 yL_cases ∈ TB := tb_in 1067 rfl rfl
set_option maxRecDepth 100000 in
theorem mlL_162 : Cond.methodLink RL 162 yX12_cases ∈ TB := tb_in 1855 rfl rfl
set_option maxRecDepth 100000 in
theorem mlL_157 : Cond.methodLink RL 157 yL_coin ∈ TB := tb_in 1001 rfl rfl
set_option maxRecDepth 100000 in
theorem mlL_159 : Cond.methodLink RL 159 yX12_coin ∈ TB := tb_in 1829 rfl rfl
set_option maxRecDepth 100000 in
theorem mlL_154 : Cond.methodLink RL 154 yL_set ∈ TB := tb_in 993 rfl rfl
set_option maxRecDepth 100000 in
theorem mlL_156 : Cond.methodLink RL 156 yX12_set ∈ TB := tb_in 1818 rfl rfl
set_option maxRecDepth 100000 in
theorem mlL_150 : Cond.methodLink RL 150 yL_seed ∈ TB := tb_in 985 rfl rfl
set_option maxRecDepth 100000 in
theorem mlL_153 : Cond.methodLink RL 153 yX12_seed ∈ TB := tb_in 1814 rfl rfl
set_option maxRecDepth 100000 in
theorem mlL_147 : Cond.methodLink RL 147 yL_next ∈ TB := tb_in 974 rfl rfl
set_option maxRecDepth 100000 in
theorem mlL_149 : Cond.methodLink RL 149 yX12_next ∈ TB := tb_in 1806 rfl rfl
set_option maxRecDepth 100000 in
theorem mlL_144 : Cond.methodLink RL 144 yL_gives ∈ TB := tb_in 933 rfl rfl
set_option maxRecDepth 100000 in
theorem mlL_146 : Cond.methodLink RL 146 yX12_gives ∈ TB := tb_in 1772 rfl rfl
set_option maxRecDepth 100000 in
theorem mlL_140 : Cond.methodLink RL 140 yL_sort ∈ TB := tb_in 926 rfl rfl
set_option maxRecDepth 100000 in
theorem mlL_143 : Cond.methodLink RL 143 yX12_sort ∈ TB := tb_in 1764 rfl rfl
set_option maxRecDepth 100000 in
theorem mlL_137 : Cond.methodLink RL 137 yL_about ∈ TB := tb_in 911 rfl rfl
set_option maxRecDepth 100000 in
theorem mlL_139 : Cond.methodLink RL 139 yX12_about ∈ TB := tb_in 1756 rfl rfl
set_option maxRecDepth 100000 in
theorem mlL_133 : Cond.methodLink RL 133 yL_count ∈ TB := tb_in 904 rfl rfl
set_option maxRecDepth 100000 in
theorem mlL_136 : Cond.methodLink RL 136 yX12_count ∈ TB := tb_in 1752 rfl rfl
set_option maxRecDepth 100000 in
theorem mlL_129 : Cond.methodLink RL 129 yX11_fault ∈ TB := tb_in 567 rfl rfl
set_option maxRecDepth 100000 in
theorem mlL_132 : Cond.methodLink RL 132 yX12_fault ∈ TB := tb_in 1748 rfl rfl
set_option maxRecDepth 100000 in
theorem mlL_119 : Cond.methodLink RL 119 yL_gate ∈ TB := tb_in 587 rfl rfl
set_option maxRecDepth 100000 in
theorem mlL_124 : Cond.methodLink RL 124 yX12_gate ∈ TB := tb_in 1640 rfl rfl
set_option maxRecDepth 100000 in
theorem mlL_114 : Cond.methodLink RL 114 yX11_feed ∈ TB := tb_in 556 rfl rfl
set_option maxRecDepth 100000 in
theorem mlL_118 : Cond.methodLink RL 118 yX12_feed ∈ TB := tb_in 1636 rfl rfl
set_option maxRecDepth 100000 in
theorem nwL_8 : Cond.classLink RL 8 RX11 ∈ TB ∧ Cond.instantiable RX11 15 ∈ TB ∧ Cond.initialized RX11 ∈ TB := ⟨tb_in 129 rfl rfl, tb_in 130 rfl rfl, tb_in 104 rfl rfl⟩
set_option maxRecDepth 100000 in
theorem mlL_110 : Cond.methodLink RL 110 yX11_init ∈ TB := tb_in 131 rfl rfl
set_option maxRecDepth 100000 in
theorem nwL_111 : Cond.classLink RL 111 RX12 ∈ TB ∧ Cond.instantiable RX12 58 ∈ TB ∧ Cond.initialized RX12 ∈ TB := ⟨tb_in 1432 rfl rfl, tb_in 1433 rfl rfl, tb_in 116 rfl rfl⟩
set_option maxRecDepth 100000 in
theorem mlL_113 : Cond.methodLink RL 113 yX12_init ∈ TB := tb_in 1434 rfl rfl
