/-! ===== LEVEL 2: the start: the invariant holds behind the constructors ===== -/
theorem mI_zrN {M : Mem} {o p j : Nat} (h : p ≠ o) : mI (zr M o) p j = mI M p j := by rw [mI_zr, if_neg h]
def ch12 (M : Mem) : Mem := sR (zr (sR (zr (sR (zr (sR (zr (sR (zr (sR (zr (sR (zr (sR (zr (sR (zr (sR (zr (sR (zr (sR (zr (sR (zr (sR (zr (sR (zr (sR (zr (sR (zr (sR (zr (sR (zr (sI (sR (zr (sR (zr (sR (zr (sR (zr (sR (zr (sR (zr (sR (zr (sR (zr (sR (zr (sR (zr (sR (zr (sR (zr (sR (zr (sR (zr (sR (zr (sR (zr (sR (zr (sR (sR (sR (sR (sR (sR (sR (sR (sR (sR (zr (sR (sR (sR (sR (sR (sR (sR (sR (zr (M) (72 + 1)) (72 + 1) (Int32.toNatClampNeg 0) 1020) (72 + 1) (Int32.toNatClampNeg 1) 1021) (72 + 1) (Int32.toNatClampNeg 2) 1022) (72 + 1) (Int32.toNatClampNeg 3) 1023) (72 + 1) (Int32.toNatClampNeg 4) 1024) (72 + 1) (Int32.toNatClampNeg 5) 1025) (72 + 1) (Int32.toNatClampNeg 6) 1026) 72 0 (72 + 1)) (72 + 2)) (72 + 2) (Int32.toNatClampNeg 0) 1027) (72 + 2) (Int32.toNatClampNeg 1) 1028) (72 + 2) (Int32.toNatClampNeg 2) 1029) (72 + 2) (Int32.toNatClampNeg 3) 1030) (72 + 2) (Int32.toNatClampNeg 4) 1022) (72 + 2) (Int32.toNatClampNeg 5) 1031) (72 + 2) (Int32.toNatClampNeg 6) 1023) (72 + 2) (Int32.toNatClampNeg 7) 1024) (72 + 2) (Int32.toNatClampNeg 8) 1025) 72 1 (72 + 2)) (72 + 3)) 72 3 (72 + 3)) (72 + 4)) 72 4 (72 + 4)) (72 + 5)) 72 5 (72 + 5)) (72 + 6)) 72 6 (72 + 6)) (72 + 7)) 72 7 (72 + 7)) (72 + 8)) 72 8 (72 + 8)) (72 + 9)) 72 9 (72 + 9)) (72 + 10)) 72 10 (72 + 10)) (72 + 11)) 72 11 (72 + 11)) (72 + 12)) 72 12 (72 + 12)) (72 + 13)) 72 13 (72 + 13)) (72 + 14)) 72 14 (72 + 14)) (72 + 15)) 72 15 (72 + 15)) (72 + 16)) 72 16 (72 + 16)) (72 + 17)) 72 17 (72 + 17)) (72 + 18)) 72 18 (72 + 18)) (72 + 19)) 72 19 (72 + 19)) 72 29 (-1)) (72 + 20)) 72 31 (72 + 20)) (72 + 21)) 72 32 (72 + 21)) (72 + 22)) 72 33 (72 + 22)) (72 + 23)) 72 34 (72 + 23)) (72 + 24)) 72 38 (72 + 24)) (72 + 25)) 72 39 (72 + 25)) (72 + 26)) 72 40 (72 + 26)) (72 + 27)) 72 41 (72 + 27)) (72 + 28)) 72 42 (72 + 28)) (72 + 29)) 72 46 (72 + 29)) (72 + 30)) 72 47 (72 + 30)) (72 + 31)) 72 50 (72 + 31)) (72 + 32)) 72 51 (72 + 32)) (72 + 33)) 72 52 (72 + 33)) (72 + 34)) 72 53 (72 + 34)) (72 + 35)) 72 54 (72 + 35)) (72 + 36)) 72 55 (72 + 36)) (72 + 37)) 72 56 (72 + 37)) (72 + 38)) 72 57 (72 + 38)
theorem ch12_low {M : Mem} {o k : Nat} (h : o < 72) : mI (ch12 M) o k = mI M o k := by
  unfold ch12
  repeat (first | rw [mI_sR] | rw [mI_zrN (by omega)] | rw [mI_diff (by omega)])
theorem init12_inv {M M' : Mem} (h : zX12_init 72 72 M = some ((), M')) : zX12_init_L397 FU 72 0 (ch12 M) = some ((), M') := by
  unfold zX12_init at h
  simp only [lt_eq] at h
  obtain ⟨-, h⟩ := if_inv h
  obtain ⟨-, h⟩ := if_inv h
  obtain ⟨-, h⟩ := if_inv h
  obtain ⟨-, h⟩ := if_inv h
  obtain ⟨-, h⟩ := if_inv h
  obtain ⟨-, h⟩ := if_inv h
  obtain ⟨-, h⟩ := if_inv h
  obtain ⟨-, h⟩ := if_inv h
  obtain ⟨-, h⟩ := if_inv h
  obtain ⟨-, h⟩ := if_inv h
  obtain ⟨-, h⟩ := if_inv h
  obtain ⟨-, h⟩ := if_inv h
  obtain ⟨-, h⟩ := if_inv h
  obtain ⟨-, h⟩ := if_inv h
  obtain ⟨-, h⟩ := if_inv h
  obtain ⟨-, h⟩ := if_inv h
  obtain ⟨-, h⟩ := if_inv h
  obtain ⟨-, h⟩ := if_inv h
  obtain ⟨-, h⟩ := if_inv h
  obtain ⟨-, h⟩ := if_inv h
  obtain ⟨-, h⟩ := if_inv h
  obtain ⟨-, h⟩ := if_inv h
  obtain ⟨-, h⟩ := if_inv h
  obtain ⟨-, h⟩ := if_inv h
  obtain ⟨-, h⟩ := if_inv h
  obtain ⟨-, h⟩ := if_inv h
  obtain ⟨-, h⟩ := if_inv h
  obtain ⟨-, h⟩ := if_inv h
  obtain ⟨-, h⟩ := if_inv h
  obtain ⟨-, h⟩ := if_inv h
  obtain ⟨-, h⟩ := if_inv h
  obtain ⟨-, h⟩ := if_inv h
  obtain ⟨-, h⟩ := if_inv h
  obtain ⟨-, h⟩ := if_inv h
  obtain ⟨-, h⟩ := if_inv h
  obtain ⟨-, h⟩ := if_inv h
  obtain ⟨-, h⟩ := if_inv h
  obtain ⟨-, h⟩ := if_inv h
  obtain ⟨-, h⟩ := if_inv h
  obtain ⟨-, h⟩ := if_inv h
  exact h
theorem pm12 : PM (ch12 (zr Mc1 72)) := by
  show ∀ t ∈ PTm, mR (ch12 (zr Mc1 72)) t.1 t.2.1 = t.2.2
  decide +kernel
def up72 (o _k : Nat) : Prop := 72 ≤ o
theorem m_atFirst1 {N : Mem} {g : Nat} (hP : PM N) (hg : g < 2) : Wp (zX12_atFirst 72 (io g) N) (fun _ N' => GFr up72 N N') := by
  generalize hFU : FU = fu
  have hFF : FU = fu := hFU
  rw [FU_val] at hFU
  have hF0 : GFr up72 N (sI (sI (sI N 75 g (io 0)) 76 (7 * g) (io 1)) 76 (7 * g + 1) m1) := ((GFr.refl.sI (by unfold up72; omega)).sI (by unfold up72; omega)).sI (by unfold up72; omega)
  unfold zX12_atFirst
  simp -dsimp (disch := first | assumption | omega) only [lit_0, lit_1, lit_2, lit_3, lit_4, lit_5, lit_6, lit_7, lit_8, lit_9, lit_10, lit_11, lit_12, lit_13, lit_14, lit_15, lit_16, lit_17, lit_18, lit_19, lit_20, lit_21, lit_22, lit_23, lit_24, lit_25, lit_26, lit_27, lit_28, lit_29, lit_30, lit_31, lit_32, lit_33, lit_34, lit_35, lit_36, lit_37, lit_38, lit_39, lit_40, lit_41, lit_42, lit_43, lit_44, lit_45, lit_46, lit_47, lit_48, lit_49, lit_50, lit_51, lit_52, lit_53, lit_54, lit_55, lit_56, lit_57, lit_58, lit_59, lit_60, lit_61, lit_62, lit_63, lit_64, lit_97, lit_99, lit_100, lit_122, lit_175, lit_176, lit_200, lit_255, lit_400, lit_700, lit_800, lit_999, lit_1000, lit_1400, lit_2000, lit_2033, lit_2038, lit_2100, lit_2124, lit_8000, lit_10000, lit_12345, lit_32767, lit_1000000, lit_1000000000, ↓bndX_h, ↓bndK_h, bxh_inl, bxh_inr, bkh_inl, bkh_inr, Nat.reduceEqDiff, ↓bnd_h, ↓lt_h, ↓ite_h, bh_some, lh_eq, ih_T, ih_F, ne_eq, not_false_eq_true, not_true_eq_false, eq_self, and_true, true_and, io_def, io_add, io_mul, io_sub, io_lt, io_le, io_eq, io_clamp, io_inbT, io_div, io_mod, io_m1, m1_io, m1_lt, m1_le, neg_1, gI_m1, PM.p0, PM.p1, PM.p3, PM.p4, PM.p5, PM.p6, PM.p7, PM.p8, PM.p9, PM.p10, PM.p11, PM.p12, PM.p13, PM.p14, PM.p15, PM.p16, PM.p17, PM.p18, PM.p19, PM.p31, PM.p32, PM.p33, PM.p34, PM.p38, PM.p39, PM.p40, PM.p41, PM.p42, PM.p46, PM.p47, PM.p50, PM.p51, PM.p52, PM.p53, PM.p54, PM.p55, PM.p56, PM.p57, K0_1, K0_2, K0_3, K0_4, K0_5, K0_6, K0_7, K0_8, K0_9, K0_10, K0_11, K0_12, K0_13, K0_14, K0_15, K0_16, K0_17, K0_18, K0_19, K0_20, K0_21, K0_22, K0_23, K0_24, K0_25, K0_26, K0_27, K0_28, K0_29, K0_30, K0_31, K0_32, K0_33, K0_34, K0_35, K0_36, K0_37, K0_38, K0_39, K0_40, K0_41, K0_42, K0_43, K0_44, K0_45, K0_46, K0_47, K0_48, K0_49, K0_50, K0_51, K0_52, K0_53, K0_54, K0_55, K0_56, K0_57, K0_58, K0_59, K0_60, K0_61, K0_62, K0_63, K0_64, K0_65, K0_66, K0_67, K0_68, K0_69, K0_70, K0_71, K0_72, K0_73, K0_74, K0_75, K0_76, K0_77, K0_78, K0_79, K0_80, K0_81, K0_82, K0_83, K0_84, K0_85, K0_86, K0_87, K0_88, K0_89, K0_90, K0_91, K0_92, K0_93, K0_94, K0_95, K0_96, K0_97, K0_98, K0_99, K0_100, K0_101, K0_102, K0_103, K0_104, K0_105, K0_106, K0_107, K0_108, K0_109, K0_110, K0_111, mR_sI, neg_1, hFF]
  generalize sI (sI (sI N 75 g (io 0)) 76 (7 * g) (io 1)) 76 (7 * g + 1) m1 = U0 at hF0 ⊢
  refine loopW (L := fun f (j : Nat) U => zX12_atFirst_L31 f 72 (io g) (io j) U) (J := fun j U => j ≤ 6 ∧ GFr up72 N U) (fun j _ => 6 - j) ?_ fu 2 U0 ⟨by omega, hF0⟩ (by omega)
  intro f j U ⟨hj, hF⟩ rec
  have hPU : PM U := hF.PM hP
  show Wp (zX12_atFirst_B31 (zX12_atFirst_L31 f) 72 (io g) (io j) U) _
  unfold zX12_atFirst_B31
  simp -dsimp (disch := first | assumption | omega) only [lit_0, lit_1, lit_2, lit_3, lit_4, lit_5, lit_6, lit_7, lit_8, lit_9, lit_10, lit_11, lit_12, lit_13, lit_14, lit_15, lit_16, lit_17, lit_18, lit_19, lit_20, lit_21, lit_22, lit_23, lit_24, lit_25, lit_26, lit_27, lit_28, lit_29, lit_30, lit_31, lit_32, lit_33, lit_34, lit_35, lit_36, lit_37, lit_38, lit_39, lit_40, lit_41, lit_42, lit_43, lit_44, lit_45, lit_46, lit_47, lit_48, lit_49, lit_50, lit_51, lit_52, lit_53, lit_54, lit_55, lit_56, lit_57, lit_58, lit_59, lit_60, lit_61, lit_62, lit_63, lit_64, lit_97, lit_99, lit_100, lit_122, lit_175, lit_176, lit_200, lit_255, lit_400, lit_700, lit_800, lit_999, lit_1000, lit_1400, lit_2000, lit_2033, lit_2038, lit_2100, lit_2124, lit_8000, lit_10000, lit_12345, lit_32767, lit_1000000, lit_1000000000, ↓bndX_h, ↓bndK_h, bxh_inl, bxh_inr, bkh_inl, bkh_inr, Nat.reduceEqDiff, ↓bnd_h, ↓lt_h, ↓ite_h, bh_some, lh_eq, ih_T, ih_F, ne_eq, not_false_eq_true, not_true_eq_false, eq_self, and_true, true_and, io_def, io_add, io_mul, io_sub, io_lt, io_le, io_eq, io_clamp, io_inbT, io_div, io_mod, io_m1, m1_io, m1_lt, m1_le, neg_1, gI_m1]
  refine Wp.csh (fun c => ?_) (fun c => ?_)
  · simp -dsimp (disch := first | assumption | omega) only [lit_0, lit_1, lit_2, lit_3, lit_4, lit_5, lit_6, lit_7, lit_8, lit_9, lit_10, lit_11, lit_12, lit_13, lit_14, lit_15, lit_16, lit_17, lit_18, lit_19, lit_20, lit_21, lit_22, lit_23, lit_24, lit_25, lit_26, lit_27, lit_28, lit_29, lit_30, lit_31, lit_32, lit_33, lit_34, lit_35, lit_36, lit_37, lit_38, lit_39, lit_40, lit_41, lit_42, lit_43, lit_44, lit_45, lit_46, lit_47, lit_48, lit_49, lit_50, lit_51, lit_52, lit_53, lit_54, lit_55, lit_56, lit_57, lit_58, lit_59, lit_60, lit_61, lit_62, lit_63, lit_64, lit_97, lit_99, lit_100, lit_122, lit_175, lit_176, lit_200, lit_255, lit_400, lit_700, lit_800, lit_999, lit_1000, lit_1400, lit_2000, lit_2033, lit_2038, lit_2100, lit_2124, lit_8000, lit_10000, lit_12345, lit_32767, lit_1000000, lit_1000000000, ↓bndX_h, ↓bndK_h, bxh_inl, bxh_inr, bkh_inl, bkh_inr, Nat.reduceEqDiff, ↓bnd_h, ↓lt_h, ↓ite_h, bh_some, lh_eq, ih_T, ih_F, ne_eq, not_false_eq_true, not_true_eq_false, eq_self, and_true, true_and, io_def, io_add, io_mul, io_sub, io_lt, io_le, io_eq, io_clamp, io_inbT, io_div, io_mod, io_m1, m1_io, m1_lt, m1_le, neg_1, gI_m1, PM.p0, PM.p1, PM.p3, PM.p4, PM.p5, PM.p6, PM.p7, PM.p8, PM.p9, PM.p10, PM.p11, PM.p12, PM.p13, PM.p14, PM.p15, PM.p16, PM.p17, PM.p18, PM.p19, PM.p31, PM.p32, PM.p33, PM.p34, PM.p38, PM.p39, PM.p40, PM.p41, PM.p42, PM.p46, PM.p47, PM.p50, PM.p51, PM.p52, PM.p53, PM.p54, PM.p55, PM.p56, PM.p57, K0_1, K0_2, K0_3, K0_4, K0_5, K0_6, K0_7, K0_8, K0_9, K0_10, K0_11, K0_12, K0_13, K0_14, K0_15, K0_16, K0_17, K0_18, K0_19, K0_20, K0_21, K0_22, K0_23, K0_24, K0_25, K0_26, K0_27, K0_28, K0_29, K0_30, K0_31, K0_32, K0_33, K0_34, K0_35, K0_36, K0_37, K0_38, K0_39, K0_40, K0_41, K0_42, K0_43, K0_44, K0_45, K0_46, K0_47, K0_48, K0_49, K0_50, K0_51, K0_52, K0_53, K0_54, K0_55, K0_56, K0_57, K0_58, K0_59, K0_60, K0_61, K0_62, K0_63, K0_64, K0_65, K0_66, K0_67, K0_68, K0_69, K0_70, K0_71, K0_72, K0_73, K0_74, K0_75, K0_76, K0_77, K0_78, K0_79, K0_80, K0_81, K0_82, K0_83, K0_84, K0_85, K0_86, K0_87, K0_88, K0_89, K0_90, K0_91, K0_92, K0_93, K0_94, K0_95, K0_96, K0_97, K0_98, K0_99, K0_100, K0_101, K0_102, K0_103, K0_104, K0_105, K0_106, K0_107, K0_108, K0_109, K0_110, K0_111, hPU]
    exact Wp.ret (hF.sI (by unfold up72; omega))
  · simp -dsimp (disch := first | assumption | omega) only [lit_0, lit_1, lit_2, lit_3, lit_4, lit_5, lit_6, lit_7, lit_8, lit_9, lit_10, lit_11, lit_12, lit_13, lit_14, lit_15, lit_16, lit_17, lit_18, lit_19, lit_20, lit_21, lit_22, lit_23, lit_24, lit_25, lit_26, lit_27, lit_28, lit_29, lit_30, lit_31, lit_32, lit_33, lit_34, lit_35, lit_36, lit_37, lit_38, lit_39, lit_40, lit_41, lit_42, lit_43, lit_44, lit_45, lit_46, lit_47, lit_48, lit_49, lit_50, lit_51, lit_52, lit_53, lit_54, lit_55, lit_56, lit_57, lit_58, lit_59, lit_60, lit_61, lit_62, lit_63, lit_64, lit_97, lit_99, lit_100, lit_122, lit_175, lit_176, lit_200, lit_255, lit_400, lit_700, lit_800, lit_999, lit_1000, lit_1400, lit_2000, lit_2033, lit_2038, lit_2100, lit_2124, lit_8000, lit_10000, lit_12345, lit_32767, lit_1000000, lit_1000000000, ↓bndX_h, ↓bndK_h, bxh_inl, bxh_inr, bkh_inl, bkh_inr, Nat.reduceEqDiff, ↓bnd_h, ↓lt_h, ↓ite_h, bh_some, lh_eq, ih_T, ih_F, ne_eq, not_false_eq_true, not_true_eq_false, eq_self, and_true, true_and, io_def, io_add, io_mul, io_sub, io_lt, io_le, io_eq, io_clamp, io_inbT, io_div, io_mod, io_m1, m1_io, m1_lt, m1_le, neg_1, gI_m1, PM.p0, PM.p1, PM.p3, PM.p4, PM.p5, PM.p6, PM.p7, PM.p8, PM.p9, PM.p10, PM.p11, PM.p12, PM.p13, PM.p14, PM.p15, PM.p16, PM.p17, PM.p18, PM.p19, PM.p31, PM.p32, PM.p33, PM.p34, PM.p38, PM.p39, PM.p40, PM.p41, PM.p42, PM.p46, PM.p47, PM.p50, PM.p51, PM.p52, PM.p53, PM.p54, PM.p55, PM.p56, PM.p57, K0_1, K0_2, K0_3, K0_4, K0_5, K0_6, K0_7, K0_8, K0_9, K0_10, K0_11, K0_12, K0_13, K0_14, K0_15, K0_16, K0_17, K0_18, K0_19, K0_20, K0_21, K0_22, K0_23, K0_24, K0_25, K0_26, K0_27, K0_28, K0_29, K0_30, K0_31, K0_32, K0_33, K0_34, K0_35, K0_36, K0_37, K0_38, K0_39, K0_40, K0_41, K0_42, K0_43, K0_44, K0_45, K0_46, K0_47, K0_48, K0_49, K0_50, K0_51, K0_52, K0_53, K0_54, K0_55, K0_56, K0_57, K0_58, K0_59, K0_60, K0_61, K0_62, K0_63, K0_64, K0_65, K0_66, K0_67, K0_68, K0_69, K0_70, K0_71, K0_72, K0_73, K0_74, K0_75, K0_76, K0_77, K0_78, K0_79, K0_80, K0_81, K0_82, K0_83, K0_84, K0_85, K0_86, K0_87, K0_88, K0_89, K0_90, K0_91, K0_92, K0_93, K0_94, K0_95, K0_96, K0_97, K0_98, K0_99, K0_100, K0_101, K0_102, K0_103, K0_104, K0_105, K0_106, K0_107, K0_108, K0_109, K0_110, K0_111, hPU]
    exact rec (j + 1) _ ⟨by omega, hF.sI (by unfold up72; omega)⟩ (by omega)
theorem m_initL {N : Mem} (hP : PM N) : Wp (zX12_init_L397 FU 72 (io 0) N) (fun _ N' => GFr up72 N N') := by
  generalize hFU : FU = fu
  rw [FU_val] at hFU
  refine loopW (L := fun f (j : Nat) U => zX12_init_L397 f 72 (io j) U) (J := fun j U => j ≤ 2 ∧ GFr up72 N U) (fun j _ => 2 - j) ?_ fu 0 N ⟨by omega, GFr.refl⟩ (by omega)
  intro f j U ⟨hj, hF⟩ rec
  have hPU : PM U := hF.PM hP
  show Wp (zX12_init_B397 (zX12_init_L397 f) 72 (io j) U) _
  unfold zX12_init_B397
  simp -dsimp (disch := first | assumption | omega) only [lit_0, lit_1, lit_2, lit_3, lit_4, lit_5, lit_6, lit_7, lit_8, lit_9, lit_10, lit_11, lit_12, lit_13, lit_14, lit_15, lit_16, lit_17, lit_18, lit_19, lit_20, lit_21, lit_22, lit_23, lit_24, lit_25, lit_26, lit_27, lit_28, lit_29, lit_30, lit_31, lit_32, lit_33, lit_34, lit_35, lit_36, lit_37, lit_38, lit_39, lit_40, lit_41, lit_42, lit_43, lit_44, lit_45, lit_46, lit_47, lit_48, lit_49, lit_50, lit_51, lit_52, lit_53, lit_54, lit_55, lit_56, lit_57, lit_58, lit_59, lit_60, lit_61, lit_62, lit_63, lit_64, lit_97, lit_99, lit_100, lit_122, lit_175, lit_176, lit_200, lit_255, lit_400, lit_700, lit_800, lit_999, lit_1000, lit_1400, lit_2000, lit_2033, lit_2038, lit_2100, lit_2124, lit_8000, lit_10000, lit_12345, lit_32767, lit_1000000, lit_1000000000, ↓bndX_h, ↓bndK_h, bxh_inl, bxh_inr, bkh_inl, bkh_inr, Nat.reduceEqDiff, ↓bnd_h, ↓lt_h, ↓ite_h, bh_some, lh_eq, ih_T, ih_F, ne_eq, not_false_eq_true, not_true_eq_false, eq_self, and_true, true_and, io_def, io_add, io_mul, io_sub, io_lt, io_le, io_eq, io_clamp, io_inbT, io_div, io_mod, io_m1, m1_io, m1_lt, m1_le, neg_1, gI_m1]
  refine Wp.csh (fun c => Wp.ret hF) (fun c => ?_)
  refine Wp.seq (m_atFirst1 hPU (by omega)) (fun _ U2 h2 => ?_)
  simp -dsimp (disch := first | assumption | omega) only [lit_0, lit_1, lit_2, lit_3, lit_4, lit_5, lit_6, lit_7, lit_8, lit_9, lit_10, lit_11, lit_12, lit_13, lit_14, lit_15, lit_16, lit_17, lit_18, lit_19, lit_20, lit_21, lit_22, lit_23, lit_24, lit_25, lit_26, lit_27, lit_28, lit_29, lit_30, lit_31, lit_32, lit_33, lit_34, lit_35, lit_36, lit_37, lit_38, lit_39, lit_40, lit_41, lit_42, lit_43, lit_44, lit_45, lit_46, lit_47, lit_48, lit_49, lit_50, lit_51, lit_52, lit_53, lit_54, lit_55, lit_56, lit_57, lit_58, lit_59, lit_60, lit_61, lit_62, lit_63, lit_64, lit_97, lit_99, lit_100, lit_122, lit_175, lit_176, lit_200, lit_255, lit_400, lit_700, lit_800, lit_999, lit_1000, lit_1400, lit_2000, lit_2033, lit_2038, lit_2100, lit_2124, lit_8000, lit_10000, lit_12345, lit_32767, lit_1000000, lit_1000000000, ↓bndX_h, ↓bndK_h, bxh_inl, bxh_inr, bkh_inl, bkh_inr, Nat.reduceEqDiff, ↓bnd_h, ↓lt_h, ↓ite_h, bh_some, lh_eq, ih_T, ih_F, ne_eq, not_false_eq_true, not_true_eq_false, eq_self, and_true, true_and, io_def, io_add, io_mul, io_sub, io_lt, io_le, io_eq, io_clamp, io_inbT, io_div, io_mod, io_m1, m1_io, m1_lt, m1_le, neg_1, gI_m1]
  exact rec (j + 1) _ ⟨by omega, hF.trans h2⟩ (by omega)
theorem low_gen {A M' : Mem} (hA : PM (ch12 A)) (h : zX12_init 72 72 A = some ((), M')) {o : Nat} (ho : o < 72) (k : Nat) : mI M' o k = mI A o k := by
  obtain ⟨x, N, e, hF⟩ := m_initL hA
  have e1 := (init12_inv h).symm.trans e
  have e2 : M' = N := (Prod.mk.inj (Option.some.inj e1)).2
  rw [e2, hF.1 o k (by unfold up72; omega), ch12_low ho]
theorem low3 {o : Nat} (ho : o < 72) (k : Nat) : mI Mc3 o k = mI Mc1 o k := by
  have n1 : o ≠ 111 := by omega
  have h3 : ∀ {A : Mem} {q : Nat}, o ≠ q → mI (zr A q) o k = mI A o k := fun h => mI_zrN h
  exact (h3 (A := Mc2) n1).trans ((low_gen pm12 Mc2_eq ho k).trans (h3 (by omega)))
theorem z3 {o : Nat} (ho : o < 72) (hA : (K0 o).1 ≠ 0) (k : Nat) : mI Mc3 o k = io 0 :=
  (low3 ho k).trans ((zr_X11 hA (Zr.zr (Or.inl Zr.M00)) Mc1_eq).1 k)
def STc : List (Nat × Nat × Int32) := [(12, 0, 0), (12, 1, 0), (12, 2, 1), (12, 3, 0), (12, 4, 100), (12, 5, 0), (12, 6, 0), (18, 0, (-1)), (18, 1, 0), (18, 2, 0), (18, 3, 0), (26, 0, 0), (26, 1, 0), (26, 2, 1), (26, 3, 0), (26, 4, 100), (26, 5, 0), (26, 6, 0), (32, 0, (-1)), (32, 1, 0), (32, 2, 0), (32, 3, 0), (19, 0, 0), (19, 1, 0), (19, 2, 0), (19, 3, 0), (19, 4, 0), (33, 0, 0), (33, 1, 0), (33, 2, 0), (33, 3, 0), (33, 4, 0), (1, 5, 0), (2, 1, 0), (1, 6, (-1)), (46, 2, 0), (49, 2, 0), (53, 2, 0), (56, 2, 0), (75, 0, 0), (76, 0, 1), (76, 5, 0), (76, 6, 100), (76, 1, (-1)), (76, 2, 0), (76, 3, 0), (76, 4, 0), (83, 0, 0), (84, 0, 0), (85, 0, 0), (87, 0, 0), (88, 0, 0), (75, 1, 0), (76, 7, 1), (76, 12, 0), (76, 13, 100), (76, 8, (-1)), (76, 9, 0), (76, 10, 0), (76, 11, 0), (83, 1, 0), (84, 1, 0), (85, 1, 0), (87, 1, 0), (88, 1, 0), (72, 49, 0), (72, 20, 0), (72, 29, (-1)), (90, 0, 0), (90, 1, 0), (90, 2, 0)]
theorem st_ok : ∀ t ∈ STc, mI Mc3 t.1 t.2.1 = t.2.2 := by decide +kernel
theorem st_89 : ∀ j ∈ List.range 64, mI Mc3 89 j = 0 := by decide +kernel
def g00 : GV := (0, 1, 0, 100, fun _ => 0, fun _ => 0, fun _ => 0, fun _ => 0, fun _ => 0, fun _ => 0, 0)
def V00 : VV := (fun _ => g00, fun _ => (0, 0, 0, 0), fun _ => b00, fun _ => b00, false, fun _ => io 0, fun _ => io 0, 0, fun _ => 0, m1)
def R00 (i : Nat) : Nat := if i = 0 then 12 else if i = 1 then 26 else 4
theorem okV_00 : okV V00 :=
  ⟨fun g _ => ⟨⟨by show 0 ≤ 8; omega, by show 1 ≤ 2; omega, by show 0 ≤ 100; omega, by show 1 ≤ 100; omega, by show 100 ≤ 999; omega, by show 0 ≤ 700; omega, fun s hs => absurd hs (Nat.not_lt_zero s)⟩, ⟨Nat.zero_le _, Nat.zero_le _, Nat.zero_le _, Nat.zero_le _⟩, okB_00, fun z => (by cases z)⟩, Nat.zero_le _, fun k hk => absurd hk (Nat.not_lt_zero k)⟩
theorem ptc1_in : ∀ t ∈ PTc1, t ∈ PTc := by decide
theorem ptc2_in : ∀ t ∈ PTc2, t ∈ PTc := by decide
theorem cg_00 {r : Nat} (hr : r = 12 ∨ r = 26) : CG Mc3 r g00 ∧ CS Mc3 (r + 6) (0, 0, 0, 0) := by
  rcases hr with rfl | rfl
  · exact ⟨⟨st_ok (12, 0, 0) (by decide), st_ok (12, 1, 0) (by decide), st_ok (12, 2, 1) (by decide), st_ok (12, 3, 0) (by decide), st_ok (12, 4, 100) (by decide), st_ok (12, 6, 0) (by decide), fun s hs => absurd hs (Nat.not_lt_zero s), fun k hk => absurd hk (Nat.not_lt_zero k), 0, by omega, st_ok (12, 5, 0) (by decide), fun k hk => absurd hk (Nat.not_lt_zero k)⟩, ⟨st_ok (18, 0, (-1)) (by decide), st_ok (18, 1, 0) (by decide), st_ok (18, 2, 0) (by decide), st_ok (18, 3, 0) (by decide)⟩⟩
  · exact ⟨⟨st_ok (26, 0, 0) (by decide), st_ok (26, 1, 0) (by decide), st_ok (26, 2, 1) (by decide), st_ok (26, 3, 0) (by decide), st_ok (26, 4, 100) (by decide), st_ok (26, 6, 0) (by decide), fun s hs => absurd hs (Nat.not_lt_zero s), fun k hk => absurd hk (Nat.not_lt_zero k), 0, by omega, st_ok (26, 5, 0) (by decide), fun k hk => absurd hk (Nat.not_lt_zero k)⟩, ⟨st_ok (32, 0, (-1)) (by decide), st_ok (32, 1, 0) (by decide), st_ok (32, 2, 0) (by decide), st_ok (32, 3, 0) (by decide)⟩⟩
theorem cb_00 {o : Nat} (ho : o = 19 ∨ o = 33) : CB Mc3 o b00 := by
  rcases ho with rfl | rfl
  · exact ⟨st_ok (19, 0, 0) (by decide), st_ok (19, 1, 0) (by decide), st_ok (19, 2, 0) (by decide), st_ok (19, 3, 0) (by decide), st_ok (19, 4, 0) (by decide), fun i hi => absurd hi (Nat.not_lt_zero i), fun j _ => z3 (by omega) (by decide) j⟩
  · exact ⟨st_ok (33, 0, 0) (by decide), st_ok (33, 1, 0) (by decide), st_ok (33, 2, 0) (by decide), st_ok (33, 3, 0) (by decide), st_ok (33, 4, 0) (by decide), fun i hi => absurd hi (Nat.not_lt_zero i), fun j _ => z3 (by omega) (by decide) j⟩
theorem caI_0 {o N : Nat} (ho : o + 1 < 72) (hA : (K0 (o + 1)).1 ≠ 0) (h : mI Mc3 o 2 = io 0) : ∃ cs, CaI Mc3 o N cs :=
  ⟨fun _ => 0, [], List.nodup_nil, fun t => ⟨fun z => absurd z List.not_mem_nil, fun z => absurd rfl z⟩, fun t z => absurd rfl z, h, fun i z => absurd z (Nat.not_lt_zero i), fun t _ => z3 ho hA t⟩
theorem icp_00 : ICp Mc3 R00 V00 := by
  refine ⟨fun t ht => ptc_ok t (ptc1_in t ht), ⟨ptc_ok (11, 0, 12) (by decide), ptc_ok (25, 0, 26) (by decide), ptc_ok (2, 3, 4) (by decide), Or.inr (Or.inl rfl), Or.inr (Or.inr rfl), Or.inl rfl, by decide, by decide, by decide⟩, fun g hg => ?_, st_ok (1, 5, 0) (by decide), fun i hi => z3 (by omega) (by decide) i, fun z => (by cases z), st_ok (2, 1, 0) (by decide), fun k hk => absurd hk (Nat.not_lt_zero k), st_ok (1, 6, (-1)) (by decide), fun r hr => ?_⟩
  · have hg' : g = 0 ∨ g = 1 := by omega
    rcases hg' with rfl | rfl
    · have h := cg_00 (r := 12) (Or.inl rfl)
      exact ⟨h.1, h.2, cb_00 (Or.inl rfl), fun z => (by cases z)⟩
    · have h := cg_00 (r := 26) (Or.inr rfl)
      exact ⟨h.1, h.2, cb_00 (Or.inr rfl), fun z => (by cases z)⟩
  · rcases hr with rfl | rfl | rfl
    · exact z3 (by omega) (by decide) 0
    · exact z3 (by omega) (by decide) 0
    · exact z3 (by omega) (by decide) 0
theorem ics_00 : ICs Mc3 :=
  ⟨fun t ht => ptc_ok t (ptc2_in t ht), Or.inl ⟨ptc_ok (45, 1, 46) (by decide), ptc_ok (45, 2, 49) (by decide)⟩, Or.inl ⟨ptc_ok (52, 2, 53) (by decide), ptc_ok (52, 3, 56) (by decide)⟩, caI_0 (by omega) (by decide) (st_ok (46, 2, 0) (by decide)), caI_0 (by omega) (by decide) (st_ok (49, 2, 0) (by decide)), caI_0 (by omega) (by decide) (st_ok (53, 2, 0) (by decide)), caI_0 (by omega) (by decide) (st_ok (56, 2, 0) (by decide))⟩
theorem mb_00 {g : Nat} (hg : g < 2) : MG Mc3 g g00 ∧ MS Mc3 g (0, 0, 0, 0) ∧ MBk Mc3 83 g b00 := by
  have h89 : ∀ j, j < 32 → mI Mc3 89 (32 * g + j) = io 0 := fun j hj => st_89 _ (List.mem_range.mpr (by omega))
  have hg' : g = 0 ∨ g = 1 := by omega
  rcases hg' with rfl | rfl
  · exact ⟨⟨st_ok (75, 0, 0) (by decide), st_ok (76, 0, 1) (by decide), st_ok (76, 5, 0) (by decide), st_ok (76, 6, 100) (by decide), fun s hs => absurd hs (Nat.not_lt_zero s), fun k hk => absurd hk (Nat.not_lt_zero k)⟩, ⟨st_ok (76, 1, (-1)) (by decide), st_ok (76, 2, 0) (by decide), st_ok (76, 3, 0) (by decide), st_ok (76, 4, 0) (by decide)⟩, ⟨st_ok (83, 0, 0) (by decide), st_ok (84, 0, 0) (by decide), st_ok (85, 0, 0) (by decide), st_ok (87, 0, 0) (by decide), st_ok (88, 0, 0) (by decide), fun i hi => absurd hi (Nat.not_lt_zero i), h89⟩⟩
  · exact ⟨⟨st_ok (75, 1, 0) (by decide), st_ok (76, 7, 1) (by decide), st_ok (76, 12, 0) (by decide), st_ok (76, 13, 100) (by decide), fun s hs => absurd hs (Nat.not_lt_zero s), fun k hk => absurd hk (Nat.not_lt_zero k)⟩, ⟨st_ok (76, 8, (-1)) (by decide), st_ok (76, 9, 0) (by decide), st_ok (76, 10, 0) (by decide), st_ok (76, 11, 0) (by decide)⟩, ⟨st_ok (83, 1, 0) (by decide), st_ok (84, 1, 0) (by decide), st_ok (85, 1, 0) (by decide), st_ok (87, 1, 0) (by decide), st_ok (88, 1, 0) (by decide), fun i hi => absurd hi (Nat.not_lt_zero i), h89⟩⟩
theorem im_00 : IM Mc3 V00 := by
  refine ⟨ptm_ok, fun g hg => ⟨(mb_00 hg).1, (mb_00 hg).2.1, (mb_00 hg).2.2, fun z => (by cases z)⟩, st_ok (72, 49, 0) (by decide), fun i hi => ?_, fun z => (by cases z), st_ok (72, 20, 0) (by decide), fun k hk => absurd hk (Nat.not_lt_zero k), st_ok (72, 29, (-1)) (by decide)⟩
  have hi' : i = 0 ∨ i = 1 ∨ i = 2 := by omega
  rcases hi' with rfl | rfl | rfl
  · exact st_ok (90, 0, 0) (by decide)
  · exact st_ok (90, 1, 0) (by decide)
  · exact st_ok (90, 2, 0) (by decide)
theorem inv_start : Inv Mc3 := ⟨R00, V00, okV_00, icp_00, ics_00, im_00⟩
/-- the law comes to its end with 1 -/
theorem law_one {L : Nat} (hL : L ≤ 3072) (xs : Nat → Int32) : ∃ M9, zL_law L xs M00 = some (1, M9) := by
  rw [zlaw_start]
  have h := law_loop (case_feed op_feed) (case_gate op_gate) (case_fault op_fault) (case_count op_count) (case_about op_about) (case_sort op_sort) (case_gives op_gives) (case_next op_next) (case_seed op_seed) (case_set op_set) (case_coin op_coin) (case_cases op_cases) (case_drift op_drift) (case_turn op_turn) (case_rest op_rest) (case_best op_best) (case_would op_would) (case_card op_card) (case_seeded op_seeded) (case_price op_price) (case_priced op_priced) (case_mixed op_mixed) (case_near op_near) (case_give op_give) (case_given op_given) (case_who op_who) (case_strange op_strange) (case_fewest op_fewest) (case_guess op_guess) (case_credit op_credit) (case_drawn op_drawn) (case_empty op_empty) (case_image op_image) (case_restore op_restore) 513 0 Mc3 L xs hL inv_start rfl (Nat.zero_le _)
  have e : Int32.ofNat (6 * 0) = 0 := rfl
  rw [e] at h
  exact h
