/-! ===== LEVEL 2: the cases of the law, from what the operations owe (printed by gen) ===== -/
theorem case_feed (h : ∀ a1 a2 a3 a4 a5, OpI (zX11_feed 1 a1 a2 a3 a4 a5) (zX12_feed 72 a1 a2 a3 a4 a5)) : StepOK Inv zL_law_B192 := by
  intro L xs KK i M ⟨R, V, hV, hIp, hIs, hM⟩ h6 hL
  obtain ⟨R', V', r, hV', ⟨x, M1, e1, hx, hIp1, hIs1, hF1⟩, hG⟩ := h (xs (6 * i + 1)) (xs (6 * i + 2)) (xs (6 * i + 3)) (xs (6 * i + 4)) (xs (6 * i + 5)) M R V hV hIp hIs
  obtain ⟨y, N1, e2, hy, hIM1, hF2⟩ := hG M1 (hM.side hF1)
  refine ⟨N1, Inv.of hV' hIp1 hIs1 hIM1 hF2, ?_⟩
  subst hx hy
  unfold zL_law_B192
  simp -dsimp (disch := first | assumption | omega) only [lit_0, lit_1, lit_2, lit_3, lit_4, lit_5, lit_6, lit_7, lit_8, lit_9, lit_10, lit_11, lit_12, lit_13, lit_14, lit_15, lit_16, lit_17, lit_18, lit_19, lit_20, lit_21, lit_22, lit_23, lit_24, lit_25, lit_26, lit_27, lit_28, lit_29, lit_30, lit_31, lit_32, lit_33, lit_34, lit_35, lit_36, lit_37, lit_38, lit_39, lit_40, lit_41, lit_42, lit_43, lit_44, lit_45, lit_46, lit_47, lit_48, lit_49, lit_50, lit_51, lit_52, lit_53, lit_54, lit_55, lit_56, lit_57, lit_58, lit_59, lit_60, lit_61, lit_62, lit_63, lit_64, lit_97, lit_99, lit_100, lit_122, lit_175, lit_176, lit_200, lit_255, lit_400, lit_700, lit_800, lit_999, lit_1000, lit_1400, lit_2000, lit_2033, lit_2038, lit_2100, lit_2124, lit_8000, lit_10000, lit_12345, lit_32767, lit_1000000, lit_1000000000, ↓bndX_h, ↓bndK_h, bxh_inl, bxh_inr, bkh_inl, bkh_inr, Nat.reduceEqDiff, ↓bnd_h, ↓lt_h, ↓ite_h, bh_some, lh_eq, ih_T, ih_F, ne_eq, not_false_eq_true, not_true_eq_false, eq_self, and_true, true_and, io_def, io_add, io_mul, io_sub, io_lt, io_le, io_eq, io_clamp, io_inbT, io_div, io_mod, io_m1, m1_io, m1_lt, m1_le, neg_1, gI_m1, K0_1, K0_72, K0_111, io_inbT, Nat.reduceAdd, lg_self, m_thrown, zL_law_B2480, e1, e2]
theorem case_gate (h : ∀ a1 a2, OpR 1 (zX11_gate 1 a1 a2) (zX12_gate 72 a1 a2)) : StepOK Inv zL_law_B265 := by
  intro L xs KK i M ⟨R, V, hV, hIp, hIs, hM⟩ h6 hL
  obtain ⟨R', V', r, hV', hE, ⟨x, M1, e1, hx, hIp1, hIs1, hF1⟩, hG⟩ := h (xs (6 * i + 1)) (xs (6 * i + 2)) M R V hV hIp hIs
  subst hx
  unfold zL_law_B265 zL_law_B330
  cases x with
  | inl x =>
    obtain ⟨y, N1, e2, ⟨hc, hy⟩, hIM1, hF2⟩ := hG (sL M1 111 0 x.toInt64) (hM.side hF1).out
    subst hy
    refine ⟨N1, Inv.of (M := sL M1 111 0 y.toInt64) hV' hIp1 hIs1 hIM1 hF2, ?_⟩
    have e3 : mL N1 111 0 = y.toInt64 := (hF2.L rfl (by omega)).trans (by rw [mL_sL, if_pos ⟨rfl, rfl⟩])
    simp -dsimp (disch := first | assumption | omega) only [lit_0, lit_1, lit_2, lit_3, lit_4, lit_5, lit_6, lit_7, lit_8, lit_9, lit_10, lit_11, lit_12, lit_13, lit_14, lit_15, lit_16, lit_17, lit_18, lit_19, lit_20, lit_21, lit_22, lit_23, lit_24, lit_25, lit_26, lit_27, lit_28, lit_29, lit_30, lit_31, lit_32, lit_33, lit_34, lit_35, lit_36, lit_37, lit_38, lit_39, lit_40, lit_41, lit_42, lit_43, lit_44, lit_45, lit_46, lit_47, lit_48, lit_49, lit_50, lit_51, lit_52, lit_53, lit_54, lit_55, lit_56, lit_57, lit_58, lit_59, lit_60, lit_61, lit_62, lit_63, lit_64, lit_97, lit_99, lit_100, lit_122, lit_175, lit_176, lit_200, lit_255, lit_400, lit_700, lit_800, lit_999, lit_1000, lit_1400, lit_2000, lit_2033, lit_2038, lit_2100, lit_2124, lit_8000, lit_10000, lit_12345, lit_32767, lit_1000000, lit_1000000000, ↓bndX_h, ↓bndK_h, bxh_inl, bxh_inr, bkh_inl, bkh_inr, Nat.reduceEqDiff, ↓bnd_h, ↓lt_h, ↓ite_h, bh_some, lh_eq, ih_T, ih_F, ne_eq, not_false_eq_true, not_true_eq_false, eq_self, and_true, true_and, io_def, io_add, io_mul, io_sub, io_lt, io_le, io_eq, io_clamp, io_inbT, io_div, io_mod, io_m1, m1_io, m1_lt, m1_le, neg_1, gI_m1, K0_1, K0_72, K0_111, io_inbT, Nat.reduceAdd, lg_self, m_thrown, zL_law_B2480, zL_gate, e1, e2, e3, hc]
  | inr e =>
    obtain ⟨y, N1, e2, hc, hIM1, hF2⟩ := hG M1 (hM.side hF1)
    refine ⟨N1, Inv.of hV' hIp1 hIs1 hIM1 hF2, ?_⟩
    rcases hc with ⟨he, hc⟩ | ⟨he, hc⟩
    · subst he
      simp -dsimp (disch := first | assumption | omega) only [lit_0, lit_1, lit_2, lit_3, lit_4, lit_5, lit_6, lit_7, lit_8, lit_9, lit_10, lit_11, lit_12, lit_13, lit_14, lit_15, lit_16, lit_17, lit_18, lit_19, lit_20, lit_21, lit_22, lit_23, lit_24, lit_25, lit_26, lit_27, lit_28, lit_29, lit_30, lit_31, lit_32, lit_33, lit_34, lit_35, lit_36, lit_37, lit_38, lit_39, lit_40, lit_41, lit_42, lit_43, lit_44, lit_45, lit_46, lit_47, lit_48, lit_49, lit_50, lit_51, lit_52, lit_53, lit_54, lit_55, lit_56, lit_57, lit_58, lit_59, lit_60, lit_61, lit_62, lit_63, lit_64, lit_97, lit_99, lit_100, lit_122, lit_175, lit_176, lit_200, lit_255, lit_400, lit_700, lit_800, lit_999, lit_1000, lit_1400, lit_2000, lit_2033, lit_2038, lit_2100, lit_2124, lit_8000, lit_10000, lit_12345, lit_32767, lit_1000000, lit_1000000000, ↓bndX_h, ↓bndK_h, bxh_inl, bxh_inr, bkh_inl, bkh_inr, Nat.reduceEqDiff, ↓bnd_h, ↓lt_h, ↓ite_h, bh_some, lh_eq, ih_T, ih_F, ne_eq, not_false_eq_true, not_true_eq_false, eq_self, and_true, true_and, io_def, io_add, io_mul, io_sub, io_lt, io_le, io_eq, io_clamp, io_inbT, io_div, io_mod, io_m1, m1_io, m1_lt, m1_le, neg_1, gI_m1, K0_1, K0_72, K0_111, io_inbT, Nat.reduceAdd, lg_self, m_thrown, zL_law_B2480, zL_gate, e1, e2, hc]
    · subst he
      simp -dsimp (disch := first | assumption | omega) only [lit_0, lit_1, lit_2, lit_3, lit_4, lit_5, lit_6, lit_7, lit_8, lit_9, lit_10, lit_11, lit_12, lit_13, lit_14, lit_15, lit_16, lit_17, lit_18, lit_19, lit_20, lit_21, lit_22, lit_23, lit_24, lit_25, lit_26, lit_27, lit_28, lit_29, lit_30, lit_31, lit_32, lit_33, lit_34, lit_35, lit_36, lit_37, lit_38, lit_39, lit_40, lit_41, lit_42, lit_43, lit_44, lit_45, lit_46, lit_47, lit_48, lit_49, lit_50, lit_51, lit_52, lit_53, lit_54, lit_55, lit_56, lit_57, lit_58, lit_59, lit_60, lit_61, lit_62, lit_63, lit_64, lit_97, lit_99, lit_100, lit_122, lit_175, lit_176, lit_200, lit_255, lit_400, lit_700, lit_800, lit_999, lit_1000, lit_1400, lit_2000, lit_2033, lit_2038, lit_2100, lit_2124, lit_8000, lit_10000, lit_12345, lit_32767, lit_1000000, lit_1000000000, ↓bndX_h, ↓bndK_h, bxh_inl, bxh_inr, bkh_inl, bkh_inr, Nat.reduceEqDiff, ↓bnd_h, ↓lt_h, ↓ite_h, bh_some, lh_eq, ih_T, ih_F, ne_eq, not_false_eq_true, not_true_eq_false, eq_self, and_true, true_and, io_def, io_add, io_mul, io_sub, io_lt, io_le, io_eq, io_clamp, io_inbT, io_div, io_mod, io_m1, m1_io, m1_lt, m1_le, neg_1, gI_m1, K0_1, K0_72, K0_111, io_inbT, Nat.reduceAdd, lg_self, m_thrown, zL_law_B2480, zL_gate, e1, e2, hc]
theorem case_fault (h : OpI (zX11_fault 1) (zX12_fault 72)) : StepOK Inv zL_law_B333 := by
  intro L xs KK i M ⟨R, V, hV, hIp, hIs, hM⟩ h6 hL
  obtain ⟨R', V', r, hV', ⟨x, M1, e1, hx, hIp1, hIs1, hF1⟩, hG⟩ := h  M R V hV hIp hIs
  obtain ⟨y, N1, e2, hy, hIM1, hF2⟩ := hG M1 (hM.side hF1)
  refine ⟨N1, Inv.of hV' hIp1 hIs1 hIM1 hF2, ?_⟩
  subst hx hy
  unfold zL_law_B333
  simp -dsimp (disch := first | assumption | omega) only [lit_0, lit_1, lit_2, lit_3, lit_4, lit_5, lit_6, lit_7, lit_8, lit_9, lit_10, lit_11, lit_12, lit_13, lit_14, lit_15, lit_16, lit_17, lit_18, lit_19, lit_20, lit_21, lit_22, lit_23, lit_24, lit_25, lit_26, lit_27, lit_28, lit_29, lit_30, lit_31, lit_32, lit_33, lit_34, lit_35, lit_36, lit_37, lit_38, lit_39, lit_40, lit_41, lit_42, lit_43, lit_44, lit_45, lit_46, lit_47, lit_48, lit_49, lit_50, lit_51, lit_52, lit_53, lit_54, lit_55, lit_56, lit_57, lit_58, lit_59, lit_60, lit_61, lit_62, lit_63, lit_64, lit_97, lit_99, lit_100, lit_122, lit_175, lit_176, lit_200, lit_255, lit_400, lit_700, lit_800, lit_999, lit_1000, lit_1400, lit_2000, lit_2033, lit_2038, lit_2100, lit_2124, lit_8000, lit_10000, lit_12345, lit_32767, lit_1000000, lit_1000000000, ↓bndX_h, ↓bndK_h, bxh_inl, bxh_inr, bkh_inl, bkh_inr, Nat.reduceEqDiff, ↓bnd_h, ↓lt_h, ↓ite_h, bh_some, lh_eq, ih_T, ih_F, ne_eq, not_false_eq_true, not_true_eq_false, eq_self, and_true, true_and, io_def, io_add, io_mul, io_sub, io_lt, io_le, io_eq, io_clamp, io_inbT, io_div, io_mod, io_m1, m1_io, m1_lt, m1_le, neg_1, gI_m1, K0_1, K0_72, K0_111, io_inbT, Nat.reduceAdd, lg_self, m_thrown, zL_law_B2480, e1, e2]
theorem case_count (h : ∀ a1, OpR 0 (zX11_count 1 a1) (zX12_count 72 a1)) : StepOK Inv zL_law_B346 := by
  intro L xs KK i M ⟨R, V, hV, hIp, hIs, hM⟩ h6 hL
  obtain ⟨R', V', r, hV', hE, ⟨x, M1, e1, hx, hIp1, hIs1, hF1⟩, hG⟩ := h (xs (6 * i + 1)) M R V hV hIp hIs
  subst hx
  unfold zL_law_B346 zL_law_B399
  cases x with
  | inl x =>
    obtain ⟨y, N1, e2, ⟨hc, hy⟩, hIM1, hF2⟩ := hG (sL M1 111 0 x.toInt64) (hM.side hF1).out
    subst hy
    refine ⟨N1, Inv.of (M := sL M1 111 0 y.toInt64) hV' hIp1 hIs1 hIM1 hF2, ?_⟩
    have e3 : mL N1 111 0 = y.toInt64 := (hF2.L rfl (by omega)).trans (by rw [mL_sL, if_pos ⟨rfl, rfl⟩])
    simp -dsimp (disch := first | assumption | omega) only [lit_0, lit_1, lit_2, lit_3, lit_4, lit_5, lit_6, lit_7, lit_8, lit_9, lit_10, lit_11, lit_12, lit_13, lit_14, lit_15, lit_16, lit_17, lit_18, lit_19, lit_20, lit_21, lit_22, lit_23, lit_24, lit_25, lit_26, lit_27, lit_28, lit_29, lit_30, lit_31, lit_32, lit_33, lit_34, lit_35, lit_36, lit_37, lit_38, lit_39, lit_40, lit_41, lit_42, lit_43, lit_44, lit_45, lit_46, lit_47, lit_48, lit_49, lit_50, lit_51, lit_52, lit_53, lit_54, lit_55, lit_56, lit_57, lit_58, lit_59, lit_60, lit_61, lit_62, lit_63, lit_64, lit_97, lit_99, lit_100, lit_122, lit_175, lit_176, lit_200, lit_255, lit_400, lit_700, lit_800, lit_999, lit_1000, lit_1400, lit_2000, lit_2033, lit_2038, lit_2100, lit_2124, lit_8000, lit_10000, lit_12345, lit_32767, lit_1000000, lit_1000000000, ↓bndX_h, ↓bndK_h, bxh_inl, bxh_inr, bkh_inl, bkh_inr, Nat.reduceEqDiff, ↓bnd_h, ↓lt_h, ↓ite_h, bh_some, lh_eq, ih_T, ih_F, ne_eq, not_false_eq_true, not_true_eq_false, eq_self, and_true, true_and, io_def, io_add, io_mul, io_sub, io_lt, io_le, io_eq, io_clamp, io_inbT, io_div, io_mod, io_m1, m1_io, m1_lt, m1_le, neg_1, gI_m1, K0_1, K0_72, K0_111, io_inbT, Nat.reduceAdd, lg_self, m_thrown, zL_law_B2480, zL_count, e1, e2, e3, hc]
  | inr e =>
    obtain ⟨y, N1, e2, hc, hIM1, hF2⟩ := hG M1 (hM.side hF1)
    refine ⟨N1, Inv.of hV' hIp1 hIs1 hIM1 hF2, ?_⟩
    rcases hc with ⟨he, hc⟩ | ⟨he, hc⟩
    · subst he
      simp -dsimp (disch := first | assumption | omega) only [lit_0, lit_1, lit_2, lit_3, lit_4, lit_5, lit_6, lit_7, lit_8, lit_9, lit_10, lit_11, lit_12, lit_13, lit_14, lit_15, lit_16, lit_17, lit_18, lit_19, lit_20, lit_21, lit_22, lit_23, lit_24, lit_25, lit_26, lit_27, lit_28, lit_29, lit_30, lit_31, lit_32, lit_33, lit_34, lit_35, lit_36, lit_37, lit_38, lit_39, lit_40, lit_41, lit_42, lit_43, lit_44, lit_45, lit_46, lit_47, lit_48, lit_49, lit_50, lit_51, lit_52, lit_53, lit_54, lit_55, lit_56, lit_57, lit_58, lit_59, lit_60, lit_61, lit_62, lit_63, lit_64, lit_97, lit_99, lit_100, lit_122, lit_175, lit_176, lit_200, lit_255, lit_400, lit_700, lit_800, lit_999, lit_1000, lit_1400, lit_2000, lit_2033, lit_2038, lit_2100, lit_2124, lit_8000, lit_10000, lit_12345, lit_32767, lit_1000000, lit_1000000000, ↓bndX_h, ↓bndK_h, bxh_inl, bxh_inr, bkh_inl, bkh_inr, Nat.reduceEqDiff, ↓bnd_h, ↓lt_h, ↓ite_h, bh_some, lh_eq, ih_T, ih_F, ne_eq, not_false_eq_true, not_true_eq_false, eq_self, and_true, true_and, io_def, io_add, io_mul, io_sub, io_lt, io_le, io_eq, io_clamp, io_inbT, io_div, io_mod, io_m1, m1_io, m1_lt, m1_le, neg_1, gI_m1, K0_1, K0_72, K0_111, io_inbT, Nat.reduceAdd, lg_self, m_thrown, zL_law_B2480, zL_count, e1, e2, hc]
    · subst he
      exact absurd hE (show ¬ (1 ≤ 0) from by decide)
theorem case_about (h : ∀ a1 a2, OpR 0 (zX11_about 1 a1 a2) (zX12_about 72 a1 a2)) : StepOK Inv zL_law_B402 := by
  intro L xs KK i M ⟨R, V, hV, hIp, hIs, hM⟩ h6 hL
  obtain ⟨R', V', r, hV', hE, ⟨x, M1, e1, hx, hIp1, hIs1, hF1⟩, hG⟩ := h (xs (6 * i + 1)) (xs (6 * i + 2)) M R V hV hIp hIs
  subst hx
  unfold zL_law_B402 zL_law_B467
  cases x with
  | inl x =>
    obtain ⟨y, N1, e2, ⟨hc, hy⟩, hIM1, hF2⟩ := hG (sL M1 111 0 x.toInt64) (hM.side hF1).out
    subst hy
    refine ⟨N1, Inv.of (M := sL M1 111 0 y.toInt64) hV' hIp1 hIs1 hIM1 hF2, ?_⟩
    have e3 : mL N1 111 0 = y.toInt64 := (hF2.L rfl (by omega)).trans (by rw [mL_sL, if_pos ⟨rfl, rfl⟩])
    simp -dsimp (disch := first | assumption | omega) only [lit_0, lit_1, lit_2, lit_3, lit_4, lit_5, lit_6, lit_7, lit_8, lit_9, lit_10, lit_11, lit_12, lit_13, lit_14, lit_15, lit_16, lit_17, lit_18, lit_19, lit_20, lit_21, lit_22, lit_23, lit_24, lit_25, lit_26, lit_27, lit_28, lit_29, lit_30, lit_31, lit_32, lit_33, lit_34, lit_35, lit_36, lit_37, lit_38, lit_39, lit_40, lit_41, lit_42, lit_43, lit_44, lit_45, lit_46, lit_47, lit_48, lit_49, lit_50, lit_51, lit_52, lit_53, lit_54, lit_55, lit_56, lit_57, lit_58, lit_59, lit_60, lit_61, lit_62, lit_63, lit_64, lit_97, lit_99, lit_100, lit_122, lit_175, lit_176, lit_200, lit_255, lit_400, lit_700, lit_800, lit_999, lit_1000, lit_1400, lit_2000, lit_2033, lit_2038, lit_2100, lit_2124, lit_8000, lit_10000, lit_12345, lit_32767, lit_1000000, lit_1000000000, ↓bndX_h, ↓bndK_h, bxh_inl, bxh_inr, bkh_inl, bkh_inr, Nat.reduceEqDiff, ↓bnd_h, ↓lt_h, ↓ite_h, bh_some, lh_eq, ih_T, ih_F, ne_eq, not_false_eq_true, not_true_eq_false, eq_self, and_true, true_and, io_def, io_add, io_mul, io_sub, io_lt, io_le, io_eq, io_clamp, io_inbT, io_div, io_mod, io_m1, m1_io, m1_lt, m1_le, neg_1, gI_m1, K0_1, K0_72, K0_111, io_inbT, Nat.reduceAdd, lg_self, m_thrown, zL_law_B2480, zL_about, e1, e2, e3, hc]
  | inr e =>
    obtain ⟨y, N1, e2, hc, hIM1, hF2⟩ := hG M1 (hM.side hF1)
    refine ⟨N1, Inv.of hV' hIp1 hIs1 hIM1 hF2, ?_⟩
    rcases hc with ⟨he, hc⟩ | ⟨he, hc⟩
    · subst he
      simp -dsimp (disch := first | assumption | omega) only [lit_0, lit_1, lit_2, lit_3, lit_4, lit_5, lit_6, lit_7, lit_8, lit_9, lit_10, lit_11, lit_12, lit_13, lit_14, lit_15, lit_16, lit_17, lit_18, lit_19, lit_20, lit_21, lit_22, lit_23, lit_24, lit_25, lit_26, lit_27, lit_28, lit_29, lit_30, lit_31, lit_32, lit_33, lit_34, lit_35, lit_36, lit_37, lit_38, lit_39, lit_40, lit_41, lit_42, lit_43, lit_44, lit_45, lit_46, lit_47, lit_48, lit_49, lit_50, lit_51, lit_52, lit_53, lit_54, lit_55, lit_56, lit_57, lit_58, lit_59, lit_60, lit_61, lit_62, lit_63, lit_64, lit_97, lit_99, lit_100, lit_122, lit_175, lit_176, lit_200, lit_255, lit_400, lit_700, lit_800, lit_999, lit_1000, lit_1400, lit_2000, lit_2033, lit_2038, lit_2100, lit_2124, lit_8000, lit_10000, lit_12345, lit_32767, lit_1000000, lit_1000000000, ↓bndX_h, ↓bndK_h, bxh_inl, bxh_inr, bkh_inl, bkh_inr, Nat.reduceEqDiff, ↓bnd_h, ↓lt_h, ↓ite_h, bh_some, lh_eq, ih_T, ih_F, ne_eq, not_false_eq_true, not_true_eq_false, eq_self, and_true, true_and, io_def, io_add, io_mul, io_sub, io_lt, io_le, io_eq, io_clamp, io_inbT, io_div, io_mod, io_m1, m1_io, m1_lt, m1_le, neg_1, gI_m1, K0_1, K0_72, K0_111, io_inbT, Nat.reduceAdd, lg_self, m_thrown, zL_law_B2480, zL_about, e1, e2, hc]
    · subst he
      exact absurd hE (show ¬ (1 ≤ 0) from by decide)
theorem case_sort (h : ∀ a1 a2 a3, OpR 0 (zX11_sort 1 a1 a2 a3) (zX12_sort 72 a1 a2 a3)) : StepOK Inv zL_law_B470 := by
  intro L xs KK i M ⟨R, V, hV, hIp, hIs, hM⟩ h6 hL
  obtain ⟨R', V', r, hV', hE, ⟨x, M1, e1, hx, hIp1, hIs1, hF1⟩, hG⟩ := h (xs (6 * i + 1)) (xs (6 * i + 2)) (xs (6 * i + 3)) M R V hV hIp hIs
  subst hx
  unfold zL_law_B470 zL_law_B547
  cases x with
  | inl x =>
    obtain ⟨y, N1, e2, ⟨hc, hy⟩, hIM1, hF2⟩ := hG (sL M1 111 0 x.toInt64) (hM.side hF1).out
    subst hy
    refine ⟨N1, Inv.of (M := sL M1 111 0 y.toInt64) hV' hIp1 hIs1 hIM1 hF2, ?_⟩
    have e3 : mL N1 111 0 = y.toInt64 := (hF2.L rfl (by omega)).trans (by rw [mL_sL, if_pos ⟨rfl, rfl⟩])
    simp -dsimp (disch := first | assumption | omega) only [lit_0, lit_1, lit_2, lit_3, lit_4, lit_5, lit_6, lit_7, lit_8, lit_9, lit_10, lit_11, lit_12, lit_13, lit_14, lit_15, lit_16, lit_17, lit_18, lit_19, lit_20, lit_21, lit_22, lit_23, lit_24, lit_25, lit_26, lit_27, lit_28, lit_29, lit_30, lit_31, lit_32, lit_33, lit_34, lit_35, lit_36, lit_37, lit_38, lit_39, lit_40, lit_41, lit_42, lit_43, lit_44, lit_45, lit_46, lit_47, lit_48, lit_49, lit_50, lit_51, lit_52, lit_53, lit_54, lit_55, lit_56, lit_57, lit_58, lit_59, lit_60, lit_61, lit_62, lit_63, lit_64, lit_97, lit_99, lit_100, lit_122, lit_175, lit_176, lit_200, lit_255, lit_400, lit_700, lit_800, lit_999, lit_1000, lit_1400, lit_2000, lit_2033, lit_2038, lit_2100, lit_2124, lit_8000, lit_10000, lit_12345, lit_32767, lit_1000000, lit_1000000000, ↓bndX_h, ↓bndK_h, bxh_inl, bxh_inr, bkh_inl, bkh_inr, Nat.reduceEqDiff, ↓bnd_h, ↓lt_h, ↓ite_h, bh_some, lh_eq, ih_T, ih_F, ne_eq, not_false_eq_true, not_true_eq_false, eq_self, and_true, true_and, io_def, io_add, io_mul, io_sub, io_lt, io_le, io_eq, io_clamp, io_inbT, io_div, io_mod, io_m1, m1_io, m1_lt, m1_le, neg_1, gI_m1, K0_1, K0_72, K0_111, io_inbT, Nat.reduceAdd, lg_self, m_thrown, zL_law_B2480, zL_sort, e1, e2, e3, hc]
  | inr e =>
    obtain ⟨y, N1, e2, hc, hIM1, hF2⟩ := hG M1 (hM.side hF1)
    refine ⟨N1, Inv.of hV' hIp1 hIs1 hIM1 hF2, ?_⟩
    rcases hc with ⟨he, hc⟩ | ⟨he, hc⟩
    · subst he
      simp -dsimp (disch := first | assumption | omega) only [lit_0, lit_1, lit_2, lit_3, lit_4, lit_5, lit_6, lit_7, lit_8, lit_9, lit_10, lit_11, lit_12, lit_13, lit_14, lit_15, lit_16, lit_17, lit_18, lit_19, lit_20, lit_21, lit_22, lit_23, lit_24, lit_25, lit_26, lit_27, lit_28, lit_29, lit_30, lit_31, lit_32, lit_33, lit_34, lit_35, lit_36, lit_37, lit_38, lit_39, lit_40, lit_41, lit_42, lit_43, lit_44, lit_45, lit_46, lit_47, lit_48, lit_49, lit_50, lit_51, lit_52, lit_53, lit_54, lit_55, lit_56, lit_57, lit_58, lit_59, lit_60, lit_61, lit_62, lit_63, lit_64, lit_97, lit_99, lit_100, lit_122, lit_175, lit_176, lit_200, lit_255, lit_400, lit_700, lit_800, lit_999, lit_1000, lit_1400, lit_2000, lit_2033, lit_2038, lit_2100, lit_2124, lit_8000, lit_10000, lit_12345, lit_32767, lit_1000000, lit_1000000000, ↓bndX_h, ↓bndK_h, bxh_inl, bxh_inr, bkh_inl, bkh_inr, Nat.reduceEqDiff, ↓bnd_h, ↓lt_h, ↓ite_h, bh_some, lh_eq, ih_T, ih_F, ne_eq, not_false_eq_true, not_true_eq_false, eq_self, and_true, true_and, io_def, io_add, io_mul, io_sub, io_lt, io_le, io_eq, io_clamp, io_inbT, io_div, io_mod, io_m1, m1_io, m1_lt, m1_le, neg_1, gI_m1, K0_1, K0_72, K0_111, io_inbT, Nat.reduceAdd, lg_self, m_thrown, zL_law_B2480, zL_sort, e1, e2, hc]
    · subst he
      exact absurd hE (show ¬ (1 ≤ 0) from by decide)
theorem case_gives (h : ∀ a1 a2 a3, OpR 0 (zX11_gives 1 a1 a2 a3) (zX12_gives 72 a1 a2 a3)) : StepOK Inv zL_law_B550 := by
  intro L xs KK i M ⟨R, V, hV, hIp, hIs, hM⟩ h6 hL
  obtain ⟨R', V', r, hV', hE, ⟨x, M1, e1, hx, hIp1, hIs1, hF1⟩, hG⟩ := h (xs (6 * i + 1)) (xs (6 * i + 2)) (xs (6 * i + 3)) M R V hV hIp hIs
  subst hx
  unfold zL_law_B550 zL_law_B627
  cases x with
  | inl x =>
    obtain ⟨y, N1, e2, ⟨hc, hy⟩, hIM1, hF2⟩ := hG (sL M1 111 0 x.toInt64) (hM.side hF1).out
    subst hy
    refine ⟨N1, Inv.of (M := sL M1 111 0 y.toInt64) hV' hIp1 hIs1 hIM1 hF2, ?_⟩
    have e3 : mL N1 111 0 = y.toInt64 := (hF2.L rfl (by omega)).trans (by rw [mL_sL, if_pos ⟨rfl, rfl⟩])
    simp -dsimp (disch := first | assumption | omega) only [lit_0, lit_1, lit_2, lit_3, lit_4, lit_5, lit_6, lit_7, lit_8, lit_9, lit_10, lit_11, lit_12, lit_13, lit_14, lit_15, lit_16, lit_17, lit_18, lit_19, lit_20, lit_21, lit_22, lit_23, lit_24, lit_25, lit_26, lit_27, lit_28, lit_29, lit_30, lit_31, lit_32, lit_33, lit_34, lit_35, lit_36, lit_37, lit_38, lit_39, lit_40, lit_41, lit_42, lit_43, lit_44, lit_45, lit_46, lit_47, lit_48, lit_49, lit_50, lit_51, lit_52, lit_53, lit_54, lit_55, lit_56, lit_57, lit_58, lit_59, lit_60, lit_61, lit_62, lit_63, lit_64, lit_97, lit_99, lit_100, lit_122, lit_175, lit_176, lit_200, lit_255, lit_400, lit_700, lit_800, lit_999, lit_1000, lit_1400, lit_2000, lit_2033, lit_2038, lit_2100, lit_2124, lit_8000, lit_10000, lit_12345, lit_32767, lit_1000000, lit_1000000000, ↓bndX_h, ↓bndK_h, bxh_inl, bxh_inr, bkh_inl, bkh_inr, Nat.reduceEqDiff, ↓bnd_h, ↓lt_h, ↓ite_h, bh_some, lh_eq, ih_T, ih_F, ne_eq, not_false_eq_true, not_true_eq_false, eq_self, and_true, true_and, io_def, io_add, io_mul, io_sub, io_lt, io_le, io_eq, io_clamp, io_inbT, io_div, io_mod, io_m1, m1_io, m1_lt, m1_le, neg_1, gI_m1, K0_1, K0_72, K0_111, io_inbT, Nat.reduceAdd, lg_self, m_thrown, zL_law_B2480, zL_gives, e1, e2, e3, hc]
  | inr e =>
    obtain ⟨y, N1, e2, hc, hIM1, hF2⟩ := hG M1 (hM.side hF1)
    refine ⟨N1, Inv.of hV' hIp1 hIs1 hIM1 hF2, ?_⟩
    rcases hc with ⟨he, hc⟩ | ⟨he, hc⟩
    · subst he
      simp -dsimp (disch := first | assumption | omega) only [lit_0, lit_1, lit_2, lit_3, lit_4, lit_5, lit_6, lit_7, lit_8, lit_9, lit_10, lit_11, lit_12, lit_13, lit_14, lit_15, lit_16, lit_17, lit_18, lit_19, lit_20, lit_21, lit_22, lit_23, lit_24, lit_25, lit_26, lit_27, lit_28, lit_29, lit_30, lit_31, lit_32, lit_33, lit_34, lit_35, lit_36, lit_37, lit_38, lit_39, lit_40, lit_41, lit_42, lit_43, lit_44, lit_45, lit_46, lit_47, lit_48, lit_49, lit_50, lit_51, lit_52, lit_53, lit_54, lit_55, lit_56, lit_57, lit_58, lit_59, lit_60, lit_61, lit_62, lit_63, lit_64, lit_97, lit_99, lit_100, lit_122, lit_175, lit_176, lit_200, lit_255, lit_400, lit_700, lit_800, lit_999, lit_1000, lit_1400, lit_2000, lit_2033, lit_2038, lit_2100, lit_2124, lit_8000, lit_10000, lit_12345, lit_32767, lit_1000000, lit_1000000000, ↓bndX_h, ↓bndK_h, bxh_inl, bxh_inr, bkh_inl, bkh_inr, Nat.reduceEqDiff, ↓bnd_h, ↓lt_h, ↓ite_h, bh_some, lh_eq, ih_T, ih_F, ne_eq, not_false_eq_true, not_true_eq_false, eq_self, and_true, true_and, io_def, io_add, io_mul, io_sub, io_lt, io_le, io_eq, io_clamp, io_inbT, io_div, io_mod, io_m1, m1_io, m1_lt, m1_le, neg_1, gI_m1, K0_1, K0_72, K0_111, io_inbT, Nat.reduceAdd, lg_self, m_thrown, zL_law_B2480, zL_gives, e1, e2, hc]
    · subst he
      exact absurd hE (show ¬ (1 ≤ 0) from by decide)
theorem case_next (h : ∀ a1 a2 a3, OpR 0 (zX11_next 1 a1 a2 a3) (zX12_next 72 a1 a2 a3)) : StepOK Inv zL_law_B630 := by
  intro L xs KK i M ⟨R, V, hV, hIp, hIs, hM⟩ h6 hL
  obtain ⟨R', V', r, hV', hE, ⟨x, M1, e1, hx, hIp1, hIs1, hF1⟩, hG⟩ := h (xs (6 * i + 1)) (xs (6 * i + 2)) (xs (6 * i + 3)) M R V hV hIp hIs
  subst hx
  unfold zL_law_B630 zL_law_B707
  cases x with
  | inl x =>
    obtain ⟨y, N1, e2, ⟨hc, hy⟩, hIM1, hF2⟩ := hG (sL M1 111 0 x.toInt64) (hM.side hF1).out
    subst hy
    refine ⟨N1, Inv.of (M := sL M1 111 0 y.toInt64) hV' hIp1 hIs1 hIM1 hF2, ?_⟩
    have e3 : mL N1 111 0 = y.toInt64 := (hF2.L rfl (by omega)).trans (by rw [mL_sL, if_pos ⟨rfl, rfl⟩])
    simp -dsimp (disch := first | assumption | omega) only [lit_0, lit_1, lit_2, lit_3, lit_4, lit_5, lit_6, lit_7, lit_8, lit_9, lit_10, lit_11, lit_12, lit_13, lit_14, lit_15, lit_16, lit_17, lit_18, lit_19, lit_20, lit_21, lit_22, lit_23, lit_24, lit_25, lit_26, lit_27, lit_28, lit_29, lit_30, lit_31, lit_32, lit_33, lit_34, lit_35, lit_36, lit_37, lit_38, lit_39, lit_40, lit_41, lit_42, lit_43, lit_44, lit_45, lit_46, lit_47, lit_48, lit_49, lit_50, lit_51, lit_52, lit_53, lit_54, lit_55, lit_56, lit_57, lit_58, lit_59, lit_60, lit_61, lit_62, lit_63, lit_64, lit_97, lit_99, lit_100, lit_122, lit_175, lit_176, lit_200, lit_255, lit_400, lit_700, lit_800, lit_999, lit_1000, lit_1400, lit_2000, lit_2033, lit_2038, lit_2100, lit_2124, lit_8000, lit_10000, lit_12345, lit_32767, lit_1000000, lit_1000000000, ↓bndX_h, ↓bndK_h, bxh_inl, bxh_inr, bkh_inl, bkh_inr, Nat.reduceEqDiff, ↓bnd_h, ↓lt_h, ↓ite_h, bh_some, lh_eq, ih_T, ih_F, ne_eq, not_false_eq_true, not_true_eq_false, eq_self, and_true, true_and, io_def, io_add, io_mul, io_sub, io_lt, io_le, io_eq, io_clamp, io_inbT, io_div, io_mod, io_m1, m1_io, m1_lt, m1_le, neg_1, gI_m1, K0_1, K0_72, K0_111, io_inbT, Nat.reduceAdd, lg_self, m_thrown, zL_law_B2480, zL_next, e1, e2, e3, hc]
  | inr e =>
    obtain ⟨y, N1, e2, hc, hIM1, hF2⟩ := hG M1 (hM.side hF1)
    refine ⟨N1, Inv.of hV' hIp1 hIs1 hIM1 hF2, ?_⟩
    rcases hc with ⟨he, hc⟩ | ⟨he, hc⟩
    · subst he
      simp -dsimp (disch := first | assumption | omega) only [lit_0, lit_1, lit_2, lit_3, lit_4, lit_5, lit_6, lit_7, lit_8, lit_9, lit_10, lit_11, lit_12, lit_13, lit_14, lit_15, lit_16, lit_17, lit_18, lit_19, lit_20, lit_21, lit_22, lit_23, lit_24, lit_25, lit_26, lit_27, lit_28, lit_29, lit_30, lit_31, lit_32, lit_33, lit_34, lit_35, lit_36, lit_37, lit_38, lit_39, lit_40, lit_41, lit_42, lit_43, lit_44, lit_45, lit_46, lit_47, lit_48, lit_49, lit_50, lit_51, lit_52, lit_53, lit_54, lit_55, lit_56, lit_57, lit_58, lit_59, lit_60, lit_61, lit_62, lit_63, lit_64, lit_97, lit_99, lit_100, lit_122, lit_175, lit_176, lit_200, lit_255, lit_400, lit_700, lit_800, lit_999, lit_1000, lit_1400, lit_2000, lit_2033, lit_2038, lit_2100, lit_2124, lit_8000, lit_10000, lit_12345, lit_32767, lit_1000000, lit_1000000000, ↓bndX_h, ↓bndK_h, bxh_inl, bxh_inr, bkh_inl, bkh_inr, Nat.reduceEqDiff, ↓bnd_h, ↓lt_h, ↓ite_h, bh_some, lh_eq, ih_T, ih_F, ne_eq, not_false_eq_true, not_true_eq_false, eq_self, and_true, true_and, io_def, io_add, io_mul, io_sub, io_lt, io_le, io_eq, io_clamp, io_inbT, io_div, io_mod, io_m1, m1_io, m1_lt, m1_le, neg_1, gI_m1, K0_1, K0_72, K0_111, io_inbT, Nat.reduceAdd, lg_self, m_thrown, zL_law_B2480, zL_next, e1, e2, hc]
    · subst he
      exact absurd hE (show ¬ (1 ≤ 0) from by decide)
theorem case_seed (h : ∀ a1 a2, OpU 0 (zX11_seed 1 a1 a2) (zX12_seed 72 a1 a2)) : StepOK Inv zL_law_B710 := by
  intro L xs KK i M ⟨R, V, hV, hIp, hIs, hM⟩ h6 hL
  obtain ⟨R', V', r, hV', hE, ⟨x, M1, e1, hx, hIp1, hIs1, hF1⟩, hG⟩ := h (xs (6 * i + 1)) (xs (6 * i + 2)) M R V hV hIp hIs
  subst hx
  unfold zL_law_B710
  obtain ⟨y, N1, e2, hc, hIM1, hF2⟩ := hG M1 (hM.side hF1)
  refine ⟨N1, Inv.of hV' hIp1 hIs1 hIM1 hF2, ?_⟩
  cases x with
  | inl x =>
    have hc : mI N1 72 2 = io 0 := hc
    simp -dsimp (disch := first | assumption | omega) only [lit_0, lit_1, lit_2, lit_3, lit_4, lit_5, lit_6, lit_7, lit_8, lit_9, lit_10, lit_11, lit_12, lit_13, lit_14, lit_15, lit_16, lit_17, lit_18, lit_19, lit_20, lit_21, lit_22, lit_23, lit_24, lit_25, lit_26, lit_27, lit_28, lit_29, lit_30, lit_31, lit_32, lit_33, lit_34, lit_35, lit_36, lit_37, lit_38, lit_39, lit_40, lit_41, lit_42, lit_43, lit_44, lit_45, lit_46, lit_47, lit_48, lit_49, lit_50, lit_51, lit_52, lit_53, lit_54, lit_55, lit_56, lit_57, lit_58, lit_59, lit_60, lit_61, lit_62, lit_63, lit_64, lit_97, lit_99, lit_100, lit_122, lit_175, lit_176, lit_200, lit_255, lit_400, lit_700, lit_800, lit_999, lit_1000, lit_1400, lit_2000, lit_2033, lit_2038, lit_2100, lit_2124, lit_8000, lit_10000, lit_12345, lit_32767, lit_1000000, lit_1000000000, ↓bndX_h, ↓bndK_h, bxh_inl, bxh_inr, bkh_inl, bkh_inr, Nat.reduceEqDiff, ↓bnd_h, ↓lt_h, ↓ite_h, bh_some, lh_eq, ih_T, ih_F, ne_eq, not_false_eq_true, not_true_eq_false, eq_self, and_true, true_and, io_def, io_add, io_mul, io_sub, io_lt, io_le, io_eq, io_clamp, io_inbT, io_div, io_mod, io_m1, m1_io, m1_lt, m1_le, neg_1, gI_m1, K0_1, K0_72, K0_111, io_inbT, Nat.reduceAdd, lg_self, m_thrown, zL_law_B2480, zL_seed, e1, e2, hc]
  | inr e =>
    rcases hc with ⟨he, hc⟩ | ⟨he, hc⟩
    · subst he
      simp -dsimp (disch := first | assumption | omega) only [lit_0, lit_1, lit_2, lit_3, lit_4, lit_5, lit_6, lit_7, lit_8, lit_9, lit_10, lit_11, lit_12, lit_13, lit_14, lit_15, lit_16, lit_17, lit_18, lit_19, lit_20, lit_21, lit_22, lit_23, lit_24, lit_25, lit_26, lit_27, lit_28, lit_29, lit_30, lit_31, lit_32, lit_33, lit_34, lit_35, lit_36, lit_37, lit_38, lit_39, lit_40, lit_41, lit_42, lit_43, lit_44, lit_45, lit_46, lit_47, lit_48, lit_49, lit_50, lit_51, lit_52, lit_53, lit_54, lit_55, lit_56, lit_57, lit_58, lit_59, lit_60, lit_61, lit_62, lit_63, lit_64, lit_97, lit_99, lit_100, lit_122, lit_175, lit_176, lit_200, lit_255, lit_400, lit_700, lit_800, lit_999, lit_1000, lit_1400, lit_2000, lit_2033, lit_2038, lit_2100, lit_2124, lit_8000, lit_10000, lit_12345, lit_32767, lit_1000000, lit_1000000000, ↓bndX_h, ↓bndK_h, bxh_inl, bxh_inr, bkh_inl, bkh_inr, Nat.reduceEqDiff, ↓bnd_h, ↓lt_h, ↓ite_h, bh_some, lh_eq, ih_T, ih_F, ne_eq, not_false_eq_true, not_true_eq_false, eq_self, and_true, true_and, io_def, io_add, io_mul, io_sub, io_lt, io_le, io_eq, io_clamp, io_inbT, io_div, io_mod, io_m1, m1_io, m1_lt, m1_le, neg_1, gI_m1, K0_1, K0_72, K0_111, io_inbT, Nat.reduceAdd, lg_self, m_thrown, zL_law_B2480, zL_seed, e1, e2, hc]
    · subst he
      exact absurd hE (show ¬ (1 ≤ 0) from by decide)
theorem case_set (h : ∀ a1 a2, OpR 0 (zX11_set 1 a1 a2) (zX12_set 72 a1 a2)) : StepOK Inv zL_law_B758 := by
  intro L xs KK i M ⟨R, V, hV, hIp, hIs, hM⟩ h6 hL
  obtain ⟨R', V', r, hV', hE, ⟨x, M1, e1, hx, hIp1, hIs1, hF1⟩, hG⟩ := h (xs (6 * i + 1)) (xs (6 * i + 2)) M R V hV hIp hIs
  subst hx
  unfold zL_law_B758 zL_law_B824 zL_law_B830
  cases x with
  | inl x =>
    by_cases hx0 : x = io 0
    · obtain ⟨y, N1, e2, ⟨hc, hy⟩, hIM1, hF2⟩ := hG (sL M1 111 0 (lo 0)) (hM.side hF1).out
      subst hy
      refine ⟨N1, Inv.of (M := sL M1 111 0 (lo 0)) hV' hIp1 hIs1 hIM1 hF2, ?_⟩
      have e3 : mL N1 111 0 = lo 0 := (hF2.L rfl (by omega)).trans (by rw [mL_sL, if_pos ⟨rfl, rfl⟩])
      simp -dsimp (disch := first | assumption | omega) only [lit_0, lit_1, lit_2, lit_3, lit_4, lit_5, lit_6, lit_7, lit_8, lit_9, lit_10, lit_11, lit_12, lit_13, lit_14, lit_15, lit_16, lit_17, lit_18, lit_19, lit_20, lit_21, lit_22, lit_23, lit_24, lit_25, lit_26, lit_27, lit_28, lit_29, lit_30, lit_31, lit_32, lit_33, lit_34, lit_35, lit_36, lit_37, lit_38, lit_39, lit_40, lit_41, lit_42, lit_43, lit_44, lit_45, lit_46, lit_47, lit_48, lit_49, lit_50, lit_51, lit_52, lit_53, lit_54, lit_55, lit_56, lit_57, lit_58, lit_59, lit_60, lit_61, lit_62, lit_63, lit_64, lit_97, lit_99, lit_100, lit_122, lit_175, lit_176, lit_200, lit_255, lit_400, lit_700, lit_800, lit_999, lit_1000, lit_1400, lit_2000, lit_2033, lit_2038, lit_2100, lit_2124, lit_8000, lit_10000, lit_12345, lit_32767, lit_1000000, lit_1000000000, ↓bndX_h, ↓bndK_h, bxh_inl, bxh_inr, bkh_inl, bkh_inr, Nat.reduceEqDiff, ↓bnd_h, ↓lt_h, ↓ite_h, bh_some, lh_eq, ih_T, ih_F, ne_eq, not_false_eq_true, not_true_eq_false, eq_self, and_true, true_and, io_def, io_add, io_mul, io_sub, io_lt, io_le, io_eq, io_clamp, io_inbT, io_div, io_mod, io_m1, m1_io, m1_lt, m1_le, neg_1, gI_m1, K0_1, K0_72, K0_111, io_inbT, Nat.reduceAdd, lg_self, m_thrown, zL_law_B2480, lit64_0, lit64_1, zL_set, e1, e2, e3, hc, hx0]
    · obtain ⟨y, N1, e2, ⟨hc, hy⟩, hIM1, hF2⟩ := hG (sL M1 111 0 (lo 1)) (hM.side hF1).out
      subst hy
      refine ⟨N1, Inv.of (M := sL M1 111 0 (lo 1)) hV' hIp1 hIs1 hIM1 hF2, ?_⟩
      have e3 : mL N1 111 0 = lo 1 := (hF2.L rfl (by omega)).trans (by rw [mL_sL, if_pos ⟨rfl, rfl⟩])
      simp -dsimp (disch := first | assumption | omega) only [lit_0, lit_1, lit_2, lit_3, lit_4, lit_5, lit_6, lit_7, lit_8, lit_9, lit_10, lit_11, lit_12, lit_13, lit_14, lit_15, lit_16, lit_17, lit_18, lit_19, lit_20, lit_21, lit_22, lit_23, lit_24, lit_25, lit_26, lit_27, lit_28, lit_29, lit_30, lit_31, lit_32, lit_33, lit_34, lit_35, lit_36, lit_37, lit_38, lit_39, lit_40, lit_41, lit_42, lit_43, lit_44, lit_45, lit_46, lit_47, lit_48, lit_49, lit_50, lit_51, lit_52, lit_53, lit_54, lit_55, lit_56, lit_57, lit_58, lit_59, lit_60, lit_61, lit_62, lit_63, lit_64, lit_97, lit_99, lit_100, lit_122, lit_175, lit_176, lit_200, lit_255, lit_400, lit_700, lit_800, lit_999, lit_1000, lit_1400, lit_2000, lit_2033, lit_2038, lit_2100, lit_2124, lit_8000, lit_10000, lit_12345, lit_32767, lit_1000000, lit_1000000000, ↓bndX_h, ↓bndK_h, bxh_inl, bxh_inr, bkh_inl, bkh_inr, Nat.reduceEqDiff, ↓bnd_h, ↓lt_h, ↓ite_h, bh_some, lh_eq, ih_T, ih_F, ne_eq, not_false_eq_true, not_true_eq_false, eq_self, and_true, true_and, io_def, io_add, io_mul, io_sub, io_lt, io_le, io_eq, io_clamp, io_inbT, io_div, io_mod, io_m1, m1_io, m1_lt, m1_le, neg_1, gI_m1, K0_1, K0_72, K0_111, io_inbT, Nat.reduceAdd, lg_self, m_thrown, zL_law_B2480, lit64_0, lit64_1, zL_set, e1, e2, e3, hc, hx0]
  | inr e =>
    obtain ⟨y, N1, e2, hc, hIM1, hF2⟩ := hG M1 (hM.side hF1)
    refine ⟨N1, Inv.of hV' hIp1 hIs1 hIM1 hF2, ?_⟩
    rcases hc with ⟨he, hc⟩ | ⟨he, hc⟩
    · subst he
      simp -dsimp (disch := first | assumption | omega) only [lit_0, lit_1, lit_2, lit_3, lit_4, lit_5, lit_6, lit_7, lit_8, lit_9, lit_10, lit_11, lit_12, lit_13, lit_14, lit_15, lit_16, lit_17, lit_18, lit_19, lit_20, lit_21, lit_22, lit_23, lit_24, lit_25, lit_26, lit_27, lit_28, lit_29, lit_30, lit_31, lit_32, lit_33, lit_34, lit_35, lit_36, lit_37, lit_38, lit_39, lit_40, lit_41, lit_42, lit_43, lit_44, lit_45, lit_46, lit_47, lit_48, lit_49, lit_50, lit_51, lit_52, lit_53, lit_54, lit_55, lit_56, lit_57, lit_58, lit_59, lit_60, lit_61, lit_62, lit_63, lit_64, lit_97, lit_99, lit_100, lit_122, lit_175, lit_176, lit_200, lit_255, lit_400, lit_700, lit_800, lit_999, lit_1000, lit_1400, lit_2000, lit_2033, lit_2038, lit_2100, lit_2124, lit_8000, lit_10000, lit_12345, lit_32767, lit_1000000, lit_1000000000, ↓bndX_h, ↓bndK_h, bxh_inl, bxh_inr, bkh_inl, bkh_inr, Nat.reduceEqDiff, ↓bnd_h, ↓lt_h, ↓ite_h, bh_some, lh_eq, ih_T, ih_F, ne_eq, not_false_eq_true, not_true_eq_false, eq_self, and_true, true_and, io_def, io_add, io_mul, io_sub, io_lt, io_le, io_eq, io_clamp, io_inbT, io_div, io_mod, io_m1, m1_io, m1_lt, m1_le, neg_1, gI_m1, K0_1, K0_72, K0_111, io_inbT, Nat.reduceAdd, lg_self, m_thrown, zL_law_B2480, zL_set, e1, e2, hc]
    · subst he
      exact absurd hE (show ¬ (1 ≤ 0) from by decide)
theorem case_coin (h : ∀ a1 a2 a3, OpR 1 (zX11_coin 1 a1 a2 a3) (zX12_coin 72 a1 a2 a3)) : StepOK Inv zL_law_B833 := by
  intro L xs KK i M ⟨R, V, hV, hIp, hIs, hM⟩ h6 hL
  obtain ⟨R', V', r, hV', hE, ⟨x, M1, e1, hx, hIp1, hIs1, hF1⟩, hG⟩ := h (xs (6 * i + 1)) (xs (6 * i + 2)) (xs (6 * i + 3)) M R V hV hIp hIs
  subst hx
  unfold zL_law_B833 zL_law_B910
  cases x with
  | inl x =>
    obtain ⟨y, N1, e2, ⟨hc, hy⟩, hIM1, hF2⟩ := hG (sL M1 111 0 x.toInt64) (hM.side hF1).out
    subst hy
    refine ⟨N1, Inv.of (M := sL M1 111 0 y.toInt64) hV' hIp1 hIs1 hIM1 hF2, ?_⟩
    have e3 : mL N1 111 0 = y.toInt64 := (hF2.L rfl (by omega)).trans (by rw [mL_sL, if_pos ⟨rfl, rfl⟩])
    simp -dsimp (disch := first | assumption | omega) only [lit_0, lit_1, lit_2, lit_3, lit_4, lit_5, lit_6, lit_7, lit_8, lit_9, lit_10, lit_11, lit_12, lit_13, lit_14, lit_15, lit_16, lit_17, lit_18, lit_19, lit_20, lit_21, lit_22, lit_23, lit_24, lit_25, lit_26, lit_27, lit_28, lit_29, lit_30, lit_31, lit_32, lit_33, lit_34, lit_35, lit_36, lit_37, lit_38, lit_39, lit_40, lit_41, lit_42, lit_43, lit_44, lit_45, lit_46, lit_47, lit_48, lit_49, lit_50, lit_51, lit_52, lit_53, lit_54, lit_55, lit_56, lit_57, lit_58, lit_59, lit_60, lit_61, lit_62, lit_63, lit_64, lit_97, lit_99, lit_100, lit_122, lit_175, lit_176, lit_200, lit_255, lit_400, lit_700, lit_800, lit_999, lit_1000, lit_1400, lit_2000, lit_2033, lit_2038, lit_2100, lit_2124, lit_8000, lit_10000, lit_12345, lit_32767, lit_1000000, lit_1000000000, ↓bndX_h, ↓bndK_h, bxh_inl, bxh_inr, bkh_inl, bkh_inr, Nat.reduceEqDiff, ↓bnd_h, ↓lt_h, ↓ite_h, bh_some, lh_eq, ih_T, ih_F, ne_eq, not_false_eq_true, not_true_eq_false, eq_self, and_true, true_and, io_def, io_add, io_mul, io_sub, io_lt, io_le, io_eq, io_clamp, io_inbT, io_div, io_mod, io_m1, m1_io, m1_lt, m1_le, neg_1, gI_m1, K0_1, K0_72, K0_111, io_inbT, Nat.reduceAdd, lg_self, m_thrown, zL_law_B2480, zL_coin, e1, e2, e3, hc]
  | inr e =>
    obtain ⟨y, N1, e2, hc, hIM1, hF2⟩ := hG M1 (hM.side hF1)
    refine ⟨N1, Inv.of hV' hIp1 hIs1 hIM1 hF2, ?_⟩
    rcases hc with ⟨he, hc⟩ | ⟨he, hc⟩
    · subst he
      simp -dsimp (disch := first | assumption | omega) only [lit_0, lit_1, lit_2, lit_3, lit_4, lit_5, lit_6, lit_7, lit_8, lit_9, lit_10, lit_11, lit_12, lit_13, lit_14, lit_15, lit_16, lit_17, lit_18, lit_19, lit_20, lit_21, lit_22, lit_23, lit_24, lit_25, lit_26, lit_27, lit_28, lit_29, lit_30, lit_31, lit_32, lit_33, lit_34, lit_35, lit_36, lit_37, lit_38, lit_39, lit_40, lit_41, lit_42, lit_43, lit_44, lit_45, lit_46, lit_47, lit_48, lit_49, lit_50, lit_51, lit_52, lit_53, lit_54, lit_55, lit_56, lit_57, lit_58, lit_59, lit_60, lit_61, lit_62, lit_63, lit_64, lit_97, lit_99, lit_100, lit_122, lit_175, lit_176, lit_200, lit_255, lit_400, lit_700, lit_800, lit_999, lit_1000, lit_1400, lit_2000, lit_2033, lit_2038, lit_2100, lit_2124, lit_8000, lit_10000, lit_12345, lit_32767, lit_1000000, lit_1000000000, ↓bndX_h, ↓bndK_h, bxh_inl, bxh_inr, bkh_inl, bkh_inr, Nat.reduceEqDiff, ↓bnd_h, ↓lt_h, ↓ite_h, bh_some, lh_eq, ih_T, ih_F, ne_eq, not_false_eq_true, not_true_eq_false, eq_self, and_true, true_and, io_def, io_add, io_mul, io_sub, io_lt, io_le, io_eq, io_clamp, io_inbT, io_div, io_mod, io_m1, m1_io, m1_lt, m1_le, neg_1, gI_m1, K0_1, K0_72, K0_111, io_inbT, Nat.reduceAdd, lg_self, m_thrown, zL_law_B2480, zL_coin, e1, e2, hc]
    · subst he
      simp -dsimp (disch := first | assumption | omega) only [lit_0, lit_1, lit_2, lit_3, lit_4, lit_5, lit_6, lit_7, lit_8, lit_9, lit_10, lit_11, lit_12, lit_13, lit_14, lit_15, lit_16, lit_17, lit_18, lit_19, lit_20, lit_21, lit_22, lit_23, lit_24, lit_25, lit_26, lit_27, lit_28, lit_29, lit_30, lit_31, lit_32, lit_33, lit_34, lit_35, lit_36, lit_37, lit_38, lit_39, lit_40, lit_41, lit_42, lit_43, lit_44, lit_45, lit_46, lit_47, lit_48, lit_49, lit_50, lit_51, lit_52, lit_53, lit_54, lit_55, lit_56, lit_57, lit_58, lit_59, lit_60, lit_61, lit_62, lit_63, lit_64, lit_97, lit_99, lit_100, lit_122, lit_175, lit_176, lit_200, lit_255, lit_400, lit_700, lit_800, lit_999, lit_1000, lit_1400, lit_2000, lit_2033, lit_2038, lit_2100, lit_2124, lit_8000, lit_10000, lit_12345, lit_32767, lit_1000000, lit_1000000000, ↓bndX_h, ↓bndK_h, bxh_inl, bxh_inr, bkh_inl, bkh_inr, Nat.reduceEqDiff, ↓bnd_h, ↓lt_h, ↓ite_h, bh_some, lh_eq, ih_T, ih_F, ne_eq, not_false_eq_true, not_true_eq_false, eq_self, and_true, true_and, io_def, io_add, io_mul, io_sub, io_lt, io_le, io_eq, io_clamp, io_inbT, io_div, io_mod, io_m1, m1_io, m1_lt, m1_le, neg_1, gI_m1, K0_1, K0_72, K0_111, io_inbT, Nat.reduceAdd, lg_self, m_thrown, zL_law_B2480, zL_coin, e1, e2, hc]
theorem case_cases (h : ∀ a1 a2 a3, OpR 1 (zX11_cases 1 a1 a2 a3) (zX12_cases 72 a1 a2 a3)) : StepOK Inv zL_law_B913 := by
  intro L xs KK i M ⟨R, V, hV, hIp, hIs, hM⟩ h6 hL
  obtain ⟨R', V', r, hV', hE, ⟨x, M1, e1, hx, hIp1, hIs1, hF1⟩, hG⟩ := h (xs (6 * i + 1)) (xs (6 * i + 2)) (xs (6 * i + 3)) M R V hV hIp hIs
  subst hx
  unfold zL_law_B913 zL_law_B990
  cases x with
  | inl x =>
    obtain ⟨y, N1, e2, ⟨hc, hy⟩, hIM1, hF2⟩ := hG (sL M1 111 0 x.toInt64) (hM.side hF1).out
    subst hy
    refine ⟨N1, Inv.of (M := sL M1 111 0 y.toInt64) hV' hIp1 hIs1 hIM1 hF2, ?_⟩
    have e3 : mL N1 111 0 = y.toInt64 := (hF2.L rfl (by omega)).trans (by rw [mL_sL, if_pos ⟨rfl, rfl⟩])
    simp -dsimp (disch := first | assumption | omega) only [lit_0, lit_1, lit_2, lit_3, lit_4, lit_5, lit_6, lit_7, lit_8, lit_9, lit_10, lit_11, lit_12, lit_13, lit_14, lit_15, lit_16, lit_17, lit_18, lit_19, lit_20, lit_21, lit_22, lit_23, lit_24, lit_25, lit_26, lit_27, lit_28, lit_29, lit_30, lit_31, lit_32, lit_33, lit_34, lit_35, lit_36, lit_37, lit_38, lit_39, lit_40, lit_41, lit_42, lit_43, lit_44, lit_45, lit_46, lit_47, lit_48, lit_49, lit_50, lit_51, lit_52, lit_53, lit_54, lit_55, lit_56, lit_57, lit_58, lit_59, lit_60, lit_61, lit_62, lit_63, lit_64, lit_97, lit_99, lit_100, lit_122, lit_175, lit_176, lit_200, lit_255, lit_400, lit_700, lit_800, lit_999, lit_1000, lit_1400, lit_2000, lit_2033, lit_2038, lit_2100, lit_2124, lit_8000, lit_10000, lit_12345, lit_32767, lit_1000000, lit_1000000000, ↓bndX_h, ↓bndK_h, bxh_inl, bxh_inr, bkh_inl, bkh_inr, Nat.reduceEqDiff, ↓bnd_h, ↓lt_h, ↓ite_h, bh_some, lh_eq, ih_T, ih_F, ne_eq, not_false_eq_true, not_true_eq_false, eq_self, and_true, true_and, io_def, io_add, io_mul, io_sub, io_lt, io_le, io_eq, io_clamp, io_inbT, io_div, io_mod, io_m1, m1_io, m1_lt, m1_le, neg_1, gI_m1, K0_1, K0_72, K0_111, io_inbT, Nat.reduceAdd, lg_self, m_thrown, zL_law_B2480, zL_cases, e1, e2, e3, hc]
  | inr e =>
    obtain ⟨y, N1, e2, hc, hIM1, hF2⟩ := hG M1 (hM.side hF1)
    refine ⟨N1, Inv.of hV' hIp1 hIs1 hIM1 hF2, ?_⟩
    rcases hc with ⟨he, hc⟩ | ⟨he, hc⟩
    · subst he
      simp -dsimp (disch := first | assumption | omega) only [lit_0, lit_1, lit_2, lit_3, lit_4, lit_5, lit_6, lit_7, lit_8, lit_9, lit_10, lit_11, lit_12, lit_13, lit_14, lit_15, lit_16, lit_17, lit_18, lit_19, lit_20, lit_21, lit_22, lit_23, lit_24, lit_25, lit_26, lit_27, lit_28, lit_29, lit_30, lit_31, lit_32, lit_33, lit_34, lit_35, lit_36, lit_37, lit_38, lit_39, lit_40, lit_41, lit_42, lit_43, lit_44, lit_45, lit_46, lit_47, lit_48, lit_49, lit_50, lit_51, lit_52, lit_53, lit_54, lit_55, lit_56, lit_57, lit_58, lit_59, lit_60, lit_61, lit_62, lit_63, lit_64, lit_97, lit_99, lit_100, lit_122, lit_175, lit_176, lit_200, lit_255, lit_400, lit_700, lit_800, lit_999, lit_1000, lit_1400, lit_2000, lit_2033, lit_2038, lit_2100, lit_2124, lit_8000, lit_10000, lit_12345, lit_32767, lit_1000000, lit_1000000000, ↓bndX_h, ↓bndK_h, bxh_inl, bxh_inr, bkh_inl, bkh_inr, Nat.reduceEqDiff, ↓bnd_h, ↓lt_h, ↓ite_h, bh_some, lh_eq, ih_T, ih_F, ne_eq, not_false_eq_true, not_true_eq_false, eq_self, and_true, true_and, io_def, io_add, io_mul, io_sub, io_lt, io_le, io_eq, io_clamp, io_inbT, io_div, io_mod, io_m1, m1_io, m1_lt, m1_le, neg_1, gI_m1, K0_1, K0_72, K0_111, io_inbT, Nat.reduceAdd, lg_self, m_thrown, zL_law_B2480, zL_cases, e1, e2, hc]
    · subst he
      simp -dsimp (disch := first | assumption | omega) only [lit_0, lit_1, lit_2, lit_3, lit_4, lit_5, lit_6, lit_7, lit_8, lit_9, lit_10, lit_11, lit_12, lit_13, lit_14, lit_15, lit_16, lit_17, lit_18, lit_19, lit_20, lit_21, lit_22, lit_23, lit_24, lit_25, lit_26, lit_27, lit_28, lit_29, lit_30, lit_31, lit_32, lit_33, lit_34, lit_35, lit_36, lit_37, lit_38, lit_39, lit_40, lit_41, lit_42, lit_43, lit_44, lit_45, lit_46, lit_47, lit_48, lit_49, lit_50, lit_51, lit_52, lit_53, lit_54, lit_55, lit_56, lit_57, lit_58, lit_59, lit_60, lit_61, lit_62, lit_63, lit_64, lit_97, lit_99, lit_100, lit_122, lit_175, lit_176, lit_200, lit_255, lit_400, lit_700, lit_800, lit_999, lit_1000, lit_1400, lit_2000, lit_2033, lit_2038, lit_2100, lit_2124, lit_8000, lit_10000, lit_12345, lit_32767, lit_1000000, lit_1000000000, ↓bndX_h, ↓bndK_h, bxh_inl, bxh_inr, bkh_inl, bkh_inr, Nat.reduceEqDiff, ↓bnd_h, ↓lt_h, ↓ite_h, bh_some, lh_eq, ih_T, ih_F, ne_eq, not_false_eq_true, not_true_eq_false, eq_self, and_true, true_and, io_def, io_add, io_mul, io_sub, io_lt, io_le, io_eq, io_clamp, io_inbT, io_div, io_mod, io_m1, m1_io, m1_lt, m1_le, neg_1, gI_m1, K0_1, K0_72, K0_111, io_inbT, Nat.reduceAdd, lg_self, m_thrown, zL_law_B2480, zL_cases, e1, e2, hc]
theorem case_drift (h : ∀ a1 a2, OpR 1 (zX11_drift 1 a1 a2) (zX12_drift 72 a1 a2)) : StepOK Inv zL_law_B993 := by
  intro L xs KK i M ⟨R, V, hV, hIp, hIs, hM⟩ h6 hL
  obtain ⟨R', V', r, hV', hE, ⟨x, M1, e1, hx, hIp1, hIs1, hF1⟩, hG⟩ := h (xs (6 * i + 1)) (xs (6 * i + 2)) M R V hV hIp hIs
  subst hx
  unfold zL_law_B993 zL_law_B1058
  cases x with
  | inl x =>
    obtain ⟨y, N1, e2, ⟨hc, hy⟩, hIM1, hF2⟩ := hG (sL M1 111 0 x.toInt64) (hM.side hF1).out
    subst hy
    refine ⟨N1, Inv.of (M := sL M1 111 0 y.toInt64) hV' hIp1 hIs1 hIM1 hF2, ?_⟩
    have e3 : mL N1 111 0 = y.toInt64 := (hF2.L rfl (by omega)).trans (by rw [mL_sL, if_pos ⟨rfl, rfl⟩])
    simp -dsimp (disch := first | assumption | omega) only [lit_0, lit_1, lit_2, lit_3, lit_4, lit_5, lit_6, lit_7, lit_8, lit_9, lit_10, lit_11, lit_12, lit_13, lit_14, lit_15, lit_16, lit_17, lit_18, lit_19, lit_20, lit_21, lit_22, lit_23, lit_24, lit_25, lit_26, lit_27, lit_28, lit_29, lit_30, lit_31, lit_32, lit_33, lit_34, lit_35, lit_36, lit_37, lit_38, lit_39, lit_40, lit_41, lit_42, lit_43, lit_44, lit_45, lit_46, lit_47, lit_48, lit_49, lit_50, lit_51, lit_52, lit_53, lit_54, lit_55, lit_56, lit_57, lit_58, lit_59, lit_60, lit_61, lit_62, lit_63, lit_64, lit_97, lit_99, lit_100, lit_122, lit_175, lit_176, lit_200, lit_255, lit_400, lit_700, lit_800, lit_999, lit_1000, lit_1400, lit_2000, lit_2033, lit_2038, lit_2100, lit_2124, lit_8000, lit_10000, lit_12345, lit_32767, lit_1000000, lit_1000000000, ↓bndX_h, ↓bndK_h, bxh_inl, bxh_inr, bkh_inl, bkh_inr, Nat.reduceEqDiff, ↓bnd_h, ↓lt_h, ↓ite_h, bh_some, lh_eq, ih_T, ih_F, ne_eq, not_false_eq_true, not_true_eq_false, eq_self, and_true, true_and, io_def, io_add, io_mul, io_sub, io_lt, io_le, io_eq, io_clamp, io_inbT, io_div, io_mod, io_m1, m1_io, m1_lt, m1_le, neg_1, gI_m1, K0_1, K0_72, K0_111, io_inbT, Nat.reduceAdd, lg_self, m_thrown, zL_law_B2480, zL_drift, e1, e2, e3, hc]
  | inr e =>
    obtain ⟨y, N1, e2, hc, hIM1, hF2⟩ := hG M1 (hM.side hF1)
    refine ⟨N1, Inv.of hV' hIp1 hIs1 hIM1 hF2, ?_⟩
    rcases hc with ⟨he, hc⟩ | ⟨he, hc⟩
    · subst he
      simp -dsimp (disch := first | assumption | omega) only [lit_0, lit_1, lit_2, lit_3, lit_4, lit_5, lit_6, lit_7, lit_8, lit_9, lit_10, lit_11, lit_12, lit_13, lit_14, lit_15, lit_16, lit_17, lit_18, lit_19, lit_20, lit_21, lit_22, lit_23, lit_24, lit_25, lit_26, lit_27, lit_28, lit_29, lit_30, lit_31, lit_32, lit_33, lit_34, lit_35, lit_36, lit_37, lit_38, lit_39, lit_40, lit_41, lit_42, lit_43, lit_44, lit_45, lit_46, lit_47, lit_48, lit_49, lit_50, lit_51, lit_52, lit_53, lit_54, lit_55, lit_56, lit_57, lit_58, lit_59, lit_60, lit_61, lit_62, lit_63, lit_64, lit_97, lit_99, lit_100, lit_122, lit_175, lit_176, lit_200, lit_255, lit_400, lit_700, lit_800, lit_999, lit_1000, lit_1400, lit_2000, lit_2033, lit_2038, lit_2100, lit_2124, lit_8000, lit_10000, lit_12345, lit_32767, lit_1000000, lit_1000000000, ↓bndX_h, ↓bndK_h, bxh_inl, bxh_inr, bkh_inl, bkh_inr, Nat.reduceEqDiff, ↓bnd_h, ↓lt_h, ↓ite_h, bh_some, lh_eq, ih_T, ih_F, ne_eq, not_false_eq_true, not_true_eq_false, eq_self, and_true, true_and, io_def, io_add, io_mul, io_sub, io_lt, io_le, io_eq, io_clamp, io_inbT, io_div, io_mod, io_m1, m1_io, m1_lt, m1_le, neg_1, gI_m1, K0_1, K0_72, K0_111, io_inbT, Nat.reduceAdd, lg_self, m_thrown, zL_law_B2480, zL_drift, e1, e2, hc]
    · subst he
      simp -dsimp (disch := first | assumption | omega) only [lit_0, lit_1, lit_2, lit_3, lit_4, lit_5, lit_6, lit_7, lit_8, lit_9, lit_10, lit_11, lit_12, lit_13, lit_14, lit_15, lit_16, lit_17, lit_18, lit_19, lit_20, lit_21, lit_22, lit_23, lit_24, lit_25, lit_26, lit_27, lit_28, lit_29, lit_30, lit_31, lit_32, lit_33, lit_34, lit_35, lit_36, lit_37, lit_38, lit_39, lit_40, lit_41, lit_42, lit_43, lit_44, lit_45, lit_46, lit_47, lit_48, lit_49, lit_50, lit_51, lit_52, lit_53, lit_54, lit_55, lit_56, lit_57, lit_58, lit_59, lit_60, lit_61, lit_62, lit_63, lit_64, lit_97, lit_99, lit_100, lit_122, lit_175, lit_176, lit_200, lit_255, lit_400, lit_700, lit_800, lit_999, lit_1000, lit_1400, lit_2000, lit_2033, lit_2038, lit_2100, lit_2124, lit_8000, lit_10000, lit_12345, lit_32767, lit_1000000, lit_1000000000, ↓bndX_h, ↓bndK_h, bxh_inl, bxh_inr, bkh_inl, bkh_inr, Nat.reduceEqDiff, ↓bnd_h, ↓lt_h, ↓ite_h, bh_some, lh_eq, ih_T, ih_F, ne_eq, not_false_eq_true, not_true_eq_false, eq_self, and_true, true_and, io_def, io_add, io_mul, io_sub, io_lt, io_le, io_eq, io_clamp, io_inbT, io_div, io_mod, io_m1, m1_io, m1_lt, m1_le, neg_1, gI_m1, K0_1, K0_72, K0_111, io_inbT, Nat.reduceAdd, lg_self, m_thrown, zL_law_B2480, zL_drift, e1, e2, hc]
theorem case_turn (h : ∀ a1 a2, OpR 0 (zX11_turn 1 a1 a2) (zX12_turn 72 a1 a2)) : StepOK Inv zL_law_B1061 := by
  intro L xs KK i M ⟨R, V, hV, hIp, hIs, hM⟩ h6 hL
  obtain ⟨R', V', r, hV', hE, ⟨x, M1, e1, hx, hIp1, hIs1, hF1⟩, hG⟩ := h (xs (6 * i + 1)) (xs (6 * i + 2)) M R V hV hIp hIs
  subst hx
  unfold zL_law_B1061 zL_law_B1126
  cases x with
  | inl x =>
    obtain ⟨y, N1, e2, ⟨hc, hy⟩, hIM1, hF2⟩ := hG (sL M1 111 0 x.toInt64) (hM.side hF1).out
    subst hy
    refine ⟨N1, Inv.of (M := sL M1 111 0 y.toInt64) hV' hIp1 hIs1 hIM1 hF2, ?_⟩
    have e3 : mL N1 111 0 = y.toInt64 := (hF2.L rfl (by omega)).trans (by rw [mL_sL, if_pos ⟨rfl, rfl⟩])
    simp -dsimp (disch := first | assumption | omega) only [lit_0, lit_1, lit_2, lit_3, lit_4, lit_5, lit_6, lit_7, lit_8, lit_9, lit_10, lit_11, lit_12, lit_13, lit_14, lit_15, lit_16, lit_17, lit_18, lit_19, lit_20, lit_21, lit_22, lit_23, lit_24, lit_25, lit_26, lit_27, lit_28, lit_29, lit_30, lit_31, lit_32, lit_33, lit_34, lit_35, lit_36, lit_37, lit_38, lit_39, lit_40, lit_41, lit_42, lit_43, lit_44, lit_45, lit_46, lit_47, lit_48, lit_49, lit_50, lit_51, lit_52, lit_53, lit_54, lit_55, lit_56, lit_57, lit_58, lit_59, lit_60, lit_61, lit_62, lit_63, lit_64, lit_97, lit_99, lit_100, lit_122, lit_175, lit_176, lit_200, lit_255, lit_400, lit_700, lit_800, lit_999, lit_1000, lit_1400, lit_2000, lit_2033, lit_2038, lit_2100, lit_2124, lit_8000, lit_10000, lit_12345, lit_32767, lit_1000000, lit_1000000000, ↓bndX_h, ↓bndK_h, bxh_inl, bxh_inr, bkh_inl, bkh_inr, Nat.reduceEqDiff, ↓bnd_h, ↓lt_h, ↓ite_h, bh_some, lh_eq, ih_T, ih_F, ne_eq, not_false_eq_true, not_true_eq_false, eq_self, and_true, true_and, io_def, io_add, io_mul, io_sub, io_lt, io_le, io_eq, io_clamp, io_inbT, io_div, io_mod, io_m1, m1_io, m1_lt, m1_le, neg_1, gI_m1, K0_1, K0_72, K0_111, io_inbT, Nat.reduceAdd, lg_self, m_thrown, zL_law_B2480, zL_turn, e1, e2, e3, hc]
  | inr e =>
    obtain ⟨y, N1, e2, hc, hIM1, hF2⟩ := hG M1 (hM.side hF1)
    refine ⟨N1, Inv.of hV' hIp1 hIs1 hIM1 hF2, ?_⟩
    rcases hc with ⟨he, hc⟩ | ⟨he, hc⟩
    · subst he
      simp -dsimp (disch := first | assumption | omega) only [lit_0, lit_1, lit_2, lit_3, lit_4, lit_5, lit_6, lit_7, lit_8, lit_9, lit_10, lit_11, lit_12, lit_13, lit_14, lit_15, lit_16, lit_17, lit_18, lit_19, lit_20, lit_21, lit_22, lit_23, lit_24, lit_25, lit_26, lit_27, lit_28, lit_29, lit_30, lit_31, lit_32, lit_33, lit_34, lit_35, lit_36, lit_37, lit_38, lit_39, lit_40, lit_41, lit_42, lit_43, lit_44, lit_45, lit_46, lit_47, lit_48, lit_49, lit_50, lit_51, lit_52, lit_53, lit_54, lit_55, lit_56, lit_57, lit_58, lit_59, lit_60, lit_61, lit_62, lit_63, lit_64, lit_97, lit_99, lit_100, lit_122, lit_175, lit_176, lit_200, lit_255, lit_400, lit_700, lit_800, lit_999, lit_1000, lit_1400, lit_2000, lit_2033, lit_2038, lit_2100, lit_2124, lit_8000, lit_10000, lit_12345, lit_32767, lit_1000000, lit_1000000000, ↓bndX_h, ↓bndK_h, bxh_inl, bxh_inr, bkh_inl, bkh_inr, Nat.reduceEqDiff, ↓bnd_h, ↓lt_h, ↓ite_h, bh_some, lh_eq, ih_T, ih_F, ne_eq, not_false_eq_true, not_true_eq_false, eq_self, and_true, true_and, io_def, io_add, io_mul, io_sub, io_lt, io_le, io_eq, io_clamp, io_inbT, io_div, io_mod, io_m1, m1_io, m1_lt, m1_le, neg_1, gI_m1, K0_1, K0_72, K0_111, io_inbT, Nat.reduceAdd, lg_self, m_thrown, zL_law_B2480, zL_turn, e1, e2, hc]
    · subst he
      exact absurd hE (show ¬ (1 ≤ 0) from by decide)
theorem case_rest (h : ∀ a1 a2 a3, OpR 0 (zX11_rest 1 a1 a2 a3) (zX12_rest 72 a1 a2 a3)) : StepOK Inv zL_law_B1129 := by
  intro L xs KK i M ⟨R, V, hV, hIp, hIs, hM⟩ h6 hL
  obtain ⟨R', V', r, hV', hE, ⟨x, M1, e1, hx, hIp1, hIs1, hF1⟩, hG⟩ := h (xs (6 * i + 1)) (xs (6 * i + 2)) (xs (6 * i + 3)) M R V hV hIp hIs
  subst hx
  unfold zL_law_B1129 zL_law_B1206
  cases x with
  | inl x =>
    obtain ⟨y, N1, e2, ⟨hc, hy⟩, hIM1, hF2⟩ := hG (sL M1 111 0 x.toInt64) (hM.side hF1).out
    subst hy
    refine ⟨N1, Inv.of (M := sL M1 111 0 y.toInt64) hV' hIp1 hIs1 hIM1 hF2, ?_⟩
    have e3 : mL N1 111 0 = y.toInt64 := (hF2.L rfl (by omega)).trans (by rw [mL_sL, if_pos ⟨rfl, rfl⟩])
    simp -dsimp (disch := first | assumption | omega) only [lit_0, lit_1, lit_2, lit_3, lit_4, lit_5, lit_6, lit_7, lit_8, lit_9, lit_10, lit_11, lit_12, lit_13, lit_14, lit_15, lit_16, lit_17, lit_18, lit_19, lit_20, lit_21, lit_22, lit_23, lit_24, lit_25, lit_26, lit_27, lit_28, lit_29, lit_30, lit_31, lit_32, lit_33, lit_34, lit_35, lit_36, lit_37, lit_38, lit_39, lit_40, lit_41, lit_42, lit_43, lit_44, lit_45, lit_46, lit_47, lit_48, lit_49, lit_50, lit_51, lit_52, lit_53, lit_54, lit_55, lit_56, lit_57, lit_58, lit_59, lit_60, lit_61, lit_62, lit_63, lit_64, lit_97, lit_99, lit_100, lit_122, lit_175, lit_176, lit_200, lit_255, lit_400, lit_700, lit_800, lit_999, lit_1000, lit_1400, lit_2000, lit_2033, lit_2038, lit_2100, lit_2124, lit_8000, lit_10000, lit_12345, lit_32767, lit_1000000, lit_1000000000, ↓bndX_h, ↓bndK_h, bxh_inl, bxh_inr, bkh_inl, bkh_inr, Nat.reduceEqDiff, ↓bnd_h, ↓lt_h, ↓ite_h, bh_some, lh_eq, ih_T, ih_F, ne_eq, not_false_eq_true, not_true_eq_false, eq_self, and_true, true_and, io_def, io_add, io_mul, io_sub, io_lt, io_le, io_eq, io_clamp, io_inbT, io_div, io_mod, io_m1, m1_io, m1_lt, m1_le, neg_1, gI_m1, K0_1, K0_72, K0_111, io_inbT, Nat.reduceAdd, lg_self, m_thrown, zL_law_B2480, zL_rest, e1, e2, e3, hc]
  | inr e =>
    obtain ⟨y, N1, e2, hc, hIM1, hF2⟩ := hG M1 (hM.side hF1)
    refine ⟨N1, Inv.of hV' hIp1 hIs1 hIM1 hF2, ?_⟩
    rcases hc with ⟨he, hc⟩ | ⟨he, hc⟩
    · subst he
      simp -dsimp (disch := first | assumption | omega) only [lit_0, lit_1, lit_2, lit_3, lit_4, lit_5, lit_6, lit_7, lit_8, lit_9, lit_10, lit_11, lit_12, lit_13, lit_14, lit_15, lit_16, lit_17, lit_18, lit_19, lit_20, lit_21, lit_22, lit_23, lit_24, lit_25, lit_26, lit_27, lit_28, lit_29, lit_30, lit_31, lit_32, lit_33, lit_34, lit_35, lit_36, lit_37, lit_38, lit_39, lit_40, lit_41, lit_42, lit_43, lit_44, lit_45, lit_46, lit_47, lit_48, lit_49, lit_50, lit_51, lit_52, lit_53, lit_54, lit_55, lit_56, lit_57, lit_58, lit_59, lit_60, lit_61, lit_62, lit_63, lit_64, lit_97, lit_99, lit_100, lit_122, lit_175, lit_176, lit_200, lit_255, lit_400, lit_700, lit_800, lit_999, lit_1000, lit_1400, lit_2000, lit_2033, lit_2038, lit_2100, lit_2124, lit_8000, lit_10000, lit_12345, lit_32767, lit_1000000, lit_1000000000, ↓bndX_h, ↓bndK_h, bxh_inl, bxh_inr, bkh_inl, bkh_inr, Nat.reduceEqDiff, ↓bnd_h, ↓lt_h, ↓ite_h, bh_some, lh_eq, ih_T, ih_F, ne_eq, not_false_eq_true, not_true_eq_false, eq_self, and_true, true_and, io_def, io_add, io_mul, io_sub, io_lt, io_le, io_eq, io_clamp, io_inbT, io_div, io_mod, io_m1, m1_io, m1_lt, m1_le, neg_1, gI_m1, K0_1, K0_72, K0_111, io_inbT, Nat.reduceAdd, lg_self, m_thrown, zL_law_B2480, zL_rest, e1, e2, hc]
    · subst he
      exact absurd hE (show ¬ (1 ≤ 0) from by decide)
theorem case_best (h : ∀ a1 a2 a3 a4, OpR 1 (zX11_best 1 a1 a2 a3 a4) (zX12_best 72 a1 a2 a3 a4)) : StepOK Inv zL_law_B1209 := by
  intro L xs KK i M ⟨R, V, hV, hIp, hIs, hM⟩ h6 hL
  obtain ⟨R', V', r, hV', hE, ⟨x, M1, e1, hx, hIp1, hIs1, hF1⟩, hG⟩ := h (xs (6 * i + 1)) (xs (6 * i + 2)) (xs (6 * i + 3)) (xs (6 * i + 4)) M R V hV hIp hIs
  subst hx
  unfold zL_law_B1209 zL_law_B1298
  cases x with
  | inl x =>
    obtain ⟨y, N1, e2, ⟨hc, hy⟩, hIM1, hF2⟩ := hG (sL M1 111 0 x.toInt64) (hM.side hF1).out
    subst hy
    refine ⟨N1, Inv.of (M := sL M1 111 0 y.toInt64) hV' hIp1 hIs1 hIM1 hF2, ?_⟩
    have e3 : mL N1 111 0 = y.toInt64 := (hF2.L rfl (by omega)).trans (by rw [mL_sL, if_pos ⟨rfl, rfl⟩])
    simp -dsimp (disch := first | assumption | omega) only [lit_0, lit_1, lit_2, lit_3, lit_4, lit_5, lit_6, lit_7, lit_8, lit_9, lit_10, lit_11, lit_12, lit_13, lit_14, lit_15, lit_16, lit_17, lit_18, lit_19, lit_20, lit_21, lit_22, lit_23, lit_24, lit_25, lit_26, lit_27, lit_28, lit_29, lit_30, lit_31, lit_32, lit_33, lit_34, lit_35, lit_36, lit_37, lit_38, lit_39, lit_40, lit_41, lit_42, lit_43, lit_44, lit_45, lit_46, lit_47, lit_48, lit_49, lit_50, lit_51, lit_52, lit_53, lit_54, lit_55, lit_56, lit_57, lit_58, lit_59, lit_60, lit_61, lit_62, lit_63, lit_64, lit_97, lit_99, lit_100, lit_122, lit_175, lit_176, lit_200, lit_255, lit_400, lit_700, lit_800, lit_999, lit_1000, lit_1400, lit_2000, lit_2033, lit_2038, lit_2100, lit_2124, lit_8000, lit_10000, lit_12345, lit_32767, lit_1000000, lit_1000000000, ↓bndX_h, ↓bndK_h, bxh_inl, bxh_inr, bkh_inl, bkh_inr, Nat.reduceEqDiff, ↓bnd_h, ↓lt_h, ↓ite_h, bh_some, lh_eq, ih_T, ih_F, ne_eq, not_false_eq_true, not_true_eq_false, eq_self, and_true, true_and, io_def, io_add, io_mul, io_sub, io_lt, io_le, io_eq, io_clamp, io_inbT, io_div, io_mod, io_m1, m1_io, m1_lt, m1_le, neg_1, gI_m1, K0_1, K0_72, K0_111, io_inbT, Nat.reduceAdd, lg_self, m_thrown, zL_law_B2480, zL_best, e1, e2, e3, hc]
  | inr e =>
    obtain ⟨y, N1, e2, hc, hIM1, hF2⟩ := hG M1 (hM.side hF1)
    refine ⟨N1, Inv.of hV' hIp1 hIs1 hIM1 hF2, ?_⟩
    rcases hc with ⟨he, hc⟩ | ⟨he, hc⟩
    · subst he
      simp -dsimp (disch := first | assumption | omega) only [lit_0, lit_1, lit_2, lit_3, lit_4, lit_5, lit_6, lit_7, lit_8, lit_9, lit_10, lit_11, lit_12, lit_13, lit_14, lit_15, lit_16, lit_17, lit_18, lit_19, lit_20, lit_21, lit_22, lit_23, lit_24, lit_25, lit_26, lit_27, lit_28, lit_29, lit_30, lit_31, lit_32, lit_33, lit_34, lit_35, lit_36, lit_37, lit_38, lit_39, lit_40, lit_41, lit_42, lit_43, lit_44, lit_45, lit_46, lit_47, lit_48, lit_49, lit_50, lit_51, lit_52, lit_53, lit_54, lit_55, lit_56, lit_57, lit_58, lit_59, lit_60, lit_61, lit_62, lit_63, lit_64, lit_97, lit_99, lit_100, lit_122, lit_175, lit_176, lit_200, lit_255, lit_400, lit_700, lit_800, lit_999, lit_1000, lit_1400, lit_2000, lit_2033, lit_2038, lit_2100, lit_2124, lit_8000, lit_10000, lit_12345, lit_32767, lit_1000000, lit_1000000000, ↓bndX_h, ↓bndK_h, bxh_inl, bxh_inr, bkh_inl, bkh_inr, Nat.reduceEqDiff, ↓bnd_h, ↓lt_h, ↓ite_h, bh_some, lh_eq, ih_T, ih_F, ne_eq, not_false_eq_true, not_true_eq_false, eq_self, and_true, true_and, io_def, io_add, io_mul, io_sub, io_lt, io_le, io_eq, io_clamp, io_inbT, io_div, io_mod, io_m1, m1_io, m1_lt, m1_le, neg_1, gI_m1, K0_1, K0_72, K0_111, io_inbT, Nat.reduceAdd, lg_self, m_thrown, zL_law_B2480, zL_best, e1, e2, hc]
    · subst he
      simp -dsimp (disch := first | assumption | omega) only [lit_0, lit_1, lit_2, lit_3, lit_4, lit_5, lit_6, lit_7, lit_8, lit_9, lit_10, lit_11, lit_12, lit_13, lit_14, lit_15, lit_16, lit_17, lit_18, lit_19, lit_20, lit_21, lit_22, lit_23, lit_24, lit_25, lit_26, lit_27, lit_28, lit_29, lit_30, lit_31, lit_32, lit_33, lit_34, lit_35, lit_36, lit_37, lit_38, lit_39, lit_40, lit_41, lit_42, lit_43, lit_44, lit_45, lit_46, lit_47, lit_48, lit_49, lit_50, lit_51, lit_52, lit_53, lit_54, lit_55, lit_56, lit_57, lit_58, lit_59, lit_60, lit_61, lit_62, lit_63, lit_64, lit_97, lit_99, lit_100, lit_122, lit_175, lit_176, lit_200, lit_255, lit_400, lit_700, lit_800, lit_999, lit_1000, lit_1400, lit_2000, lit_2033, lit_2038, lit_2100, lit_2124, lit_8000, lit_10000, lit_12345, lit_32767, lit_1000000, lit_1000000000, ↓bndX_h, ↓bndK_h, bxh_inl, bxh_inr, bkh_inl, bkh_inr, Nat.reduceEqDiff, ↓bnd_h, ↓lt_h, ↓ite_h, bh_some, lh_eq, ih_T, ih_F, ne_eq, not_false_eq_true, not_true_eq_false, eq_self, and_true, true_and, io_def, io_add, io_mul, io_sub, io_lt, io_le, io_eq, io_clamp, io_inbT, io_div, io_mod, io_m1, m1_io, m1_lt, m1_le, neg_1, gI_m1, K0_1, K0_72, K0_111, io_inbT, Nat.reduceAdd, lg_self, m_thrown, zL_law_B2480, zL_best, e1, e2, hc]
theorem case_would (h : ∀ a1 a2 a3, OpR 1 (zX11_would 1 a1 a2 a3) (zX12_would 72 a1 a2 a3)) : StepOK Inv zL_law_B1301 := by
  intro L xs KK i M ⟨R, V, hV, hIp, hIs, hM⟩ h6 hL
  obtain ⟨R', V', r, hV', hE, ⟨x, M1, e1, hx, hIp1, hIs1, hF1⟩, hG⟩ := h (xs (6 * i + 1)) (xs (6 * i + 2)) (xs (6 * i + 3)) M R V hV hIp hIs
  subst hx
  unfold zL_law_B1301 zL_law_B1378
  cases x with
  | inl x =>
    obtain ⟨y, N1, e2, ⟨hc, hy⟩, hIM1, hF2⟩ := hG (sL M1 111 0 x.toInt64) (hM.side hF1).out
    subst hy
    refine ⟨N1, Inv.of (M := sL M1 111 0 y.toInt64) hV' hIp1 hIs1 hIM1 hF2, ?_⟩
    have e3 : mL N1 111 0 = y.toInt64 := (hF2.L rfl (by omega)).trans (by rw [mL_sL, if_pos ⟨rfl, rfl⟩])
    simp -dsimp (disch := first | assumption | omega) only [lit_0, lit_1, lit_2, lit_3, lit_4, lit_5, lit_6, lit_7, lit_8, lit_9, lit_10, lit_11, lit_12, lit_13, lit_14, lit_15, lit_16, lit_17, lit_18, lit_19, lit_20, lit_21, lit_22, lit_23, lit_24, lit_25, lit_26, lit_27, lit_28, lit_29, lit_30, lit_31, lit_32, lit_33, lit_34, lit_35, lit_36, lit_37, lit_38, lit_39, lit_40, lit_41, lit_42, lit_43, lit_44, lit_45, lit_46, lit_47, lit_48, lit_49, lit_50, lit_51, lit_52, lit_53, lit_54, lit_55, lit_56, lit_57, lit_58, lit_59, lit_60, lit_61, lit_62, lit_63, lit_64, lit_97, lit_99, lit_100, lit_122, lit_175, lit_176, lit_200, lit_255, lit_400, lit_700, lit_800, lit_999, lit_1000, lit_1400, lit_2000, lit_2033, lit_2038, lit_2100, lit_2124, lit_8000, lit_10000, lit_12345, lit_32767, lit_1000000, lit_1000000000, ↓bndX_h, ↓bndK_h, bxh_inl, bxh_inr, bkh_inl, bkh_inr, Nat.reduceEqDiff, ↓bnd_h, ↓lt_h, ↓ite_h, bh_some, lh_eq, ih_T, ih_F, ne_eq, not_false_eq_true, not_true_eq_false, eq_self, and_true, true_and, io_def, io_add, io_mul, io_sub, io_lt, io_le, io_eq, io_clamp, io_inbT, io_div, io_mod, io_m1, m1_io, m1_lt, m1_le, neg_1, gI_m1, K0_1, K0_72, K0_111, io_inbT, Nat.reduceAdd, lg_self, m_thrown, zL_law_B2480, zL_would, e1, e2, e3, hc]
  | inr e =>
    obtain ⟨y, N1, e2, hc, hIM1, hF2⟩ := hG M1 (hM.side hF1)
    refine ⟨N1, Inv.of hV' hIp1 hIs1 hIM1 hF2, ?_⟩
    rcases hc with ⟨he, hc⟩ | ⟨he, hc⟩
    · subst he
      simp -dsimp (disch := first | assumption | omega) only [lit_0, lit_1, lit_2, lit_3, lit_4, lit_5, lit_6, lit_7, lit_8, lit_9, lit_10, lit_11, lit_12, lit_13, lit_14, lit_15, lit_16, lit_17, lit_18, lit_19, lit_20, lit_21, lit_22, lit_23, lit_24, lit_25, lit_26, lit_27, lit_28, lit_29, lit_30, lit_31, lit_32, lit_33, lit_34, lit_35, lit_36, lit_37, lit_38, lit_39, lit_40, lit_41, lit_42, lit_43, lit_44, lit_45, lit_46, lit_47, lit_48, lit_49, lit_50, lit_51, lit_52, lit_53, lit_54, lit_55, lit_56, lit_57, lit_58, lit_59, lit_60, lit_61, lit_62, lit_63, lit_64, lit_97, lit_99, lit_100, lit_122, lit_175, lit_176, lit_200, lit_255, lit_400, lit_700, lit_800, lit_999, lit_1000, lit_1400, lit_2000, lit_2033, lit_2038, lit_2100, lit_2124, lit_8000, lit_10000, lit_12345, lit_32767, lit_1000000, lit_1000000000, ↓bndX_h, ↓bndK_h, bxh_inl, bxh_inr, bkh_inl, bkh_inr, Nat.reduceEqDiff, ↓bnd_h, ↓lt_h, ↓ite_h, bh_some, lh_eq, ih_T, ih_F, ne_eq, not_false_eq_true, not_true_eq_false, eq_self, and_true, true_and, io_def, io_add, io_mul, io_sub, io_lt, io_le, io_eq, io_clamp, io_inbT, io_div, io_mod, io_m1, m1_io, m1_lt, m1_le, neg_1, gI_m1, K0_1, K0_72, K0_111, io_inbT, Nat.reduceAdd, lg_self, m_thrown, zL_law_B2480, zL_would, e1, e2, hc]
    · subst he
      simp -dsimp (disch := first | assumption | omega) only [lit_0, lit_1, lit_2, lit_3, lit_4, lit_5, lit_6, lit_7, lit_8, lit_9, lit_10, lit_11, lit_12, lit_13, lit_14, lit_15, lit_16, lit_17, lit_18, lit_19, lit_20, lit_21, lit_22, lit_23, lit_24, lit_25, lit_26, lit_27, lit_28, lit_29, lit_30, lit_31, lit_32, lit_33, lit_34, lit_35, lit_36, lit_37, lit_38, lit_39, lit_40, lit_41, lit_42, lit_43, lit_44, lit_45, lit_46, lit_47, lit_48, lit_49, lit_50, lit_51, lit_52, lit_53, lit_54, lit_55, lit_56, lit_57, lit_58, lit_59, lit_60, lit_61, lit_62, lit_63, lit_64, lit_97, lit_99, lit_100, lit_122, lit_175, lit_176, lit_200, lit_255, lit_400, lit_700, lit_800, lit_999, lit_1000, lit_1400, lit_2000, lit_2033, lit_2038, lit_2100, lit_2124, lit_8000, lit_10000, lit_12345, lit_32767, lit_1000000, lit_1000000000, ↓bndX_h, ↓bndK_h, bxh_inl, bxh_inr, bkh_inl, bkh_inr, Nat.reduceEqDiff, ↓bnd_h, ↓lt_h, ↓ite_h, bh_some, lh_eq, ih_T, ih_F, ne_eq, not_false_eq_true, not_true_eq_false, eq_self, and_true, true_and, io_def, io_add, io_mul, io_sub, io_lt, io_le, io_eq, io_clamp, io_inbT, io_div, io_mod, io_m1, m1_io, m1_lt, m1_le, neg_1, gI_m1, K0_1, K0_72, K0_111, io_inbT, Nat.reduceAdd, lg_self, m_thrown, zL_law_B2480, zL_would, e1, e2, hc]
theorem case_card (h : ∀ a1 a2, OpR 1 (zX11_card 1 a1 a2) (zX12_card 72 a1 a2)) : StepOK Inv zL_law_B1381 := by
  intro L xs KK i M ⟨R, V, hV, hIp, hIs, hM⟩ h6 hL
  obtain ⟨R', V', r, hV', hE, ⟨x, M1, e1, hx, hIp1, hIs1, hF1⟩, hG⟩ := h (xs (6 * i + 1)) (xs (6 * i + 2)) M R V hV hIp hIs
  subst hx
  unfold zL_law_B1381 zL_law_B1446
  cases x with
  | inl x =>
    obtain ⟨y, N1, e2, ⟨hc, hy⟩, hIM1, hF2⟩ := hG (sL M1 111 0 x.toInt64) (hM.side hF1).out
    subst hy
    refine ⟨N1, Inv.of (M := sL M1 111 0 y.toInt64) hV' hIp1 hIs1 hIM1 hF2, ?_⟩
    have e3 : mL N1 111 0 = y.toInt64 := (hF2.L rfl (by omega)).trans (by rw [mL_sL, if_pos ⟨rfl, rfl⟩])
    simp -dsimp (disch := first | assumption | omega) only [lit_0, lit_1, lit_2, lit_3, lit_4, lit_5, lit_6, lit_7, lit_8, lit_9, lit_10, lit_11, lit_12, lit_13, lit_14, lit_15, lit_16, lit_17, lit_18, lit_19, lit_20, lit_21, lit_22, lit_23, lit_24, lit_25, lit_26, lit_27, lit_28, lit_29, lit_30, lit_31, lit_32, lit_33, lit_34, lit_35, lit_36, lit_37, lit_38, lit_39, lit_40, lit_41, lit_42, lit_43, lit_44, lit_45, lit_46, lit_47, lit_48, lit_49, lit_50, lit_51, lit_52, lit_53, lit_54, lit_55, lit_56, lit_57, lit_58, lit_59, lit_60, lit_61, lit_62, lit_63, lit_64, lit_97, lit_99, lit_100, lit_122, lit_175, lit_176, lit_200, lit_255, lit_400, lit_700, lit_800, lit_999, lit_1000, lit_1400, lit_2000, lit_2033, lit_2038, lit_2100, lit_2124, lit_8000, lit_10000, lit_12345, lit_32767, lit_1000000, lit_1000000000, ↓bndX_h, ↓bndK_h, bxh_inl, bxh_inr, bkh_inl, bkh_inr, Nat.reduceEqDiff, ↓bnd_h, ↓lt_h, ↓ite_h, bh_some, lh_eq, ih_T, ih_F, ne_eq, not_false_eq_true, not_true_eq_false, eq_self, and_true, true_and, io_def, io_add, io_mul, io_sub, io_lt, io_le, io_eq, io_clamp, io_inbT, io_div, io_mod, io_m1, m1_io, m1_lt, m1_le, neg_1, gI_m1, K0_1, K0_72, K0_111, io_inbT, Nat.reduceAdd, lg_self, m_thrown, zL_law_B2480, zL_card, e1, e2, e3, hc]
  | inr e =>
    obtain ⟨y, N1, e2, hc, hIM1, hF2⟩ := hG M1 (hM.side hF1)
    refine ⟨N1, Inv.of hV' hIp1 hIs1 hIM1 hF2, ?_⟩
    rcases hc with ⟨he, hc⟩ | ⟨he, hc⟩
    · subst he
      simp -dsimp (disch := first | assumption | omega) only [lit_0, lit_1, lit_2, lit_3, lit_4, lit_5, lit_6, lit_7, lit_8, lit_9, lit_10, lit_11, lit_12, lit_13, lit_14, lit_15, lit_16, lit_17, lit_18, lit_19, lit_20, lit_21, lit_22, lit_23, lit_24, lit_25, lit_26, lit_27, lit_28, lit_29, lit_30, lit_31, lit_32, lit_33, lit_34, lit_35, lit_36, lit_37, lit_38, lit_39, lit_40, lit_41, lit_42, lit_43, lit_44, lit_45, lit_46, lit_47, lit_48, lit_49, lit_50, lit_51, lit_52, lit_53, lit_54, lit_55, lit_56, lit_57, lit_58, lit_59, lit_60, lit_61, lit_62, lit_63, lit_64, lit_97, lit_99, lit_100, lit_122, lit_175, lit_176, lit_200, lit_255, lit_400, lit_700, lit_800, lit_999, lit_1000, lit_1400, lit_2000, lit_2033, lit_2038, lit_2100, lit_2124, lit_8000, lit_10000, lit_12345, lit_32767, lit_1000000, lit_1000000000, ↓bndX_h, ↓bndK_h, bxh_inl, bxh_inr, bkh_inl, bkh_inr, Nat.reduceEqDiff, ↓bnd_h, ↓lt_h, ↓ite_h, bh_some, lh_eq, ih_T, ih_F, ne_eq, not_false_eq_true, not_true_eq_false, eq_self, and_true, true_and, io_def, io_add, io_mul, io_sub, io_lt, io_le, io_eq, io_clamp, io_inbT, io_div, io_mod, io_m1, m1_io, m1_lt, m1_le, neg_1, gI_m1, K0_1, K0_72, K0_111, io_inbT, Nat.reduceAdd, lg_self, m_thrown, zL_law_B2480, zL_card, e1, e2, hc]
    · subst he
      simp -dsimp (disch := first | assumption | omega) only [lit_0, lit_1, lit_2, lit_3, lit_4, lit_5, lit_6, lit_7, lit_8, lit_9, lit_10, lit_11, lit_12, lit_13, lit_14, lit_15, lit_16, lit_17, lit_18, lit_19, lit_20, lit_21, lit_22, lit_23, lit_24, lit_25, lit_26, lit_27, lit_28, lit_29, lit_30, lit_31, lit_32, lit_33, lit_34, lit_35, lit_36, lit_37, lit_38, lit_39, lit_40, lit_41, lit_42, lit_43, lit_44, lit_45, lit_46, lit_47, lit_48, lit_49, lit_50, lit_51, lit_52, lit_53, lit_54, lit_55, lit_56, lit_57, lit_58, lit_59, lit_60, lit_61, lit_62, lit_63, lit_64, lit_97, lit_99, lit_100, lit_122, lit_175, lit_176, lit_200, lit_255, lit_400, lit_700, lit_800, lit_999, lit_1000, lit_1400, lit_2000, lit_2033, lit_2038, lit_2100, lit_2124, lit_8000, lit_10000, lit_12345, lit_32767, lit_1000000, lit_1000000000, ↓bndX_h, ↓bndK_h, bxh_inl, bxh_inr, bkh_inl, bkh_inr, Nat.reduceEqDiff, ↓bnd_h, ↓lt_h, ↓ite_h, bh_some, lh_eq, ih_T, ih_F, ne_eq, not_false_eq_true, not_true_eq_false, eq_self, and_true, true_and, io_def, io_add, io_mul, io_sub, io_lt, io_le, io_eq, io_clamp, io_inbT, io_div, io_mod, io_m1, m1_io, m1_lt, m1_le, neg_1, gI_m1, K0_1, K0_72, K0_111, io_inbT, Nat.reduceAdd, lg_self, m_thrown, zL_law_B2480, zL_card, e1, e2, hc]
theorem case_seeded (h : ∀ a1 a2, OpR 1 (zX11_seeded 1 a1 a2) (zX12_seeded 72 a1 a2)) : StepOK Inv zL_law_B1449 := by
  intro L xs KK i M ⟨R, V, hV, hIp, hIs, hM⟩ h6 hL
  obtain ⟨R', V', r, hV', hE, ⟨x, M1, e1, hx, hIp1, hIs1, hF1⟩, hG⟩ := h (xs (6 * i + 1)) (xs (6 * i + 2)) M R V hV hIp hIs
  subst hx
  unfold zL_law_B1449 zL_law_B1514
  cases x with
  | inl x =>
    obtain ⟨y, N1, e2, ⟨hc, hy⟩, hIM1, hF2⟩ := hG (sL M1 111 0 x.toInt64) (hM.side hF1).out
    subst hy
    refine ⟨N1, Inv.of (M := sL M1 111 0 y.toInt64) hV' hIp1 hIs1 hIM1 hF2, ?_⟩
    have e3 : mL N1 111 0 = y.toInt64 := (hF2.L rfl (by omega)).trans (by rw [mL_sL, if_pos ⟨rfl, rfl⟩])
    simp -dsimp (disch := first | assumption | omega) only [lit_0, lit_1, lit_2, lit_3, lit_4, lit_5, lit_6, lit_7, lit_8, lit_9, lit_10, lit_11, lit_12, lit_13, lit_14, lit_15, lit_16, lit_17, lit_18, lit_19, lit_20, lit_21, lit_22, lit_23, lit_24, lit_25, lit_26, lit_27, lit_28, lit_29, lit_30, lit_31, lit_32, lit_33, lit_34, lit_35, lit_36, lit_37, lit_38, lit_39, lit_40, lit_41, lit_42, lit_43, lit_44, lit_45, lit_46, lit_47, lit_48, lit_49, lit_50, lit_51, lit_52, lit_53, lit_54, lit_55, lit_56, lit_57, lit_58, lit_59, lit_60, lit_61, lit_62, lit_63, lit_64, lit_97, lit_99, lit_100, lit_122, lit_175, lit_176, lit_200, lit_255, lit_400, lit_700, lit_800, lit_999, lit_1000, lit_1400, lit_2000, lit_2033, lit_2038, lit_2100, lit_2124, lit_8000, lit_10000, lit_12345, lit_32767, lit_1000000, lit_1000000000, ↓bndX_h, ↓bndK_h, bxh_inl, bxh_inr, bkh_inl, bkh_inr, Nat.reduceEqDiff, ↓bnd_h, ↓lt_h, ↓ite_h, bh_some, lh_eq, ih_T, ih_F, ne_eq, not_false_eq_true, not_true_eq_false, eq_self, and_true, true_and, io_def, io_add, io_mul, io_sub, io_lt, io_le, io_eq, io_clamp, io_inbT, io_div, io_mod, io_m1, m1_io, m1_lt, m1_le, neg_1, gI_m1, K0_1, K0_72, K0_111, io_inbT, Nat.reduceAdd, lg_self, m_thrown, zL_law_B2480, zL_seeded, e1, e2, e3, hc]
  | inr e =>
    obtain ⟨y, N1, e2, hc, hIM1, hF2⟩ := hG M1 (hM.side hF1)
    refine ⟨N1, Inv.of hV' hIp1 hIs1 hIM1 hF2, ?_⟩
    rcases hc with ⟨he, hc⟩ | ⟨he, hc⟩
    · subst he
      simp -dsimp (disch := first | assumption | omega) only [lit_0, lit_1, lit_2, lit_3, lit_4, lit_5, lit_6, lit_7, lit_8, lit_9, lit_10, lit_11, lit_12, lit_13, lit_14, lit_15, lit_16, lit_17, lit_18, lit_19, lit_20, lit_21, lit_22, lit_23, lit_24, lit_25, lit_26, lit_27, lit_28, lit_29, lit_30, lit_31, lit_32, lit_33, lit_34, lit_35, lit_36, lit_37, lit_38, lit_39, lit_40, lit_41, lit_42, lit_43, lit_44, lit_45, lit_46, lit_47, lit_48, lit_49, lit_50, lit_51, lit_52, lit_53, lit_54, lit_55, lit_56, lit_57, lit_58, lit_59, lit_60, lit_61, lit_62, lit_63, lit_64, lit_97, lit_99, lit_100, lit_122, lit_175, lit_176, lit_200, lit_255, lit_400, lit_700, lit_800, lit_999, lit_1000, lit_1400, lit_2000, lit_2033, lit_2038, lit_2100, lit_2124, lit_8000, lit_10000, lit_12345, lit_32767, lit_1000000, lit_1000000000, ↓bndX_h, ↓bndK_h, bxh_inl, bxh_inr, bkh_inl, bkh_inr, Nat.reduceEqDiff, ↓bnd_h, ↓lt_h, ↓ite_h, bh_some, lh_eq, ih_T, ih_F, ne_eq, not_false_eq_true, not_true_eq_false, eq_self, and_true, true_and, io_def, io_add, io_mul, io_sub, io_lt, io_le, io_eq, io_clamp, io_inbT, io_div, io_mod, io_m1, m1_io, m1_lt, m1_le, neg_1, gI_m1, K0_1, K0_72, K0_111, io_inbT, Nat.reduceAdd, lg_self, m_thrown, zL_law_B2480, zL_seeded, e1, e2, hc]
    · subst he
      simp -dsimp (disch := first | assumption | omega) only [lit_0, lit_1, lit_2, lit_3, lit_4, lit_5, lit_6, lit_7, lit_8, lit_9, lit_10, lit_11, lit_12, lit_13, lit_14, lit_15, lit_16, lit_17, lit_18, lit_19, lit_20, lit_21, lit_22, lit_23, lit_24, lit_25, lit_26, lit_27, lit_28, lit_29, lit_30, lit_31, lit_32, lit_33, lit_34, lit_35, lit_36, lit_37, lit_38, lit_39, lit_40, lit_41, lit_42, lit_43, lit_44, lit_45, lit_46, lit_47, lit_48, lit_49, lit_50, lit_51, lit_52, lit_53, lit_54, lit_55, lit_56, lit_57, lit_58, lit_59, lit_60, lit_61, lit_62, lit_63, lit_64, lit_97, lit_99, lit_100, lit_122, lit_175, lit_176, lit_200, lit_255, lit_400, lit_700, lit_800, lit_999, lit_1000, lit_1400, lit_2000, lit_2033, lit_2038, lit_2100, lit_2124, lit_8000, lit_10000, lit_12345, lit_32767, lit_1000000, lit_1000000000, ↓bndX_h, ↓bndK_h, bxh_inl, bxh_inr, bkh_inl, bkh_inr, Nat.reduceEqDiff, ↓bnd_h, ↓lt_h, ↓ite_h, bh_some, lh_eq, ih_T, ih_F, ne_eq, not_false_eq_true, not_true_eq_false, eq_self, and_true, true_and, io_def, io_add, io_mul, io_sub, io_lt, io_le, io_eq, io_clamp, io_inbT, io_div, io_mod, io_m1, m1_io, m1_lt, m1_le, neg_1, gI_m1, K0_1, K0_72, K0_111, io_inbT, Nat.reduceAdd, lg_self, m_thrown, zL_law_B2480, zL_seeded, e1, e2, hc]
theorem case_price (h : ∀ a1 a2 a3, OpR 0 (zX11_price 1 a1 a2 a3) (zX12_price 72 a1 a2 a3)) : StepOK Inv zL_law_B1517 := by
  intro L xs KK i M ⟨R, V, hV, hIp, hIs, hM⟩ h6 hL
  obtain ⟨R', V', r, hV', hE, ⟨x, M1, e1, hx, hIp1, hIs1, hF1⟩, hG⟩ := h (xs (6 * i + 1)) (xs (6 * i + 2)) (xs (6 * i + 3)) M R V hV hIp hIs
  subst hx
  unfold zL_law_B1517 zL_law_B1594
  cases x with
  | inl x =>
    obtain ⟨y, N1, e2, ⟨hc, hy⟩, hIM1, hF2⟩ := hG (sL M1 111 0 x.toInt64) (hM.side hF1).out
    subst hy
    refine ⟨N1, Inv.of (M := sL M1 111 0 y.toInt64) hV' hIp1 hIs1 hIM1 hF2, ?_⟩
    have e3 : mL N1 111 0 = y.toInt64 := (hF2.L rfl (by omega)).trans (by rw [mL_sL, if_pos ⟨rfl, rfl⟩])
    simp -dsimp (disch := first | assumption | omega) only [lit_0, lit_1, lit_2, lit_3, lit_4, lit_5, lit_6, lit_7, lit_8, lit_9, lit_10, lit_11, lit_12, lit_13, lit_14, lit_15, lit_16, lit_17, lit_18, lit_19, lit_20, lit_21, lit_22, lit_23, lit_24, lit_25, lit_26, lit_27, lit_28, lit_29, lit_30, lit_31, lit_32, lit_33, lit_34, lit_35, lit_36, lit_37, lit_38, lit_39, lit_40, lit_41, lit_42, lit_43, lit_44, lit_45, lit_46, lit_47, lit_48, lit_49, lit_50, lit_51, lit_52, lit_53, lit_54, lit_55, lit_56, lit_57, lit_58, lit_59, lit_60, lit_61, lit_62, lit_63, lit_64, lit_97, lit_99, lit_100, lit_122, lit_175, lit_176, lit_200, lit_255, lit_400, lit_700, lit_800, lit_999, lit_1000, lit_1400, lit_2000, lit_2033, lit_2038, lit_2100, lit_2124, lit_8000, lit_10000, lit_12345, lit_32767, lit_1000000, lit_1000000000, ↓bndX_h, ↓bndK_h, bxh_inl, bxh_inr, bkh_inl, bkh_inr, Nat.reduceEqDiff, ↓bnd_h, ↓lt_h, ↓ite_h, bh_some, lh_eq, ih_T, ih_F, ne_eq, not_false_eq_true, not_true_eq_false, eq_self, and_true, true_and, io_def, io_add, io_mul, io_sub, io_lt, io_le, io_eq, io_clamp, io_inbT, io_div, io_mod, io_m1, m1_io, m1_lt, m1_le, neg_1, gI_m1, K0_1, K0_72, K0_111, io_inbT, Nat.reduceAdd, lg_self, m_thrown, zL_law_B2480, zL_price, e1, e2, e3, hc]
  | inr e =>
    obtain ⟨y, N1, e2, hc, hIM1, hF2⟩ := hG M1 (hM.side hF1)
    refine ⟨N1, Inv.of hV' hIp1 hIs1 hIM1 hF2, ?_⟩
    rcases hc with ⟨he, hc⟩ | ⟨he, hc⟩
    · subst he
      simp -dsimp (disch := first | assumption | omega) only [lit_0, lit_1, lit_2, lit_3, lit_4, lit_5, lit_6, lit_7, lit_8, lit_9, lit_10, lit_11, lit_12, lit_13, lit_14, lit_15, lit_16, lit_17, lit_18, lit_19, lit_20, lit_21, lit_22, lit_23, lit_24, lit_25, lit_26, lit_27, lit_28, lit_29, lit_30, lit_31, lit_32, lit_33, lit_34, lit_35, lit_36, lit_37, lit_38, lit_39, lit_40, lit_41, lit_42, lit_43, lit_44, lit_45, lit_46, lit_47, lit_48, lit_49, lit_50, lit_51, lit_52, lit_53, lit_54, lit_55, lit_56, lit_57, lit_58, lit_59, lit_60, lit_61, lit_62, lit_63, lit_64, lit_97, lit_99, lit_100, lit_122, lit_175, lit_176, lit_200, lit_255, lit_400, lit_700, lit_800, lit_999, lit_1000, lit_1400, lit_2000, lit_2033, lit_2038, lit_2100, lit_2124, lit_8000, lit_10000, lit_12345, lit_32767, lit_1000000, lit_1000000000, ↓bndX_h, ↓bndK_h, bxh_inl, bxh_inr, bkh_inl, bkh_inr, Nat.reduceEqDiff, ↓bnd_h, ↓lt_h, ↓ite_h, bh_some, lh_eq, ih_T, ih_F, ne_eq, not_false_eq_true, not_true_eq_false, eq_self, and_true, true_and, io_def, io_add, io_mul, io_sub, io_lt, io_le, io_eq, io_clamp, io_inbT, io_div, io_mod, io_m1, m1_io, m1_lt, m1_le, neg_1, gI_m1, K0_1, K0_72, K0_111, io_inbT, Nat.reduceAdd, lg_self, m_thrown, zL_law_B2480, zL_price, e1, e2, hc]
    · subst he
      exact absurd hE (show ¬ (1 ≤ 0) from by decide)
theorem case_priced (h : ∀ a1, OpR 0 (zX11_priced 1 a1) (zX12_priced 72 a1)) : StepOK Inv zL_law_B1597 := by
  intro L xs KK i M ⟨R, V, hV, hIp, hIs, hM⟩ h6 hL
  obtain ⟨R', V', r, hV', hE, ⟨x, M1, e1, hx, hIp1, hIs1, hF1⟩, hG⟩ := h (xs (6 * i + 1)) M R V hV hIp hIs
  subst hx
  unfold zL_law_B1597 zL_law_B1650
  cases x with
  | inl x =>
    obtain ⟨y, N1, e2, ⟨hc, hy⟩, hIM1, hF2⟩ := hG (sL M1 111 0 x.toInt64) (hM.side hF1).out
    subst hy
    refine ⟨N1, Inv.of (M := sL M1 111 0 y.toInt64) hV' hIp1 hIs1 hIM1 hF2, ?_⟩
    have e3 : mL N1 111 0 = y.toInt64 := (hF2.L rfl (by omega)).trans (by rw [mL_sL, if_pos ⟨rfl, rfl⟩])
    simp -dsimp (disch := first | assumption | omega) only [lit_0, lit_1, lit_2, lit_3, lit_4, lit_5, lit_6, lit_7, lit_8, lit_9, lit_10, lit_11, lit_12, lit_13, lit_14, lit_15, lit_16, lit_17, lit_18, lit_19, lit_20, lit_21, lit_22, lit_23, lit_24, lit_25, lit_26, lit_27, lit_28, lit_29, lit_30, lit_31, lit_32, lit_33, lit_34, lit_35, lit_36, lit_37, lit_38, lit_39, lit_40, lit_41, lit_42, lit_43, lit_44, lit_45, lit_46, lit_47, lit_48, lit_49, lit_50, lit_51, lit_52, lit_53, lit_54, lit_55, lit_56, lit_57, lit_58, lit_59, lit_60, lit_61, lit_62, lit_63, lit_64, lit_97, lit_99, lit_100, lit_122, lit_175, lit_176, lit_200, lit_255, lit_400, lit_700, lit_800, lit_999, lit_1000, lit_1400, lit_2000, lit_2033, lit_2038, lit_2100, lit_2124, lit_8000, lit_10000, lit_12345, lit_32767, lit_1000000, lit_1000000000, ↓bndX_h, ↓bndK_h, bxh_inl, bxh_inr, bkh_inl, bkh_inr, Nat.reduceEqDiff, ↓bnd_h, ↓lt_h, ↓ite_h, bh_some, lh_eq, ih_T, ih_F, ne_eq, not_false_eq_true, not_true_eq_false, eq_self, and_true, true_and, io_def, io_add, io_mul, io_sub, io_lt, io_le, io_eq, io_clamp, io_inbT, io_div, io_mod, io_m1, m1_io, m1_lt, m1_le, neg_1, gI_m1, K0_1, K0_72, K0_111, io_inbT, Nat.reduceAdd, lg_self, m_thrown, zL_law_B2480, zL_priced, e1, e2, e3, hc]
  | inr e =>
    obtain ⟨y, N1, e2, hc, hIM1, hF2⟩ := hG M1 (hM.side hF1)
    refine ⟨N1, Inv.of hV' hIp1 hIs1 hIM1 hF2, ?_⟩
    rcases hc with ⟨he, hc⟩ | ⟨he, hc⟩
    · subst he
      simp -dsimp (disch := first | assumption | omega) only [lit_0, lit_1, lit_2, lit_3, lit_4, lit_5, lit_6, lit_7, lit_8, lit_9, lit_10, lit_11, lit_12, lit_13, lit_14, lit_15, lit_16, lit_17, lit_18, lit_19, lit_20, lit_21, lit_22, lit_23, lit_24, lit_25, lit_26, lit_27, lit_28, lit_29, lit_30, lit_31, lit_32, lit_33, lit_34, lit_35, lit_36, lit_37, lit_38, lit_39, lit_40, lit_41, lit_42, lit_43, lit_44, lit_45, lit_46, lit_47, lit_48, lit_49, lit_50, lit_51, lit_52, lit_53, lit_54, lit_55, lit_56, lit_57, lit_58, lit_59, lit_60, lit_61, lit_62, lit_63, lit_64, lit_97, lit_99, lit_100, lit_122, lit_175, lit_176, lit_200, lit_255, lit_400, lit_700, lit_800, lit_999, lit_1000, lit_1400, lit_2000, lit_2033, lit_2038, lit_2100, lit_2124, lit_8000, lit_10000, lit_12345, lit_32767, lit_1000000, lit_1000000000, ↓bndX_h, ↓bndK_h, bxh_inl, bxh_inr, bkh_inl, bkh_inr, Nat.reduceEqDiff, ↓bnd_h, ↓lt_h, ↓ite_h, bh_some, lh_eq, ih_T, ih_F, ne_eq, not_false_eq_true, not_true_eq_false, eq_self, and_true, true_and, io_def, io_add, io_mul, io_sub, io_lt, io_le, io_eq, io_clamp, io_inbT, io_div, io_mod, io_m1, m1_io, m1_lt, m1_le, neg_1, gI_m1, K0_1, K0_72, K0_111, io_inbT, Nat.reduceAdd, lg_self, m_thrown, zL_law_B2480, zL_priced, e1, e2, hc]
    · subst he
      exact absurd hE (show ¬ (1 ≤ 0) from by decide)
theorem case_mixed (h : ∀ a1 a2 a3 a4, OpR 1 (zX11_mixed 1 a1 a2 a3 a4) (zX12_mixed 72 a1 a2 a3 a4)) : StepOK Inv zL_law_B1653 := by
  intro L xs KK i M ⟨R, V, hV, hIp, hIs, hM⟩ h6 hL
  obtain ⟨R', V', r, hV', hE, ⟨x, M1, e1, hx, hIp1, hIs1, hF1⟩, hG⟩ := h (xs (6 * i + 1)) (xs (6 * i + 2)) (xs (6 * i + 3)) (xs (6 * i + 4)) M R V hV hIp hIs
  subst hx
  unfold zL_law_B1653 zL_law_B1742
  cases x with
  | inl x =>
    obtain ⟨y, N1, e2, ⟨hc, hy⟩, hIM1, hF2⟩ := hG (sL M1 111 0 x.toInt64) (hM.side hF1).out
    subst hy
    refine ⟨N1, Inv.of (M := sL M1 111 0 y.toInt64) hV' hIp1 hIs1 hIM1 hF2, ?_⟩
    have e3 : mL N1 111 0 = y.toInt64 := (hF2.L rfl (by omega)).trans (by rw [mL_sL, if_pos ⟨rfl, rfl⟩])
    simp -dsimp (disch := first | assumption | omega) only [lit_0, lit_1, lit_2, lit_3, lit_4, lit_5, lit_6, lit_7, lit_8, lit_9, lit_10, lit_11, lit_12, lit_13, lit_14, lit_15, lit_16, lit_17, lit_18, lit_19, lit_20, lit_21, lit_22, lit_23, lit_24, lit_25, lit_26, lit_27, lit_28, lit_29, lit_30, lit_31, lit_32, lit_33, lit_34, lit_35, lit_36, lit_37, lit_38, lit_39, lit_40, lit_41, lit_42, lit_43, lit_44, lit_45, lit_46, lit_47, lit_48, lit_49, lit_50, lit_51, lit_52, lit_53, lit_54, lit_55, lit_56, lit_57, lit_58, lit_59, lit_60, lit_61, lit_62, lit_63, lit_64, lit_97, lit_99, lit_100, lit_122, lit_175, lit_176, lit_200, lit_255, lit_400, lit_700, lit_800, lit_999, lit_1000, lit_1400, lit_2000, lit_2033, lit_2038, lit_2100, lit_2124, lit_8000, lit_10000, lit_12345, lit_32767, lit_1000000, lit_1000000000, ↓bndX_h, ↓bndK_h, bxh_inl, bxh_inr, bkh_inl, bkh_inr, Nat.reduceEqDiff, ↓bnd_h, ↓lt_h, ↓ite_h, bh_some, lh_eq, ih_T, ih_F, ne_eq, not_false_eq_true, not_true_eq_false, eq_self, and_true, true_and, io_def, io_add, io_mul, io_sub, io_lt, io_le, io_eq, io_clamp, io_inbT, io_div, io_mod, io_m1, m1_io, m1_lt, m1_le, neg_1, gI_m1, K0_1, K0_72, K0_111, io_inbT, Nat.reduceAdd, lg_self, m_thrown, zL_law_B2480, zL_mixed, e1, e2, e3, hc]
  | inr e =>
    obtain ⟨y, N1, e2, hc, hIM1, hF2⟩ := hG M1 (hM.side hF1)
    refine ⟨N1, Inv.of hV' hIp1 hIs1 hIM1 hF2, ?_⟩
    rcases hc with ⟨he, hc⟩ | ⟨he, hc⟩
    · subst he
      simp -dsimp (disch := first | assumption | omega) only [lit_0, lit_1, lit_2, lit_3, lit_4, lit_5, lit_6, lit_7, lit_8, lit_9, lit_10, lit_11, lit_12, lit_13, lit_14, lit_15, lit_16, lit_17, lit_18, lit_19, lit_20, lit_21, lit_22, lit_23, lit_24, lit_25, lit_26, lit_27, lit_28, lit_29, lit_30, lit_31, lit_32, lit_33, lit_34, lit_35, lit_36, lit_37, lit_38, lit_39, lit_40, lit_41, lit_42, lit_43, lit_44, lit_45, lit_46, lit_47, lit_48, lit_49, lit_50, lit_51, lit_52, lit_53, lit_54, lit_55, lit_56, lit_57, lit_58, lit_59, lit_60, lit_61, lit_62, lit_63, lit_64, lit_97, lit_99, lit_100, lit_122, lit_175, lit_176, lit_200, lit_255, lit_400, lit_700, lit_800, lit_999, lit_1000, lit_1400, lit_2000, lit_2033, lit_2038, lit_2100, lit_2124, lit_8000, lit_10000, lit_12345, lit_32767, lit_1000000, lit_1000000000, ↓bndX_h, ↓bndK_h, bxh_inl, bxh_inr, bkh_inl, bkh_inr, Nat.reduceEqDiff, ↓bnd_h, ↓lt_h, ↓ite_h, bh_some, lh_eq, ih_T, ih_F, ne_eq, not_false_eq_true, not_true_eq_false, eq_self, and_true, true_and, io_def, io_add, io_mul, io_sub, io_lt, io_le, io_eq, io_clamp, io_inbT, io_div, io_mod, io_m1, m1_io, m1_lt, m1_le, neg_1, gI_m1, K0_1, K0_72, K0_111, io_inbT, Nat.reduceAdd, lg_self, m_thrown, zL_law_B2480, zL_mixed, e1, e2, hc]
    · subst he
      simp -dsimp (disch := first | assumption | omega) only [lit_0, lit_1, lit_2, lit_3, lit_4, lit_5, lit_6, lit_7, lit_8, lit_9, lit_10, lit_11, lit_12, lit_13, lit_14, lit_15, lit_16, lit_17, lit_18, lit_19, lit_20, lit_21, lit_22, lit_23, lit_24, lit_25, lit_26, lit_27, lit_28, lit_29, lit_30, lit_31, lit_32, lit_33, lit_34, lit_35, lit_36, lit_37, lit_38, lit_39, lit_40, lit_41, lit_42, lit_43, lit_44, lit_45, lit_46, lit_47, lit_48, lit_49, lit_50, lit_51, lit_52, lit_53, lit_54, lit_55, lit_56, lit_57, lit_58, lit_59, lit_60, lit_61, lit_62, lit_63, lit_64, lit_97, lit_99, lit_100, lit_122, lit_175, lit_176, lit_200, lit_255, lit_400, lit_700, lit_800, lit_999, lit_1000, lit_1400, lit_2000, lit_2033, lit_2038, lit_2100, lit_2124, lit_8000, lit_10000, lit_12345, lit_32767, lit_1000000, lit_1000000000, ↓bndX_h, ↓bndK_h, bxh_inl, bxh_inr, bkh_inl, bkh_inr, Nat.reduceEqDiff, ↓bnd_h, ↓lt_h, ↓ite_h, bh_some, lh_eq, ih_T, ih_F, ne_eq, not_false_eq_true, not_true_eq_false, eq_self, and_true, true_and, io_def, io_add, io_mul, io_sub, io_lt, io_le, io_eq, io_clamp, io_inbT, io_div, io_mod, io_m1, m1_io, m1_lt, m1_le, neg_1, gI_m1, K0_1, K0_72, K0_111, io_inbT, Nat.reduceAdd, lg_self, m_thrown, zL_law_B2480, zL_mixed, e1, e2, hc]
theorem case_near (h : ∀ a1 a2, OpR 1 (zX11_near 1 a1 a2) (zX12_near 72 a1 a2)) : StepOK Inv zL_law_B1745 := by
  intro L xs KK i M ⟨R, V, hV, hIp, hIs, hM⟩ h6 hL
  obtain ⟨R', V', r, hV', hE, ⟨x, M1, e1, hx, hIp1, hIs1, hF1⟩, hG⟩ := h (xs (6 * i + 1)) (xs (6 * i + 2)) M R V hV hIp hIs
  subst hx
  unfold zL_law_B1745 zL_law_B1810
  cases x with
  | inl x =>
    obtain ⟨y, N1, e2, ⟨hc, hy⟩, hIM1, hF2⟩ := hG (sL M1 111 0 x.toInt64) (hM.side hF1).out
    subst hy
    refine ⟨N1, Inv.of (M := sL M1 111 0 y.toInt64) hV' hIp1 hIs1 hIM1 hF2, ?_⟩
    have e3 : mL N1 111 0 = y.toInt64 := (hF2.L rfl (by omega)).trans (by rw [mL_sL, if_pos ⟨rfl, rfl⟩])
    simp -dsimp (disch := first | assumption | omega) only [lit_0, lit_1, lit_2, lit_3, lit_4, lit_5, lit_6, lit_7, lit_8, lit_9, lit_10, lit_11, lit_12, lit_13, lit_14, lit_15, lit_16, lit_17, lit_18, lit_19, lit_20, lit_21, lit_22, lit_23, lit_24, lit_25, lit_26, lit_27, lit_28, lit_29, lit_30, lit_31, lit_32, lit_33, lit_34, lit_35, lit_36, lit_37, lit_38, lit_39, lit_40, lit_41, lit_42, lit_43, lit_44, lit_45, lit_46, lit_47, lit_48, lit_49, lit_50, lit_51, lit_52, lit_53, lit_54, lit_55, lit_56, lit_57, lit_58, lit_59, lit_60, lit_61, lit_62, lit_63, lit_64, lit_97, lit_99, lit_100, lit_122, lit_175, lit_176, lit_200, lit_255, lit_400, lit_700, lit_800, lit_999, lit_1000, lit_1400, lit_2000, lit_2033, lit_2038, lit_2100, lit_2124, lit_8000, lit_10000, lit_12345, lit_32767, lit_1000000, lit_1000000000, ↓bndX_h, ↓bndK_h, bxh_inl, bxh_inr, bkh_inl, bkh_inr, Nat.reduceEqDiff, ↓bnd_h, ↓lt_h, ↓ite_h, bh_some, lh_eq, ih_T, ih_F, ne_eq, not_false_eq_true, not_true_eq_false, eq_self, and_true, true_and, io_def, io_add, io_mul, io_sub, io_lt, io_le, io_eq, io_clamp, io_inbT, io_div, io_mod, io_m1, m1_io, m1_lt, m1_le, neg_1, gI_m1, K0_1, K0_72, K0_111, io_inbT, Nat.reduceAdd, lg_self, m_thrown, zL_law_B2480, zL_near, e1, e2, e3, hc]
  | inr e =>
    obtain ⟨y, N1, e2, hc, hIM1, hF2⟩ := hG M1 (hM.side hF1)
    refine ⟨N1, Inv.of hV' hIp1 hIs1 hIM1 hF2, ?_⟩
    rcases hc with ⟨he, hc⟩ | ⟨he, hc⟩
    · subst he
      simp -dsimp (disch := first | assumption | omega) only [lit_0, lit_1, lit_2, lit_3, lit_4, lit_5, lit_6, lit_7, lit_8, lit_9, lit_10, lit_11, lit_12, lit_13, lit_14, lit_15, lit_16, lit_17, lit_18, lit_19, lit_20, lit_21, lit_22, lit_23, lit_24, lit_25, lit_26, lit_27, lit_28, lit_29, lit_30, lit_31, lit_32, lit_33, lit_34, lit_35, lit_36, lit_37, lit_38, lit_39, lit_40, lit_41, lit_42, lit_43, lit_44, lit_45, lit_46, lit_47, lit_48, lit_49, lit_50, lit_51, lit_52, lit_53, lit_54, lit_55, lit_56, lit_57, lit_58, lit_59, lit_60, lit_61, lit_62, lit_63, lit_64, lit_97, lit_99, lit_100, lit_122, lit_175, lit_176, lit_200, lit_255, lit_400, lit_700, lit_800, lit_999, lit_1000, lit_1400, lit_2000, lit_2033, lit_2038, lit_2100, lit_2124, lit_8000, lit_10000, lit_12345, lit_32767, lit_1000000, lit_1000000000, ↓bndX_h, ↓bndK_h, bxh_inl, bxh_inr, bkh_inl, bkh_inr, Nat.reduceEqDiff, ↓bnd_h, ↓lt_h, ↓ite_h, bh_some, lh_eq, ih_T, ih_F, ne_eq, not_false_eq_true, not_true_eq_false, eq_self, and_true, true_and, io_def, io_add, io_mul, io_sub, io_lt, io_le, io_eq, io_clamp, io_inbT, io_div, io_mod, io_m1, m1_io, m1_lt, m1_le, neg_1, gI_m1, K0_1, K0_72, K0_111, io_inbT, Nat.reduceAdd, lg_self, m_thrown, zL_law_B2480, zL_near, e1, e2, hc]
    · subst he
      simp -dsimp (disch := first | assumption | omega) only [lit_0, lit_1, lit_2, lit_3, lit_4, lit_5, lit_6, lit_7, lit_8, lit_9, lit_10, lit_11, lit_12, lit_13, lit_14, lit_15, lit_16, lit_17, lit_18, lit_19, lit_20, lit_21, lit_22, lit_23, lit_24, lit_25, lit_26, lit_27, lit_28, lit_29, lit_30, lit_31, lit_32, lit_33, lit_34, lit_35, lit_36, lit_37, lit_38, lit_39, lit_40, lit_41, lit_42, lit_43, lit_44, lit_45, lit_46, lit_47, lit_48, lit_49, lit_50, lit_51, lit_52, lit_53, lit_54, lit_55, lit_56, lit_57, lit_58, lit_59, lit_60, lit_61, lit_62, lit_63, lit_64, lit_97, lit_99, lit_100, lit_122, lit_175, lit_176, lit_200, lit_255, lit_400, lit_700, lit_800, lit_999, lit_1000, lit_1400, lit_2000, lit_2033, lit_2038, lit_2100, lit_2124, lit_8000, lit_10000, lit_12345, lit_32767, lit_1000000, lit_1000000000, ↓bndX_h, ↓bndK_h, bxh_inl, bxh_inr, bkh_inl, bkh_inr, Nat.reduceEqDiff, ↓bnd_h, ↓lt_h, ↓ite_h, bh_some, lh_eq, ih_T, ih_F, ne_eq, not_false_eq_true, not_true_eq_false, eq_self, and_true, true_and, io_def, io_add, io_mul, io_sub, io_lt, io_le, io_eq, io_clamp, io_inbT, io_div, io_mod, io_m1, m1_io, m1_lt, m1_le, neg_1, gI_m1, K0_1, K0_72, K0_111, io_inbT, Nat.reduceAdd, lg_self, m_thrown, zL_law_B2480, zL_near, e1, e2, hc]
theorem case_give (h : ∀ a1 a2, OpR 0 (zX11_give 1 a1 a2) (zX12_give 72 a1 a2)) : StepOK Inv zL_law_B1813 := by
  intro L xs KK i M ⟨R, V, hV, hIp, hIs, hM⟩ h6 hL
  obtain ⟨R', V', r, hV', hE, ⟨x, M1, e1, hx, hIp1, hIs1, hF1⟩, hG⟩ := h (xs (6 * i + 1)) (xs (6 * i + 2)) M R V hV hIp hIs
  subst hx
  unfold zL_law_B1813 zL_law_B1878
  cases x with
  | inl x =>
    obtain ⟨y, N1, e2, ⟨hc, hy⟩, hIM1, hF2⟩ := hG (sL M1 111 0 x.toInt64) (hM.side hF1).out
    subst hy
    refine ⟨N1, Inv.of (M := sL M1 111 0 y.toInt64) hV' hIp1 hIs1 hIM1 hF2, ?_⟩
    have e3 : mL N1 111 0 = y.toInt64 := (hF2.L rfl (by omega)).trans (by rw [mL_sL, if_pos ⟨rfl, rfl⟩])
    simp -dsimp (disch := first | assumption | omega) only [lit_0, lit_1, lit_2, lit_3, lit_4, lit_5, lit_6, lit_7, lit_8, lit_9, lit_10, lit_11, lit_12, lit_13, lit_14, lit_15, lit_16, lit_17, lit_18, lit_19, lit_20, lit_21, lit_22, lit_23, lit_24, lit_25, lit_26, lit_27, lit_28, lit_29, lit_30, lit_31, lit_32, lit_33, lit_34, lit_35, lit_36, lit_37, lit_38, lit_39, lit_40, lit_41, lit_42, lit_43, lit_44, lit_45, lit_46, lit_47, lit_48, lit_49, lit_50, lit_51, lit_52, lit_53, lit_54, lit_55, lit_56, lit_57, lit_58, lit_59, lit_60, lit_61, lit_62, lit_63, lit_64, lit_97, lit_99, lit_100, lit_122, lit_175, lit_176, lit_200, lit_255, lit_400, lit_700, lit_800, lit_999, lit_1000, lit_1400, lit_2000, lit_2033, lit_2038, lit_2100, lit_2124, lit_8000, lit_10000, lit_12345, lit_32767, lit_1000000, lit_1000000000, ↓bndX_h, ↓bndK_h, bxh_inl, bxh_inr, bkh_inl, bkh_inr, Nat.reduceEqDiff, ↓bnd_h, ↓lt_h, ↓ite_h, bh_some, lh_eq, ih_T, ih_F, ne_eq, not_false_eq_true, not_true_eq_false, eq_self, and_true, true_and, io_def, io_add, io_mul, io_sub, io_lt, io_le, io_eq, io_clamp, io_inbT, io_div, io_mod, io_m1, m1_io, m1_lt, m1_le, neg_1, gI_m1, K0_1, K0_72, K0_111, io_inbT, Nat.reduceAdd, lg_self, m_thrown, zL_law_B2480, zL_give, e1, e2, e3, hc]
  | inr e =>
    obtain ⟨y, N1, e2, hc, hIM1, hF2⟩ := hG M1 (hM.side hF1)
    refine ⟨N1, Inv.of hV' hIp1 hIs1 hIM1 hF2, ?_⟩
    rcases hc with ⟨he, hc⟩ | ⟨he, hc⟩
    · subst he
      simp -dsimp (disch := first | assumption | omega) only [lit_0, lit_1, lit_2, lit_3, lit_4, lit_5, lit_6, lit_7, lit_8, lit_9, lit_10, lit_11, lit_12, lit_13, lit_14, lit_15, lit_16, lit_17, lit_18, lit_19, lit_20, lit_21, lit_22, lit_23, lit_24, lit_25, lit_26, lit_27, lit_28, lit_29, lit_30, lit_31, lit_32, lit_33, lit_34, lit_35, lit_36, lit_37, lit_38, lit_39, lit_40, lit_41, lit_42, lit_43, lit_44, lit_45, lit_46, lit_47, lit_48, lit_49, lit_50, lit_51, lit_52, lit_53, lit_54, lit_55, lit_56, lit_57, lit_58, lit_59, lit_60, lit_61, lit_62, lit_63, lit_64, lit_97, lit_99, lit_100, lit_122, lit_175, lit_176, lit_200, lit_255, lit_400, lit_700, lit_800, lit_999, lit_1000, lit_1400, lit_2000, lit_2033, lit_2038, lit_2100, lit_2124, lit_8000, lit_10000, lit_12345, lit_32767, lit_1000000, lit_1000000000, ↓bndX_h, ↓bndK_h, bxh_inl, bxh_inr, bkh_inl, bkh_inr, Nat.reduceEqDiff, ↓bnd_h, ↓lt_h, ↓ite_h, bh_some, lh_eq, ih_T, ih_F, ne_eq, not_false_eq_true, not_true_eq_false, eq_self, and_true, true_and, io_def, io_add, io_mul, io_sub, io_lt, io_le, io_eq, io_clamp, io_inbT, io_div, io_mod, io_m1, m1_io, m1_lt, m1_le, neg_1, gI_m1, K0_1, K0_72, K0_111, io_inbT, Nat.reduceAdd, lg_self, m_thrown, zL_law_B2480, zL_give, e1, e2, hc]
    · subst he
      exact absurd hE (show ¬ (1 ≤ 0) from by decide)
theorem case_given (h : ∀ a1 a2 a3, OpR 0 (zX11_given 1 a1 a2 a3) (zX12_given 72 a1 a2 a3)) : StepOK Inv zL_law_B1881 := by
  intro L xs KK i M ⟨R, V, hV, hIp, hIs, hM⟩ h6 hL
  obtain ⟨R', V', r, hV', hE, ⟨x, M1, e1, hx, hIp1, hIs1, hF1⟩, hG⟩ := h (xs (6 * i + 1)) (xs (6 * i + 2)) (xs (6 * i + 3)) M R V hV hIp hIs
  subst hx
  unfold zL_law_B1881 zL_law_B1958
  cases x with
  | inl x =>
    obtain ⟨y, N1, e2, ⟨hc, hy⟩, hIM1, hF2⟩ := hG (sL M1 111 0 x.toInt64) (hM.side hF1).out
    subst hy
    refine ⟨N1, Inv.of (M := sL M1 111 0 y.toInt64) hV' hIp1 hIs1 hIM1 hF2, ?_⟩
    have e3 : mL N1 111 0 = y.toInt64 := (hF2.L rfl (by omega)).trans (by rw [mL_sL, if_pos ⟨rfl, rfl⟩])
    simp -dsimp (disch := first | assumption | omega) only [lit_0, lit_1, lit_2, lit_3, lit_4, lit_5, lit_6, lit_7, lit_8, lit_9, lit_10, lit_11, lit_12, lit_13, lit_14, lit_15, lit_16, lit_17, lit_18, lit_19, lit_20, lit_21, lit_22, lit_23, lit_24, lit_25, lit_26, lit_27, lit_28, lit_29, lit_30, lit_31, lit_32, lit_33, lit_34, lit_35, lit_36, lit_37, lit_38, lit_39, lit_40, lit_41, lit_42, lit_43, lit_44, lit_45, lit_46, lit_47, lit_48, lit_49, lit_50, lit_51, lit_52, lit_53, lit_54, lit_55, lit_56, lit_57, lit_58, lit_59, lit_60, lit_61, lit_62, lit_63, lit_64, lit_97, lit_99, lit_100, lit_122, lit_175, lit_176, lit_200, lit_255, lit_400, lit_700, lit_800, lit_999, lit_1000, lit_1400, lit_2000, lit_2033, lit_2038, lit_2100, lit_2124, lit_8000, lit_10000, lit_12345, lit_32767, lit_1000000, lit_1000000000, ↓bndX_h, ↓bndK_h, bxh_inl, bxh_inr, bkh_inl, bkh_inr, Nat.reduceEqDiff, ↓bnd_h, ↓lt_h, ↓ite_h, bh_some, lh_eq, ih_T, ih_F, ne_eq, not_false_eq_true, not_true_eq_false, eq_self, and_true, true_and, io_def, io_add, io_mul, io_sub, io_lt, io_le, io_eq, io_clamp, io_inbT, io_div, io_mod, io_m1, m1_io, m1_lt, m1_le, neg_1, gI_m1, K0_1, K0_72, K0_111, io_inbT, Nat.reduceAdd, lg_self, m_thrown, zL_law_B2480, zL_given, e1, e2, e3, hc]
  | inr e =>
    obtain ⟨y, N1, e2, hc, hIM1, hF2⟩ := hG M1 (hM.side hF1)
    refine ⟨N1, Inv.of hV' hIp1 hIs1 hIM1 hF2, ?_⟩
    rcases hc with ⟨he, hc⟩ | ⟨he, hc⟩
    · subst he
      simp -dsimp (disch := first | assumption | omega) only [lit_0, lit_1, lit_2, lit_3, lit_4, lit_5, lit_6, lit_7, lit_8, lit_9, lit_10, lit_11, lit_12, lit_13, lit_14, lit_15, lit_16, lit_17, lit_18, lit_19, lit_20, lit_21, lit_22, lit_23, lit_24, lit_25, lit_26, lit_27, lit_28, lit_29, lit_30, lit_31, lit_32, lit_33, lit_34, lit_35, lit_36, lit_37, lit_38, lit_39, lit_40, lit_41, lit_42, lit_43, lit_44, lit_45, lit_46, lit_47, lit_48, lit_49, lit_50, lit_51, lit_52, lit_53, lit_54, lit_55, lit_56, lit_57, lit_58, lit_59, lit_60, lit_61, lit_62, lit_63, lit_64, lit_97, lit_99, lit_100, lit_122, lit_175, lit_176, lit_200, lit_255, lit_400, lit_700, lit_800, lit_999, lit_1000, lit_1400, lit_2000, lit_2033, lit_2038, lit_2100, lit_2124, lit_8000, lit_10000, lit_12345, lit_32767, lit_1000000, lit_1000000000, ↓bndX_h, ↓bndK_h, bxh_inl, bxh_inr, bkh_inl, bkh_inr, Nat.reduceEqDiff, ↓bnd_h, ↓lt_h, ↓ite_h, bh_some, lh_eq, ih_T, ih_F, ne_eq, not_false_eq_true, not_true_eq_false, eq_self, and_true, true_and, io_def, io_add, io_mul, io_sub, io_lt, io_le, io_eq, io_clamp, io_inbT, io_div, io_mod, io_m1, m1_io, m1_lt, m1_le, neg_1, gI_m1, K0_1, K0_72, K0_111, io_inbT, Nat.reduceAdd, lg_self, m_thrown, zL_law_B2480, zL_given, e1, e2, hc]
    · subst he
      exact absurd hE (show ¬ (1 ≤ 0) from by decide)
theorem case_who (h : ∀ a1 a2 a3, OpR 0 (zX11_who 1 a1 a2 a3) (zX12_who 72 a1 a2 a3)) : StepOK Inv zL_law_B1961 := by
  intro L xs KK i M ⟨R, V, hV, hIp, hIs, hM⟩ h6 hL
  obtain ⟨R', V', r, hV', hE, ⟨x, M1, e1, hx, hIp1, hIs1, hF1⟩, hG⟩ := h (xs (6 * i + 1)) (xs (6 * i + 2)) (xs (6 * i + 3)) M R V hV hIp hIs
  subst hx
  unfold zL_law_B1961 zL_law_B2038
  cases x with
  | inl x =>
    obtain ⟨y, N1, e2, ⟨hc, hy⟩, hIM1, hF2⟩ := hG (sL M1 111 0 x.toInt64) (hM.side hF1).out
    subst hy
    refine ⟨N1, Inv.of (M := sL M1 111 0 y.toInt64) hV' hIp1 hIs1 hIM1 hF2, ?_⟩
    have e3 : mL N1 111 0 = y.toInt64 := (hF2.L rfl (by omega)).trans (by rw [mL_sL, if_pos ⟨rfl, rfl⟩])
    simp -dsimp (disch := first | assumption | omega) only [lit_0, lit_1, lit_2, lit_3, lit_4, lit_5, lit_6, lit_7, lit_8, lit_9, lit_10, lit_11, lit_12, lit_13, lit_14, lit_15, lit_16, lit_17, lit_18, lit_19, lit_20, lit_21, lit_22, lit_23, lit_24, lit_25, lit_26, lit_27, lit_28, lit_29, lit_30, lit_31, lit_32, lit_33, lit_34, lit_35, lit_36, lit_37, lit_38, lit_39, lit_40, lit_41, lit_42, lit_43, lit_44, lit_45, lit_46, lit_47, lit_48, lit_49, lit_50, lit_51, lit_52, lit_53, lit_54, lit_55, lit_56, lit_57, lit_58, lit_59, lit_60, lit_61, lit_62, lit_63, lit_64, lit_97, lit_99, lit_100, lit_122, lit_175, lit_176, lit_200, lit_255, lit_400, lit_700, lit_800, lit_999, lit_1000, lit_1400, lit_2000, lit_2033, lit_2038, lit_2100, lit_2124, lit_8000, lit_10000, lit_12345, lit_32767, lit_1000000, lit_1000000000, ↓bndX_h, ↓bndK_h, bxh_inl, bxh_inr, bkh_inl, bkh_inr, Nat.reduceEqDiff, ↓bnd_h, ↓lt_h, ↓ite_h, bh_some, lh_eq, ih_T, ih_F, ne_eq, not_false_eq_true, not_true_eq_false, eq_self, and_true, true_and, io_def, io_add, io_mul, io_sub, io_lt, io_le, io_eq, io_clamp, io_inbT, io_div, io_mod, io_m1, m1_io, m1_lt, m1_le, neg_1, gI_m1, K0_1, K0_72, K0_111, io_inbT, Nat.reduceAdd, lg_self, m_thrown, zL_law_B2480, zL_who, e1, e2, e3, hc]
  | inr e =>
    obtain ⟨y, N1, e2, hc, hIM1, hF2⟩ := hG M1 (hM.side hF1)
    refine ⟨N1, Inv.of hV' hIp1 hIs1 hIM1 hF2, ?_⟩
    rcases hc with ⟨he, hc⟩ | ⟨he, hc⟩
    · subst he
      simp -dsimp (disch := first | assumption | omega) only [lit_0, lit_1, lit_2, lit_3, lit_4, lit_5, lit_6, lit_7, lit_8, lit_9, lit_10, lit_11, lit_12, lit_13, lit_14, lit_15, lit_16, lit_17, lit_18, lit_19, lit_20, lit_21, lit_22, lit_23, lit_24, lit_25, lit_26, lit_27, lit_28, lit_29, lit_30, lit_31, lit_32, lit_33, lit_34, lit_35, lit_36, lit_37, lit_38, lit_39, lit_40, lit_41, lit_42, lit_43, lit_44, lit_45, lit_46, lit_47, lit_48, lit_49, lit_50, lit_51, lit_52, lit_53, lit_54, lit_55, lit_56, lit_57, lit_58, lit_59, lit_60, lit_61, lit_62, lit_63, lit_64, lit_97, lit_99, lit_100, lit_122, lit_175, lit_176, lit_200, lit_255, lit_400, lit_700, lit_800, lit_999, lit_1000, lit_1400, lit_2000, lit_2033, lit_2038, lit_2100, lit_2124, lit_8000, lit_10000, lit_12345, lit_32767, lit_1000000, lit_1000000000, ↓bndX_h, ↓bndK_h, bxh_inl, bxh_inr, bkh_inl, bkh_inr, Nat.reduceEqDiff, ↓bnd_h, ↓lt_h, ↓ite_h, bh_some, lh_eq, ih_T, ih_F, ne_eq, not_false_eq_true, not_true_eq_false, eq_self, and_true, true_and, io_def, io_add, io_mul, io_sub, io_lt, io_le, io_eq, io_clamp, io_inbT, io_div, io_mod, io_m1, m1_io, m1_lt, m1_le, neg_1, gI_m1, K0_1, K0_72, K0_111, io_inbT, Nat.reduceAdd, lg_self, m_thrown, zL_law_B2480, zL_who, e1, e2, hc]
    · subst he
      exact absurd hE (show ¬ (1 ≤ 0) from by decide)
theorem case_strange (h : ∀ a1, OpR 0 (zX11_strange 1 a1) (zX12_strange 72 a1)) : StepOK Inv zL_law_B2041 := by
  intro L xs KK i M ⟨R, V, hV, hIp, hIs, hM⟩ h6 hL
  obtain ⟨R', V', r, hV', hE, ⟨x, M1, e1, hx, hIp1, hIs1, hF1⟩, hG⟩ := h (xs (6 * i + 1)) M R V hV hIp hIs
  subst hx
  unfold zL_law_B2041 zL_law_B2094
  cases x with
  | inl x =>
    obtain ⟨y, N1, e2, ⟨hc, hy⟩, hIM1, hF2⟩ := hG (sL M1 111 0 x.toInt64) (hM.side hF1).out
    subst hy
    refine ⟨N1, Inv.of (M := sL M1 111 0 y.toInt64) hV' hIp1 hIs1 hIM1 hF2, ?_⟩
    have e3 : mL N1 111 0 = y.toInt64 := (hF2.L rfl (by omega)).trans (by rw [mL_sL, if_pos ⟨rfl, rfl⟩])
    simp -dsimp (disch := first | assumption | omega) only [lit_0, lit_1, lit_2, lit_3, lit_4, lit_5, lit_6, lit_7, lit_8, lit_9, lit_10, lit_11, lit_12, lit_13, lit_14, lit_15, lit_16, lit_17, lit_18, lit_19, lit_20, lit_21, lit_22, lit_23, lit_24, lit_25, lit_26, lit_27, lit_28, lit_29, lit_30, lit_31, lit_32, lit_33, lit_34, lit_35, lit_36, lit_37, lit_38, lit_39, lit_40, lit_41, lit_42, lit_43, lit_44, lit_45, lit_46, lit_47, lit_48, lit_49, lit_50, lit_51, lit_52, lit_53, lit_54, lit_55, lit_56, lit_57, lit_58, lit_59, lit_60, lit_61, lit_62, lit_63, lit_64, lit_97, lit_99, lit_100, lit_122, lit_175, lit_176, lit_200, lit_255, lit_400, lit_700, lit_800, lit_999, lit_1000, lit_1400, lit_2000, lit_2033, lit_2038, lit_2100, lit_2124, lit_8000, lit_10000, lit_12345, lit_32767, lit_1000000, lit_1000000000, ↓bndX_h, ↓bndK_h, bxh_inl, bxh_inr, bkh_inl, bkh_inr, Nat.reduceEqDiff, ↓bnd_h, ↓lt_h, ↓ite_h, bh_some, lh_eq, ih_T, ih_F, ne_eq, not_false_eq_true, not_true_eq_false, eq_self, and_true, true_and, io_def, io_add, io_mul, io_sub, io_lt, io_le, io_eq, io_clamp, io_inbT, io_div, io_mod, io_m1, m1_io, m1_lt, m1_le, neg_1, gI_m1, K0_1, K0_72, K0_111, io_inbT, Nat.reduceAdd, lg_self, m_thrown, zL_law_B2480, zL_strange, e1, e2, e3, hc]
  | inr e =>
    obtain ⟨y, N1, e2, hc, hIM1, hF2⟩ := hG M1 (hM.side hF1)
    refine ⟨N1, Inv.of hV' hIp1 hIs1 hIM1 hF2, ?_⟩
    rcases hc with ⟨he, hc⟩ | ⟨he, hc⟩
    · subst he
      simp -dsimp (disch := first | assumption | omega) only [lit_0, lit_1, lit_2, lit_3, lit_4, lit_5, lit_6, lit_7, lit_8, lit_9, lit_10, lit_11, lit_12, lit_13, lit_14, lit_15, lit_16, lit_17, lit_18, lit_19, lit_20, lit_21, lit_22, lit_23, lit_24, lit_25, lit_26, lit_27, lit_28, lit_29, lit_30, lit_31, lit_32, lit_33, lit_34, lit_35, lit_36, lit_37, lit_38, lit_39, lit_40, lit_41, lit_42, lit_43, lit_44, lit_45, lit_46, lit_47, lit_48, lit_49, lit_50, lit_51, lit_52, lit_53, lit_54, lit_55, lit_56, lit_57, lit_58, lit_59, lit_60, lit_61, lit_62, lit_63, lit_64, lit_97, lit_99, lit_100, lit_122, lit_175, lit_176, lit_200, lit_255, lit_400, lit_700, lit_800, lit_999, lit_1000, lit_1400, lit_2000, lit_2033, lit_2038, lit_2100, lit_2124, lit_8000, lit_10000, lit_12345, lit_32767, lit_1000000, lit_1000000000, ↓bndX_h, ↓bndK_h, bxh_inl, bxh_inr, bkh_inl, bkh_inr, Nat.reduceEqDiff, ↓bnd_h, ↓lt_h, ↓ite_h, bh_some, lh_eq, ih_T, ih_F, ne_eq, not_false_eq_true, not_true_eq_false, eq_self, and_true, true_and, io_def, io_add, io_mul, io_sub, io_lt, io_le, io_eq, io_clamp, io_inbT, io_div, io_mod, io_m1, m1_io, m1_lt, m1_le, neg_1, gI_m1, K0_1, K0_72, K0_111, io_inbT, Nat.reduceAdd, lg_self, m_thrown, zL_law_B2480, zL_strange, e1, e2, hc]
    · subst he
      exact absurd hE (show ¬ (1 ≤ 0) from by decide)
theorem case_fewest (h : ∀ a1, OpR 0 (zX11_fewest 1 a1) (zX12_fewest 72 a1)) : StepOK Inv zL_law_B2097 := by
  intro L xs KK i M ⟨R, V, hV, hIp, hIs, hM⟩ h6 hL
  obtain ⟨R', V', r, hV', hE, ⟨x, M1, e1, hx, hIp1, hIs1, hF1⟩, hG⟩ := h (xs (6 * i + 1)) M R V hV hIp hIs
  subst hx
  unfold zL_law_B2097 zL_law_B2150
  cases x with
  | inl x =>
    obtain ⟨y, N1, e2, ⟨hc, hy⟩, hIM1, hF2⟩ := hG (sL M1 111 0 x.toInt64) (hM.side hF1).out
    subst hy
    refine ⟨N1, Inv.of (M := sL M1 111 0 y.toInt64) hV' hIp1 hIs1 hIM1 hF2, ?_⟩
    have e3 : mL N1 111 0 = y.toInt64 := (hF2.L rfl (by omega)).trans (by rw [mL_sL, if_pos ⟨rfl, rfl⟩])
    simp -dsimp (disch := first | assumption | omega) only [lit_0, lit_1, lit_2, lit_3, lit_4, lit_5, lit_6, lit_7, lit_8, lit_9, lit_10, lit_11, lit_12, lit_13, lit_14, lit_15, lit_16, lit_17, lit_18, lit_19, lit_20, lit_21, lit_22, lit_23, lit_24, lit_25, lit_26, lit_27, lit_28, lit_29, lit_30, lit_31, lit_32, lit_33, lit_34, lit_35, lit_36, lit_37, lit_38, lit_39, lit_40, lit_41, lit_42, lit_43, lit_44, lit_45, lit_46, lit_47, lit_48, lit_49, lit_50, lit_51, lit_52, lit_53, lit_54, lit_55, lit_56, lit_57, lit_58, lit_59, lit_60, lit_61, lit_62, lit_63, lit_64, lit_97, lit_99, lit_100, lit_122, lit_175, lit_176, lit_200, lit_255, lit_400, lit_700, lit_800, lit_999, lit_1000, lit_1400, lit_2000, lit_2033, lit_2038, lit_2100, lit_2124, lit_8000, lit_10000, lit_12345, lit_32767, lit_1000000, lit_1000000000, ↓bndX_h, ↓bndK_h, bxh_inl, bxh_inr, bkh_inl, bkh_inr, Nat.reduceEqDiff, ↓bnd_h, ↓lt_h, ↓ite_h, bh_some, lh_eq, ih_T, ih_F, ne_eq, not_false_eq_true, not_true_eq_false, eq_self, and_true, true_and, io_def, io_add, io_mul, io_sub, io_lt, io_le, io_eq, io_clamp, io_inbT, io_div, io_mod, io_m1, m1_io, m1_lt, m1_le, neg_1, gI_m1, K0_1, K0_72, K0_111, io_inbT, Nat.reduceAdd, lg_self, m_thrown, zL_law_B2480, zL_fewest, e1, e2, e3, hc]
  | inr e =>
    obtain ⟨y, N1, e2, hc, hIM1, hF2⟩ := hG M1 (hM.side hF1)
    refine ⟨N1, Inv.of hV' hIp1 hIs1 hIM1 hF2, ?_⟩
    rcases hc with ⟨he, hc⟩ | ⟨he, hc⟩
    · subst he
      simp -dsimp (disch := first | assumption | omega) only [lit_0, lit_1, lit_2, lit_3, lit_4, lit_5, lit_6, lit_7, lit_8, lit_9, lit_10, lit_11, lit_12, lit_13, lit_14, lit_15, lit_16, lit_17, lit_18, lit_19, lit_20, lit_21, lit_22, lit_23, lit_24, lit_25, lit_26, lit_27, lit_28, lit_29, lit_30, lit_31, lit_32, lit_33, lit_34, lit_35, lit_36, lit_37, lit_38, lit_39, lit_40, lit_41, lit_42, lit_43, lit_44, lit_45, lit_46, lit_47, lit_48, lit_49, lit_50, lit_51, lit_52, lit_53, lit_54, lit_55, lit_56, lit_57, lit_58, lit_59, lit_60, lit_61, lit_62, lit_63, lit_64, lit_97, lit_99, lit_100, lit_122, lit_175, lit_176, lit_200, lit_255, lit_400, lit_700, lit_800, lit_999, lit_1000, lit_1400, lit_2000, lit_2033, lit_2038, lit_2100, lit_2124, lit_8000, lit_10000, lit_12345, lit_32767, lit_1000000, lit_1000000000, ↓bndX_h, ↓bndK_h, bxh_inl, bxh_inr, bkh_inl, bkh_inr, Nat.reduceEqDiff, ↓bnd_h, ↓lt_h, ↓ite_h, bh_some, lh_eq, ih_T, ih_F, ne_eq, not_false_eq_true, not_true_eq_false, eq_self, and_true, true_and, io_def, io_add, io_mul, io_sub, io_lt, io_le, io_eq, io_clamp, io_inbT, io_div, io_mod, io_m1, m1_io, m1_lt, m1_le, neg_1, gI_m1, K0_1, K0_72, K0_111, io_inbT, Nat.reduceAdd, lg_self, m_thrown, zL_law_B2480, zL_fewest, e1, e2, hc]
    · subst he
      exact absurd hE (show ¬ (1 ≤ 0) from by decide)
theorem case_guess (h : ∀ a1 a2 a3 a4, OpR 0 (zX11_guess 1 a1 a2 a3 a4) (zX12_guess 72 a1 a2 a3 a4)) : StepOK Inv zL_law_B2153 := by
  intro L xs KK i M ⟨R, V, hV, hIp, hIs, hM⟩ h6 hL
  obtain ⟨R', V', r, hV', hE, ⟨x, M1, e1, hx, hIp1, hIs1, hF1⟩, hG⟩ := h (xs (6 * i + 1)) (xs (6 * i + 2)) (xs (6 * i + 3)) (xs (6 * i + 4)) M R V hV hIp hIs
  subst hx
  unfold zL_law_B2153 zL_law_B2243 zL_law_B2249
  cases x with
  | inl x =>
    by_cases hx0 : x = io 0
    · obtain ⟨y, N1, e2, ⟨hc, hy⟩, hIM1, hF2⟩ := hG (sL M1 111 0 (lo 0)) (hM.side hF1).out
      subst hy
      refine ⟨N1, Inv.of (M := sL M1 111 0 (lo 0)) hV' hIp1 hIs1 hIM1 hF2, ?_⟩
      have e3 : mL N1 111 0 = lo 0 := (hF2.L rfl (by omega)).trans (by rw [mL_sL, if_pos ⟨rfl, rfl⟩])
      simp -dsimp (disch := first | assumption | omega) only [lit_0, lit_1, lit_2, lit_3, lit_4, lit_5, lit_6, lit_7, lit_8, lit_9, lit_10, lit_11, lit_12, lit_13, lit_14, lit_15, lit_16, lit_17, lit_18, lit_19, lit_20, lit_21, lit_22, lit_23, lit_24, lit_25, lit_26, lit_27, lit_28, lit_29, lit_30, lit_31, lit_32, lit_33, lit_34, lit_35, lit_36, lit_37, lit_38, lit_39, lit_40, lit_41, lit_42, lit_43, lit_44, lit_45, lit_46, lit_47, lit_48, lit_49, lit_50, lit_51, lit_52, lit_53, lit_54, lit_55, lit_56, lit_57, lit_58, lit_59, lit_60, lit_61, lit_62, lit_63, lit_64, lit_97, lit_99, lit_100, lit_122, lit_175, lit_176, lit_200, lit_255, lit_400, lit_700, lit_800, lit_999, lit_1000, lit_1400, lit_2000, lit_2033, lit_2038, lit_2100, lit_2124, lit_8000, lit_10000, lit_12345, lit_32767, lit_1000000, lit_1000000000, ↓bndX_h, ↓bndK_h, bxh_inl, bxh_inr, bkh_inl, bkh_inr, Nat.reduceEqDiff, ↓bnd_h, ↓lt_h, ↓ite_h, bh_some, lh_eq, ih_T, ih_F, ne_eq, not_false_eq_true, not_true_eq_false, eq_self, and_true, true_and, io_def, io_add, io_mul, io_sub, io_lt, io_le, io_eq, io_clamp, io_inbT, io_div, io_mod, io_m1, m1_io, m1_lt, m1_le, neg_1, gI_m1, K0_1, K0_72, K0_111, io_inbT, Nat.reduceAdd, lg_self, m_thrown, zL_law_B2480, lit64_0, lit64_1, zL_guess, e1, e2, e3, hc, hx0]
    · obtain ⟨y, N1, e2, ⟨hc, hy⟩, hIM1, hF2⟩ := hG (sL M1 111 0 (lo 1)) (hM.side hF1).out
      subst hy
      refine ⟨N1, Inv.of (M := sL M1 111 0 (lo 1)) hV' hIp1 hIs1 hIM1 hF2, ?_⟩
      have e3 : mL N1 111 0 = lo 1 := (hF2.L rfl (by omega)).trans (by rw [mL_sL, if_pos ⟨rfl, rfl⟩])
      simp -dsimp (disch := first | assumption | omega) only [lit_0, lit_1, lit_2, lit_3, lit_4, lit_5, lit_6, lit_7, lit_8, lit_9, lit_10, lit_11, lit_12, lit_13, lit_14, lit_15, lit_16, lit_17, lit_18, lit_19, lit_20, lit_21, lit_22, lit_23, lit_24, lit_25, lit_26, lit_27, lit_28, lit_29, lit_30, lit_31, lit_32, lit_33, lit_34, lit_35, lit_36, lit_37, lit_38, lit_39, lit_40, lit_41, lit_42, lit_43, lit_44, lit_45, lit_46, lit_47, lit_48, lit_49, lit_50, lit_51, lit_52, lit_53, lit_54, lit_55, lit_56, lit_57, lit_58, lit_59, lit_60, lit_61, lit_62, lit_63, lit_64, lit_97, lit_99, lit_100, lit_122, lit_175, lit_176, lit_200, lit_255, lit_400, lit_700, lit_800, lit_999, lit_1000, lit_1400, lit_2000, lit_2033, lit_2038, lit_2100, lit_2124, lit_8000, lit_10000, lit_12345, lit_32767, lit_1000000, lit_1000000000, ↓bndX_h, ↓bndK_h, bxh_inl, bxh_inr, bkh_inl, bkh_inr, Nat.reduceEqDiff, ↓bnd_h, ↓lt_h, ↓ite_h, bh_some, lh_eq, ih_T, ih_F, ne_eq, not_false_eq_true, not_true_eq_false, eq_self, and_true, true_and, io_def, io_add, io_mul, io_sub, io_lt, io_le, io_eq, io_clamp, io_inbT, io_div, io_mod, io_m1, m1_io, m1_lt, m1_le, neg_1, gI_m1, K0_1, K0_72, K0_111, io_inbT, Nat.reduceAdd, lg_self, m_thrown, zL_law_B2480, lit64_0, lit64_1, zL_guess, e1, e2, e3, hc, hx0]
  | inr e =>
    obtain ⟨y, N1, e2, hc, hIM1, hF2⟩ := hG M1 (hM.side hF1)
    refine ⟨N1, Inv.of hV' hIp1 hIs1 hIM1 hF2, ?_⟩
    rcases hc with ⟨he, hc⟩ | ⟨he, hc⟩
    · subst he
      simp -dsimp (disch := first | assumption | omega) only [lit_0, lit_1, lit_2, lit_3, lit_4, lit_5, lit_6, lit_7, lit_8, lit_9, lit_10, lit_11, lit_12, lit_13, lit_14, lit_15, lit_16, lit_17, lit_18, lit_19, lit_20, lit_21, lit_22, lit_23, lit_24, lit_25, lit_26, lit_27, lit_28, lit_29, lit_30, lit_31, lit_32, lit_33, lit_34, lit_35, lit_36, lit_37, lit_38, lit_39, lit_40, lit_41, lit_42, lit_43, lit_44, lit_45, lit_46, lit_47, lit_48, lit_49, lit_50, lit_51, lit_52, lit_53, lit_54, lit_55, lit_56, lit_57, lit_58, lit_59, lit_60, lit_61, lit_62, lit_63, lit_64, lit_97, lit_99, lit_100, lit_122, lit_175, lit_176, lit_200, lit_255, lit_400, lit_700, lit_800, lit_999, lit_1000, lit_1400, lit_2000, lit_2033, lit_2038, lit_2100, lit_2124, lit_8000, lit_10000, lit_12345, lit_32767, lit_1000000, lit_1000000000, ↓bndX_h, ↓bndK_h, bxh_inl, bxh_inr, bkh_inl, bkh_inr, Nat.reduceEqDiff, ↓bnd_h, ↓lt_h, ↓ite_h, bh_some, lh_eq, ih_T, ih_F, ne_eq, not_false_eq_true, not_true_eq_false, eq_self, and_true, true_and, io_def, io_add, io_mul, io_sub, io_lt, io_le, io_eq, io_clamp, io_inbT, io_div, io_mod, io_m1, m1_io, m1_lt, m1_le, neg_1, gI_m1, K0_1, K0_72, K0_111, io_inbT, Nat.reduceAdd, lg_self, m_thrown, zL_law_B2480, zL_guess, e1, e2, hc]
    · subst he
      exact absurd hE (show ¬ (1 ≤ 0) from by decide)
theorem case_credit (h : ∀ a1 a2, OpR 0 (zX11_credit 1 a1 a2) (zX12_credit 72 a1 a2)) : StepOK Inv zL_law_B2252 := by
  intro L xs KK i M ⟨R, V, hV, hIp, hIs, hM⟩ h6 hL
  obtain ⟨R', V', r, hV', hE, ⟨x, M1, e1, hx, hIp1, hIs1, hF1⟩, hG⟩ := h (xs (6 * i + 1)) (xs (6 * i + 2)) M R V hV hIp hIs
  subst hx
  unfold zL_law_B2252 zL_law_B2317
  cases x with
  | inl x =>
    obtain ⟨y, N1, e2, ⟨hc, hy⟩, hIM1, hF2⟩ := hG (sL M1 111 0 x.toInt64) (hM.side hF1).out
    subst hy
    refine ⟨N1, Inv.of (M := sL M1 111 0 y.toInt64) hV' hIp1 hIs1 hIM1 hF2, ?_⟩
    have e3 : mL N1 111 0 = y.toInt64 := (hF2.L rfl (by omega)).trans (by rw [mL_sL, if_pos ⟨rfl, rfl⟩])
    simp -dsimp (disch := first | assumption | omega) only [lit_0, lit_1, lit_2, lit_3, lit_4, lit_5, lit_6, lit_7, lit_8, lit_9, lit_10, lit_11, lit_12, lit_13, lit_14, lit_15, lit_16, lit_17, lit_18, lit_19, lit_20, lit_21, lit_22, lit_23, lit_24, lit_25, lit_26, lit_27, lit_28, lit_29, lit_30, lit_31, lit_32, lit_33, lit_34, lit_35, lit_36, lit_37, lit_38, lit_39, lit_40, lit_41, lit_42, lit_43, lit_44, lit_45, lit_46, lit_47, lit_48, lit_49, lit_50, lit_51, lit_52, lit_53, lit_54, lit_55, lit_56, lit_57, lit_58, lit_59, lit_60, lit_61, lit_62, lit_63, lit_64, lit_97, lit_99, lit_100, lit_122, lit_175, lit_176, lit_200, lit_255, lit_400, lit_700, lit_800, lit_999, lit_1000, lit_1400, lit_2000, lit_2033, lit_2038, lit_2100, lit_2124, lit_8000, lit_10000, lit_12345, lit_32767, lit_1000000, lit_1000000000, ↓bndX_h, ↓bndK_h, bxh_inl, bxh_inr, bkh_inl, bkh_inr, Nat.reduceEqDiff, ↓bnd_h, ↓lt_h, ↓ite_h, bh_some, lh_eq, ih_T, ih_F, ne_eq, not_false_eq_true, not_true_eq_false, eq_self, and_true, true_and, io_def, io_add, io_mul, io_sub, io_lt, io_le, io_eq, io_clamp, io_inbT, io_div, io_mod, io_m1, m1_io, m1_lt, m1_le, neg_1, gI_m1, K0_1, K0_72, K0_111, io_inbT, Nat.reduceAdd, lg_self, m_thrown, zL_law_B2480, zL_credit, e1, e2, e3, hc]
  | inr e =>
    obtain ⟨y, N1, e2, hc, hIM1, hF2⟩ := hG M1 (hM.side hF1)
    refine ⟨N1, Inv.of hV' hIp1 hIs1 hIM1 hF2, ?_⟩
    rcases hc with ⟨he, hc⟩ | ⟨he, hc⟩
    · subst he
      simp -dsimp (disch := first | assumption | omega) only [lit_0, lit_1, lit_2, lit_3, lit_4, lit_5, lit_6, lit_7, lit_8, lit_9, lit_10, lit_11, lit_12, lit_13, lit_14, lit_15, lit_16, lit_17, lit_18, lit_19, lit_20, lit_21, lit_22, lit_23, lit_24, lit_25, lit_26, lit_27, lit_28, lit_29, lit_30, lit_31, lit_32, lit_33, lit_34, lit_35, lit_36, lit_37, lit_38, lit_39, lit_40, lit_41, lit_42, lit_43, lit_44, lit_45, lit_46, lit_47, lit_48, lit_49, lit_50, lit_51, lit_52, lit_53, lit_54, lit_55, lit_56, lit_57, lit_58, lit_59, lit_60, lit_61, lit_62, lit_63, lit_64, lit_97, lit_99, lit_100, lit_122, lit_175, lit_176, lit_200, lit_255, lit_400, lit_700, lit_800, lit_999, lit_1000, lit_1400, lit_2000, lit_2033, lit_2038, lit_2100, lit_2124, lit_8000, lit_10000, lit_12345, lit_32767, lit_1000000, lit_1000000000, ↓bndX_h, ↓bndK_h, bxh_inl, bxh_inr, bkh_inl, bkh_inr, Nat.reduceEqDiff, ↓bnd_h, ↓lt_h, ↓ite_h, bh_some, lh_eq, ih_T, ih_F, ne_eq, not_false_eq_true, not_true_eq_false, eq_self, and_true, true_and, io_def, io_add, io_mul, io_sub, io_lt, io_le, io_eq, io_clamp, io_inbT, io_div, io_mod, io_m1, m1_io, m1_lt, m1_le, neg_1, gI_m1, K0_1, K0_72, K0_111, io_inbT, Nat.reduceAdd, lg_self, m_thrown, zL_law_B2480, zL_credit, e1, e2, hc]
    · subst he
      exact absurd hE (show ¬ (1 ≤ 0) from by decide)
theorem case_drawn (h : ∀ a1 a2 a3, OpR 1 (zX11_drawn 1 a1 a2 a3) (zX12_drawn 72 a1 a2 a3)) : StepOK Inv zL_law_B2320 := by
  intro L xs KK i M ⟨R, V, hV, hIp, hIs, hM⟩ h6 hL
  obtain ⟨R', V', r, hV', hE, ⟨x, M1, e1, hx, hIp1, hIs1, hF1⟩, hG⟩ := h (xs (6 * i + 1)) (xs (6 * i + 2)) (xs (6 * i + 3)) M R V hV hIp hIs
  subst hx
  unfold zL_law_B2320 zL_law_B2397
  cases x with
  | inl x =>
    obtain ⟨y, N1, e2, ⟨hc, hy⟩, hIM1, hF2⟩ := hG (sL M1 111 0 x.toInt64) (hM.side hF1).out
    subst hy
    refine ⟨N1, Inv.of (M := sL M1 111 0 y.toInt64) hV' hIp1 hIs1 hIM1 hF2, ?_⟩
    have e3 : mL N1 111 0 = y.toInt64 := (hF2.L rfl (by omega)).trans (by rw [mL_sL, if_pos ⟨rfl, rfl⟩])
    simp -dsimp (disch := first | assumption | omega) only [lit_0, lit_1, lit_2, lit_3, lit_4, lit_5, lit_6, lit_7, lit_8, lit_9, lit_10, lit_11, lit_12, lit_13, lit_14, lit_15, lit_16, lit_17, lit_18, lit_19, lit_20, lit_21, lit_22, lit_23, lit_24, lit_25, lit_26, lit_27, lit_28, lit_29, lit_30, lit_31, lit_32, lit_33, lit_34, lit_35, lit_36, lit_37, lit_38, lit_39, lit_40, lit_41, lit_42, lit_43, lit_44, lit_45, lit_46, lit_47, lit_48, lit_49, lit_50, lit_51, lit_52, lit_53, lit_54, lit_55, lit_56, lit_57, lit_58, lit_59, lit_60, lit_61, lit_62, lit_63, lit_64, lit_97, lit_99, lit_100, lit_122, lit_175, lit_176, lit_200, lit_255, lit_400, lit_700, lit_800, lit_999, lit_1000, lit_1400, lit_2000, lit_2033, lit_2038, lit_2100, lit_2124, lit_8000, lit_10000, lit_12345, lit_32767, lit_1000000, lit_1000000000, ↓bndX_h, ↓bndK_h, bxh_inl, bxh_inr, bkh_inl, bkh_inr, Nat.reduceEqDiff, ↓bnd_h, ↓lt_h, ↓ite_h, bh_some, lh_eq, ih_T, ih_F, ne_eq, not_false_eq_true, not_true_eq_false, eq_self, and_true, true_and, io_def, io_add, io_mul, io_sub, io_lt, io_le, io_eq, io_clamp, io_inbT, io_div, io_mod, io_m1, m1_io, m1_lt, m1_le, neg_1, gI_m1, K0_1, K0_72, K0_111, io_inbT, Nat.reduceAdd, lg_self, m_thrown, zL_law_B2480, zL_drawn, e1, e2, e3, hc]
  | inr e =>
    obtain ⟨y, N1, e2, hc, hIM1, hF2⟩ := hG M1 (hM.side hF1)
    refine ⟨N1, Inv.of hV' hIp1 hIs1 hIM1 hF2, ?_⟩
    rcases hc with ⟨he, hc⟩ | ⟨he, hc⟩
    · subst he
      simp -dsimp (disch := first | assumption | omega) only [lit_0, lit_1, lit_2, lit_3, lit_4, lit_5, lit_6, lit_7, lit_8, lit_9, lit_10, lit_11, lit_12, lit_13, lit_14, lit_15, lit_16, lit_17, lit_18, lit_19, lit_20, lit_21, lit_22, lit_23, lit_24, lit_25, lit_26, lit_27, lit_28, lit_29, lit_30, lit_31, lit_32, lit_33, lit_34, lit_35, lit_36, lit_37, lit_38, lit_39, lit_40, lit_41, lit_42, lit_43, lit_44, lit_45, lit_46, lit_47, lit_48, lit_49, lit_50, lit_51, lit_52, lit_53, lit_54, lit_55, lit_56, lit_57, lit_58, lit_59, lit_60, lit_61, lit_62, lit_63, lit_64, lit_97, lit_99, lit_100, lit_122, lit_175, lit_176, lit_200, lit_255, lit_400, lit_700, lit_800, lit_999, lit_1000, lit_1400, lit_2000, lit_2033, lit_2038, lit_2100, lit_2124, lit_8000, lit_10000, lit_12345, lit_32767, lit_1000000, lit_1000000000, ↓bndX_h, ↓bndK_h, bxh_inl, bxh_inr, bkh_inl, bkh_inr, Nat.reduceEqDiff, ↓bnd_h, ↓lt_h, ↓ite_h, bh_some, lh_eq, ih_T, ih_F, ne_eq, not_false_eq_true, not_true_eq_false, eq_self, and_true, true_and, io_def, io_add, io_mul, io_sub, io_lt, io_le, io_eq, io_clamp, io_inbT, io_div, io_mod, io_m1, m1_io, m1_lt, m1_le, neg_1, gI_m1, K0_1, K0_72, K0_111, io_inbT, Nat.reduceAdd, lg_self, m_thrown, zL_law_B2480, zL_drawn, e1, e2, hc]
    · subst he
      simp -dsimp (disch := first | assumption | omega) only [lit_0, lit_1, lit_2, lit_3, lit_4, lit_5, lit_6, lit_7, lit_8, lit_9, lit_10, lit_11, lit_12, lit_13, lit_14, lit_15, lit_16, lit_17, lit_18, lit_19, lit_20, lit_21, lit_22, lit_23, lit_24, lit_25, lit_26, lit_27, lit_28, lit_29, lit_30, lit_31, lit_32, lit_33, lit_34, lit_35, lit_36, lit_37, lit_38, lit_39, lit_40, lit_41, lit_42, lit_43, lit_44, lit_45, lit_46, lit_47, lit_48, lit_49, lit_50, lit_51, lit_52, lit_53, lit_54, lit_55, lit_56, lit_57, lit_58, lit_59, lit_60, lit_61, lit_62, lit_63, lit_64, lit_97, lit_99, lit_100, lit_122, lit_175, lit_176, lit_200, lit_255, lit_400, lit_700, lit_800, lit_999, lit_1000, lit_1400, lit_2000, lit_2033, lit_2038, lit_2100, lit_2124, lit_8000, lit_10000, lit_12345, lit_32767, lit_1000000, lit_1000000000, ↓bndX_h, ↓bndK_h, bxh_inl, bxh_inr, bkh_inl, bkh_inr, Nat.reduceEqDiff, ↓bnd_h, ↓lt_h, ↓ite_h, bh_some, lh_eq, ih_T, ih_F, ne_eq, not_false_eq_true, not_true_eq_false, eq_self, and_true, true_and, io_def, io_add, io_mul, io_sub, io_lt, io_le, io_eq, io_clamp, io_inbT, io_div, io_mod, io_m1, m1_io, m1_lt, m1_le, neg_1, gI_m1, K0_1, K0_72, K0_111, io_inbT, Nat.reduceAdd, lg_self, m_thrown, zL_law_B2480, zL_drawn, e1, e2, hc]
theorem case_empty (h : ∀ a1, OpR 0 (zX11_empty 1 a1) (zX12_empty 72 a1)) : StepOK Inv zL_law_B2400 := by
  intro L xs KK i M ⟨R, V, hV, hIp, hIs, hM⟩ h6 hL
  obtain ⟨R', V', r, hV', hE, ⟨x, M1, e1, hx, hIp1, hIs1, hF1⟩, hG⟩ := h (xs (6 * i + 1)) M R V hV hIp hIs
  subst hx
  unfold zL_law_B2400 zL_law_B2453
  cases x with
  | inl x =>
    obtain ⟨y, N1, e2, ⟨hc, hy⟩, hIM1, hF2⟩ := hG (sL M1 111 0 x.toInt64) (hM.side hF1).out
    subst hy
    refine ⟨N1, Inv.of (M := sL M1 111 0 y.toInt64) hV' hIp1 hIs1 hIM1 hF2, ?_⟩
    have e3 : mL N1 111 0 = y.toInt64 := (hF2.L rfl (by omega)).trans (by rw [mL_sL, if_pos ⟨rfl, rfl⟩])
    simp -dsimp (disch := first | assumption | omega) only [lit_0, lit_1, lit_2, lit_3, lit_4, lit_5, lit_6, lit_7, lit_8, lit_9, lit_10, lit_11, lit_12, lit_13, lit_14, lit_15, lit_16, lit_17, lit_18, lit_19, lit_20, lit_21, lit_22, lit_23, lit_24, lit_25, lit_26, lit_27, lit_28, lit_29, lit_30, lit_31, lit_32, lit_33, lit_34, lit_35, lit_36, lit_37, lit_38, lit_39, lit_40, lit_41, lit_42, lit_43, lit_44, lit_45, lit_46, lit_47, lit_48, lit_49, lit_50, lit_51, lit_52, lit_53, lit_54, lit_55, lit_56, lit_57, lit_58, lit_59, lit_60, lit_61, lit_62, lit_63, lit_64, lit_97, lit_99, lit_100, lit_122, lit_175, lit_176, lit_200, lit_255, lit_400, lit_700, lit_800, lit_999, lit_1000, lit_1400, lit_2000, lit_2033, lit_2038, lit_2100, lit_2124, lit_8000, lit_10000, lit_12345, lit_32767, lit_1000000, lit_1000000000, ↓bndX_h, ↓bndK_h, bxh_inl, bxh_inr, bkh_inl, bkh_inr, Nat.reduceEqDiff, ↓bnd_h, ↓lt_h, ↓ite_h, bh_some, lh_eq, ih_T, ih_F, ne_eq, not_false_eq_true, not_true_eq_false, eq_self, and_true, true_and, io_def, io_add, io_mul, io_sub, io_lt, io_le, io_eq, io_clamp, io_inbT, io_div, io_mod, io_m1, m1_io, m1_lt, m1_le, neg_1, gI_m1, K0_1, K0_72, K0_111, io_inbT, Nat.reduceAdd, lg_self, m_thrown, zL_law_B2480, zL_empty, e1, e2, e3, hc]
  | inr e =>
    obtain ⟨y, N1, e2, hc, hIM1, hF2⟩ := hG M1 (hM.side hF1)
    refine ⟨N1, Inv.of hV' hIp1 hIs1 hIM1 hF2, ?_⟩
    rcases hc with ⟨he, hc⟩ | ⟨he, hc⟩
    · subst he
      simp -dsimp (disch := first | assumption | omega) only [lit_0, lit_1, lit_2, lit_3, lit_4, lit_5, lit_6, lit_7, lit_8, lit_9, lit_10, lit_11, lit_12, lit_13, lit_14, lit_15, lit_16, lit_17, lit_18, lit_19, lit_20, lit_21, lit_22, lit_23, lit_24, lit_25, lit_26, lit_27, lit_28, lit_29, lit_30, lit_31, lit_32, lit_33, lit_34, lit_35, lit_36, lit_37, lit_38, lit_39, lit_40, lit_41, lit_42, lit_43, lit_44, lit_45, lit_46, lit_47, lit_48, lit_49, lit_50, lit_51, lit_52, lit_53, lit_54, lit_55, lit_56, lit_57, lit_58, lit_59, lit_60, lit_61, lit_62, lit_63, lit_64, lit_97, lit_99, lit_100, lit_122, lit_175, lit_176, lit_200, lit_255, lit_400, lit_700, lit_800, lit_999, lit_1000, lit_1400, lit_2000, lit_2033, lit_2038, lit_2100, lit_2124, lit_8000, lit_10000, lit_12345, lit_32767, lit_1000000, lit_1000000000, ↓bndX_h, ↓bndK_h, bxh_inl, bxh_inr, bkh_inl, bkh_inr, Nat.reduceEqDiff, ↓bnd_h, ↓lt_h, ↓ite_h, bh_some, lh_eq, ih_T, ih_F, ne_eq, not_false_eq_true, not_true_eq_false, eq_self, and_true, true_and, io_def, io_add, io_mul, io_sub, io_lt, io_le, io_eq, io_clamp, io_inbT, io_div, io_mod, io_m1, m1_io, m1_lt, m1_le, neg_1, gI_m1, K0_1, K0_72, K0_111, io_inbT, Nat.reduceAdd, lg_self, m_thrown, zL_law_B2480, zL_empty, e1, e2, hc]
    · subst he
      exact absurd hE (show ¬ (1 ≤ 0) from by decide)
theorem case_image (h : OpI (zX11_image 1) (zX12_image 72)) : StepOK Inv zL_law_B2456 := by
  intro L xs KK i M ⟨R, V, hV, hIp, hIs, hM⟩ h6 hL
  obtain ⟨R', V', r, hV', ⟨x, M1, e1, hx, hIp1, hIs1, hF1⟩, hG⟩ := h  M R V hV hIp hIs
  obtain ⟨y, N1, e2, hy, hIM1, hF2⟩ := hG M1 (hM.side hF1)
  refine ⟨N1, Inv.of hV' hIp1 hIs1 hIM1 hF2, ?_⟩
  subst hx hy
  unfold zL_law_B2456
  simp -dsimp (disch := first | assumption | omega) only [lit_0, lit_1, lit_2, lit_3, lit_4, lit_5, lit_6, lit_7, lit_8, lit_9, lit_10, lit_11, lit_12, lit_13, lit_14, lit_15, lit_16, lit_17, lit_18, lit_19, lit_20, lit_21, lit_22, lit_23, lit_24, lit_25, lit_26, lit_27, lit_28, lit_29, lit_30, lit_31, lit_32, lit_33, lit_34, lit_35, lit_36, lit_37, lit_38, lit_39, lit_40, lit_41, lit_42, lit_43, lit_44, lit_45, lit_46, lit_47, lit_48, lit_49, lit_50, lit_51, lit_52, lit_53, lit_54, lit_55, lit_56, lit_57, lit_58, lit_59, lit_60, lit_61, lit_62, lit_63, lit_64, lit_97, lit_99, lit_100, lit_122, lit_175, lit_176, lit_200, lit_255, lit_400, lit_700, lit_800, lit_999, lit_1000, lit_1400, lit_2000, lit_2033, lit_2038, lit_2100, lit_2124, lit_8000, lit_10000, lit_12345, lit_32767, lit_1000000, lit_1000000000, ↓bndX_h, ↓bndK_h, bxh_inl, bxh_inr, bkh_inl, bkh_inr, Nat.reduceEqDiff, ↓bnd_h, ↓lt_h, ↓ite_h, bh_some, lh_eq, ih_T, ih_F, ne_eq, not_false_eq_true, not_true_eq_false, eq_self, and_true, true_and, io_def, io_add, io_mul, io_sub, io_lt, io_le, io_eq, io_clamp, io_inbT, io_div, io_mod, io_m1, m1_io, m1_lt, m1_le, neg_1, gI_m1, K0_1, K0_72, K0_111, io_inbT, Nat.reduceAdd, lg_self, m_thrown, zL_law_B2480, e1, e2]
theorem case_restore (h : OpI (zX11_restore 1) (zX12_restore 72)) : StepOK Inv zL_law_B2467 := by
  intro L xs KK i M ⟨R, V, hV, hIp, hIs, hM⟩ h6 hL
  obtain ⟨R', V', r, hV', ⟨x, M1, e1, hx, hIp1, hIs1, hF1⟩, hG⟩ := h  M R V hV hIp hIs
  obtain ⟨y, N1, e2, hy, hIM1, hF2⟩ := hG M1 (hM.side hF1)
  refine ⟨N1, Inv.of hV' hIp1 hIs1 hIM1 hF2, ?_⟩
  subst hx hy
  unfold zL_law_B2467
  simp -dsimp (disch := first | assumption | omega) only [lit_0, lit_1, lit_2, lit_3, lit_4, lit_5, lit_6, lit_7, lit_8, lit_9, lit_10, lit_11, lit_12, lit_13, lit_14, lit_15, lit_16, lit_17, lit_18, lit_19, lit_20, lit_21, lit_22, lit_23, lit_24, lit_25, lit_26, lit_27, lit_28, lit_29, lit_30, lit_31, lit_32, lit_33, lit_34, lit_35, lit_36, lit_37, lit_38, lit_39, lit_40, lit_41, lit_42, lit_43, lit_44, lit_45, lit_46, lit_47, lit_48, lit_49, lit_50, lit_51, lit_52, lit_53, lit_54, lit_55, lit_56, lit_57, lit_58, lit_59, lit_60, lit_61, lit_62, lit_63, lit_64, lit_97, lit_99, lit_100, lit_122, lit_175, lit_176, lit_200, lit_255, lit_400, lit_700, lit_800, lit_999, lit_1000, lit_1400, lit_2000, lit_2033, lit_2038, lit_2100, lit_2124, lit_8000, lit_10000, lit_12345, lit_32767, lit_1000000, lit_1000000000, ↓bndX_h, ↓bndK_h, bxh_inl, bxh_inr, bkh_inl, bkh_inr, Nat.reduceEqDiff, ↓bnd_h, ↓lt_h, ↓ite_h, bh_some, lh_eq, ih_T, ih_F, ne_eq, not_false_eq_true, not_true_eq_false, eq_self, and_true, true_and, io_def, io_add, io_mul, io_sub, io_lt, io_le, io_eq, io_clamp, io_inbT, io_div, io_mod, io_m1, m1_io, m1_lt, m1_le, neg_1, gI_m1, K0_1, K0_72, K0_111, io_inbT, Nat.reduceAdd, lg_self, m_thrown, zL_law_B2480, e1, e2]
