/-! ===== LEVEL 2: gate: bodies of clauses ===== -/
def gNu (lo hi idx : Nat) (K : Mem → Option (Int32 × Mem)) (Q : Int32 → Mem → Prop) (N : Mem) : Prop := Wp (zX12_readNumber 72 (io lo) (io hi) N) (fun v M2 => PM M2 ∧ Wp (K (sI M2 76 idx v)) Q)
def gTh (K : Mem → Option (Int32 × Mem)) (Q : Int32 → Mem → Prop) (N : Mem) : Prop := Wp (zX12_readNumber 72 (io 0) (io 100) N) (fun v M2 => PM M2 ∧ Wp (zX12_readNumber 72 (io 1) (io 999) (sI M2 76 19 v)) (fun w M3 => PM M3 ∧ Wp (K (sI M3 76 20 w)) Q))
def Body (P : Nat → Nat) (n r : Nat) (Z : ZV) (F : Mem → Option (Int32 × Mem)) (Gm : (Mem → Option (Int32 × Mem)) → (Int32 → Mem → Prop) → Mem → Prop) : Prop :=
  ∃ o, GdZ P n (zX Z) o ∧ (∀ Z', o = .inr Z' → zT Z' = zT Z) ∧ (∀ M, ZC M P n r Z → Wp (F M) (QC P n r o M)) ∧ ∀ N K Q, ZM N P n Z → (∀ N', QM P n o N N' → Wp (K N') Q) → Gm K Q N
theorem okZ_self {P : Nat → Nat} {n : Nat} {Z : ZV} (h : okZ P n Z) : okS (zS Z) ∧ zT Z < 64 ∧ gSi (zV Z) ≤ 2 ∧ gCh (zV Z) ≤ 100 ∧ 1 ≤ gBo (zV Z) ∧ gBo (zV Z) ≤ 999 := ⟨h.2.2.2.2.2.2.1, h.2.2.2.2.2.2.2.1, h.2.2.1, h.2.2.2.1, h.2.2.2.2.1, h.2.2.2.2.2.1⟩
theorem body_sight {P : Nat → Nat} {n r : Nat} {Z : ZV} (hr : isRu r) (hn : n ≤ 700) (hPb : ∀ k, k < n → P k < 256) (hZ : okZ P n Z) : Body P n r Z (zX6_sightClause 2) (gNu 0 2 14) := by
  obtain ⟨e1, e2, e3, e4, e5, e6⟩ := okZ_self hZ
  obtain ⟨o, h1, h2, h3, h4⟩ := body_num (r := r) (lo := 0) (hi := 2) (idx := 14) (oc := r) (kc := 2) (up := fun Y x => (Y, vSi (zV Z) x, zS Z, zT Z)) hr hn hPb hZ (by omega) (by omega) (fun Y x l1 l2 g => hZ.mk g rfl l2 e4 e5 e6 e1 e2 rfl rfl rfl rfl rfl) (fun _ _ => rfl) (fun _ _ => rfl) (by unfold ownC; omega) (by omega) (fun M Y x L h => h.si hr) (fun N Y x h => h.si)
  refine ⟨o, h1, h2, fun M hM => ?_, h4⟩
  have hrn := ru_n0 hr
  unfold zX6_sightClause
  simp -dsimp (disch := first | assumption | omega) only [lit_0, lit_1, lit_2, lit_3, lit_4, lit_5, lit_6, lit_7, lit_8, lit_9, lit_10, lit_11, lit_12, lit_13, lit_14, lit_15, lit_16, lit_17, lit_18, lit_19, lit_20, lit_21, lit_22, lit_23, lit_24, lit_25, lit_26, lit_27, lit_28, lit_29, lit_30, lit_31, lit_32, lit_33, lit_34, lit_35, lit_36, lit_37, lit_38, lit_39, lit_40, lit_41, lit_42, lit_43, lit_44, lit_45, lit_46, lit_47, lit_48, lit_49, lit_50, lit_51, lit_52, lit_53, lit_54, lit_55, lit_56, lit_57, lit_58, lit_59, lit_60, lit_61, lit_62, lit_63, lit_64, lit_97, lit_99, lit_100, lit_122, lit_175, lit_176, lit_200, lit_255, lit_400, lit_700, lit_800, lit_999, lit_1000, lit_1400, lit_2000, lit_2033, lit_2038, lit_2100, lit_2124, lit_8000, lit_10000, lit_12345, lit_32767, lit_1000000, lit_1000000000, ↓bndX_h, ↓bndK_h, bxh_inl, bxh_inr, bkh_inl, bkh_inr, Nat.reduceEqDiff, ↓bnd_h, ↓lt_h, ↓ite_h, bh_some, lh_eq, ih_T, ih_F, ne_eq, not_false_eq_true, not_true_eq_false, eq_self, and_true, true_and, io_def, K0_2]
  refine Wp.seqh (h3 M hM) (fun v M2 ⟨i1, i2, i3, i4, i5⟩ => ?_)
  simp -dsimp (disch := first | assumption | omega) only [lit_0, lit_1, lit_2, lit_3, lit_4, lit_5, lit_6, lit_7, lit_8, lit_9, lit_10, lit_11, lit_12, lit_13, lit_14, lit_15, lit_16, lit_17, lit_18, lit_19, lit_20, lit_21, lit_22, lit_23, lit_24, lit_25, lit_26, lit_27, lit_28, lit_29, lit_30, lit_31, lit_32, lit_33, lit_34, lit_35, lit_36, lit_37, lit_38, lit_39, lit_40, lit_41, lit_42, lit_43, lit_44, lit_45, lit_46, lit_47, lit_48, lit_49, lit_50, lit_51, lit_52, lit_53, lit_54, lit_55, lit_56, lit_57, lit_58, lit_59, lit_60, lit_61, lit_62, lit_63, lit_64, lit_97, lit_99, lit_100, lit_122, lit_175, lit_176, lit_200, lit_255, lit_400, lit_700, lit_800, lit_999, lit_1000, lit_1400, lit_2000, lit_2033, lit_2038, lit_2100, lit_2124, lit_8000, lit_10000, lit_12345, lit_32767, lit_1000000, lit_1000000000, ↓bndX_h, ↓bndK_h, bxh_inl, bxh_inr, bkh_inl, bkh_inr, Nat.reduceEqDiff, ↓bnd_h, ↓lt_h, ↓ite_h, bh_some, lh_eq, ih_T, ih_F, ne_eq, not_false_eq_true, not_true_eq_false, eq_self, and_true, true_and, io_def, io_add, io_mul, io_sub, io_lt, io_le, io_eq, io_clamp, io_inbT, io_div, io_mod, io_m1, m1_io, m1_lt, m1_le, neg_1, gI_m1, i2, hrn, K0_r hr]
  rcases i1 with rfl | rfl
  · simp -dsimp (disch := first | assumption | omega) only [lit_0, lit_1, lit_2, lit_3, lit_4, lit_5, lit_6, lit_7, lit_8, lit_9, lit_10, lit_11, lit_12, lit_13, lit_14, lit_15, lit_16, lit_17, lit_18, lit_19, lit_20, lit_21, lit_22, lit_23, lit_24, lit_25, lit_26, lit_27, lit_28, lit_29, lit_30, lit_31, lit_32, lit_33, lit_34, lit_35, lit_36, lit_37, lit_38, lit_39, lit_40, lit_41, lit_42, lit_43, lit_44, lit_45, lit_46, lit_47, lit_48, lit_49, lit_50, lit_51, lit_52, lit_53, lit_54, lit_55, lit_56, lit_57, lit_58, lit_59, lit_60, lit_61, lit_62, lit_63, lit_64, lit_97, lit_99, lit_100, lit_122, lit_175, lit_176, lit_200, lit_255, lit_400, lit_700, lit_800, lit_999, lit_1000, lit_1400, lit_2000, lit_2033, lit_2038, lit_2100, lit_2124, lit_8000, lit_10000, lit_12345, lit_32767, lit_1000000, lit_1000000000, ↓bndX_h, ↓bndK_h, bxh_inl, bxh_inr, bkh_inl, bkh_inr, Nat.reduceEqDiff, ↓bnd_h, ↓lt_h, ↓ite_h, bh_some, lh_eq, ih_T, ih_F, ne_eq, not_false_eq_true, not_true_eq_false, eq_self, and_true, true_and, io_def, io_add, io_mul, io_sub, io_lt, io_le, io_eq, io_clamp, io_inbT, io_div, io_mod, io_m1, m1_io, m1_lt, m1_le, neg_1, gI_m1, true_or]
    exact Wp.ret i4
  · simp -dsimp (disch := first | assumption | omega) only [lit_0, lit_1, lit_2, lit_3, lit_4, lit_5, lit_6, lit_7, lit_8, lit_9, lit_10, lit_11, lit_12, lit_13, lit_14, lit_15, lit_16, lit_17, lit_18, lit_19, lit_20, lit_21, lit_22, lit_23, lit_24, lit_25, lit_26, lit_27, lit_28, lit_29, lit_30, lit_31, lit_32, lit_33, lit_34, lit_35, lit_36, lit_37, lit_38, lit_39, lit_40, lit_41, lit_42, lit_43, lit_44, lit_45, lit_46, lit_47, lit_48, lit_49, lit_50, lit_51, lit_52, lit_53, lit_54, lit_55, lit_56, lit_57, lit_58, lit_59, lit_60, lit_61, lit_62, lit_63, lit_64, lit_97, lit_99, lit_100, lit_122, lit_175, lit_176, lit_200, lit_255, lit_400, lit_700, lit_800, lit_999, lit_1000, lit_1400, lit_2000, lit_2033, lit_2038, lit_2100, lit_2124, lit_8000, lit_10000, lit_12345, lit_32767, lit_1000000, lit_1000000000, ↓bndX_h, ↓bndK_h, bxh_inl, bxh_inr, bkh_inl, bkh_inr, Nat.reduceEqDiff, ↓bnd_h, ↓lt_h, ↓ite_h, bh_some, lh_eq, ih_T, ih_F, ne_eq, not_false_eq_true, not_true_eq_false, eq_self, and_true, true_and, io_def, io_add, io_mul, io_sub, io_lt, io_le, io_eq, io_clamp, io_inbT, io_div, io_mod, io_m1, m1_io, m1_lt, m1_le, neg_1, gI_m1, or_true]
    exact Wp.ret i4
theorem body_card {P : Nat → Nat} {n r : Nat} {Z : ZV} (hr : isRu r) (hn : n ≤ 700) (hPb : ∀ k, k < n → P k < 256) (hZ : okZ P n Z) : Body P n r Z (zX6_cardClause 2) (gNu 0 9 15) := by
  obtain ⟨e1, e2, e3, e4, e5, e6⟩ := okZ_self hZ
  obtain ⟨o, h1, h2, h3, h4⟩ := body_num (r := r) (lo := 0) (hi := 9) (idx := 15) (oc := r + 6) (kc := 0) (up := fun Y x => (Y, zV Z, sCd (zS Z) x, zT Z)) hr hn hPb hZ (by omega) (by omega) (fun Y x l1 l2 g => hZ.mk g rfl e3 e4 e5 e6 ⟨by show x + 1 ≤ 10; omega, e1.2⟩ e2 rfl rfl rfl rfl rfl) (fun _ _ => rfl) (fun _ _ => rfl) (by unfold ownC; omega) (by omega) (fun M Y x L h => h.cd hr) (fun N Y x h => h.cd)
  refine ⟨o, h1, h2, fun M hM => ?_, h4⟩
  have hrn := ru_n0 hr
  have hr6 : (r + 6 = 0) = False := eq_false (by omega)
  unfold zX6_cardClause
  simp -dsimp (disch := first | assumption | omega) only [lit_0, lit_1, lit_2, lit_3, lit_4, lit_5, lit_6, lit_7, lit_8, lit_9, lit_10, lit_11, lit_12, lit_13, lit_14, lit_15, lit_16, lit_17, lit_18, lit_19, lit_20, lit_21, lit_22, lit_23, lit_24, lit_25, lit_26, lit_27, lit_28, lit_29, lit_30, lit_31, lit_32, lit_33, lit_34, lit_35, lit_36, lit_37, lit_38, lit_39, lit_40, lit_41, lit_42, lit_43, lit_44, lit_45, lit_46, lit_47, lit_48, lit_49, lit_50, lit_51, lit_52, lit_53, lit_54, lit_55, lit_56, lit_57, lit_58, lit_59, lit_60, lit_61, lit_62, lit_63, lit_64, lit_97, lit_99, lit_100, lit_122, lit_175, lit_176, lit_200, lit_255, lit_400, lit_700, lit_800, lit_999, lit_1000, lit_1400, lit_2000, lit_2033, lit_2038, lit_2100, lit_2124, lit_8000, lit_10000, lit_12345, lit_32767, lit_1000000, lit_1000000000, ↓bndX_h, ↓bndK_h, bxh_inl, bxh_inr, bkh_inl, bkh_inr, Nat.reduceEqDiff, ↓bnd_h, ↓lt_h, ↓ite_h, bh_some, lh_eq, ih_T, ih_F, ne_eq, not_false_eq_true, not_true_eq_false, eq_self, and_true, true_and, io_def, K0_2]
  refine Wp.seqh (h3 M hM) (fun v M2 ⟨i1, i2, i3, i4, i5⟩ => ?_)
  have hPR := i3.PR hr
  simp -dsimp (disch := first | assumption | omega) only [lit_0, lit_1, lit_2, lit_3, lit_4, lit_5, lit_6, lit_7, lit_8, lit_9, lit_10, lit_11, lit_12, lit_13, lit_14, lit_15, lit_16, lit_17, lit_18, lit_19, lit_20, lit_21, lit_22, lit_23, lit_24, lit_25, lit_26, lit_27, lit_28, lit_29, lit_30, lit_31, lit_32, lit_33, lit_34, lit_35, lit_36, lit_37, lit_38, lit_39, lit_40, lit_41, lit_42, lit_43, lit_44, lit_45, lit_46, lit_47, lit_48, lit_49, lit_50, lit_51, lit_52, lit_53, lit_54, lit_55, lit_56, lit_57, lit_58, lit_59, lit_60, lit_61, lit_62, lit_63, lit_64, lit_97, lit_99, lit_100, lit_122, lit_175, lit_176, lit_200, lit_255, lit_400, lit_700, lit_800, lit_999, lit_1000, lit_1400, lit_2000, lit_2033, lit_2038, lit_2100, lit_2124, lit_8000, lit_10000, lit_12345, lit_32767, lit_1000000, lit_1000000000, ↓bndX_h, ↓bndK_h, bxh_inl, bxh_inr, bkh_inl, bkh_inr, Nat.reduceEqDiff, ↓bnd_h, ↓lt_h, ↓ite_h, bh_some, lh_eq, ih_T, ih_F, ne_eq, not_false_eq_true, not_true_eq_false, eq_self, and_true, true_and, io_def, io_add, io_mul, io_sub, io_lt, io_le, io_eq, io_clamp, io_inbT, io_div, io_mod, io_m1, m1_io, m1_lt, m1_le, neg_1, gI_m1, i2, hrn, K0_r hr, PR.p12, hr6, K0_r6 hr]
  rcases i1 with rfl | rfl
  · simp -dsimp (disch := first | assumption | omega) only [lit_0, lit_1, lit_2, lit_3, lit_4, lit_5, lit_6, lit_7, lit_8, lit_9, lit_10, lit_11, lit_12, lit_13, lit_14, lit_15, lit_16, lit_17, lit_18, lit_19, lit_20, lit_21, lit_22, lit_23, lit_24, lit_25, lit_26, lit_27, lit_28, lit_29, lit_30, lit_31, lit_32, lit_33, lit_34, lit_35, lit_36, lit_37, lit_38, lit_39, lit_40, lit_41, lit_42, lit_43, lit_44, lit_45, lit_46, lit_47, lit_48, lit_49, lit_50, lit_51, lit_52, lit_53, lit_54, lit_55, lit_56, lit_57, lit_58, lit_59, lit_60, lit_61, lit_62, lit_63, lit_64, lit_97, lit_99, lit_100, lit_122, lit_175, lit_176, lit_200, lit_255, lit_400, lit_700, lit_800, lit_999, lit_1000, lit_1400, lit_2000, lit_2033, lit_2038, lit_2100, lit_2124, lit_8000, lit_10000, lit_12345, lit_32767, lit_1000000, lit_1000000000, ↓bndX_h, ↓bndK_h, bxh_inl, bxh_inr, bkh_inl, bkh_inr, Nat.reduceEqDiff, ↓bnd_h, ↓lt_h, ↓ite_h, bh_some, lh_eq, ih_T, ih_F, ne_eq, not_false_eq_true, not_true_eq_false, eq_self, and_true, true_and, io_def, io_add, io_mul, io_sub, io_lt, io_le, io_eq, io_clamp, io_inbT, io_div, io_mod, io_m1, m1_io, m1_lt, m1_le, neg_1, gI_m1, true_or]
    exact Wp.ret i4
  · simp -dsimp (disch := first | assumption | omega) only [lit_0, lit_1, lit_2, lit_3, lit_4, lit_5, lit_6, lit_7, lit_8, lit_9, lit_10, lit_11, lit_12, lit_13, lit_14, lit_15, lit_16, lit_17, lit_18, lit_19, lit_20, lit_21, lit_22, lit_23, lit_24, lit_25, lit_26, lit_27, lit_28, lit_29, lit_30, lit_31, lit_32, lit_33, lit_34, lit_35, lit_36, lit_37, lit_38, lit_39, lit_40, lit_41, lit_42, lit_43, lit_44, lit_45, lit_46, lit_47, lit_48, lit_49, lit_50, lit_51, lit_52, lit_53, lit_54, lit_55, lit_56, lit_57, lit_58, lit_59, lit_60, lit_61, lit_62, lit_63, lit_64, lit_97, lit_99, lit_100, lit_122, lit_175, lit_176, lit_200, lit_255, lit_400, lit_700, lit_800, lit_999, lit_1000, lit_1400, lit_2000, lit_2033, lit_2038, lit_2100, lit_2124, lit_8000, lit_10000, lit_12345, lit_32767, lit_1000000, lit_1000000000, ↓bndX_h, ↓bndK_h, bxh_inl, bxh_inr, bkh_inl, bkh_inr, Nat.reduceEqDiff, ↓bnd_h, ↓lt_h, ↓ite_h, bh_some, lh_eq, ih_T, ih_F, ne_eq, not_false_eq_true, not_true_eq_false, eq_self, and_true, true_and, io_def, io_add, io_mul, io_sub, io_lt, io_le, io_eq, io_clamp, io_inbT, io_div, io_mod, io_m1, m1_io, m1_lt, m1_le, neg_1, gI_m1, or_true]
    exact Wp.ret i4
theorem body_least {P : Nat → Nat} {n r : Nat} {Z : ZV} (hr : isRu r) (hn : n ≤ 700) (hPb : ∀ k, k < n → P k < 256) (hZ : okZ P n Z) : Body P n r Z (zX6_leastClause 2) (gNu 0 9 18) := by
  obtain ⟨e1, e2, e3, e4, e5, e6⟩ := okZ_self hZ
  obtain ⟨o, h1, h2, h3, h4⟩ := body_num (r := r) (lo := 0) (hi := 9) (idx := 18) (oc := r + 6) (kc := 3) (up := fun Y x => (Y, zV Z, sLs (zS Z) x, zT Z)) hr hn hPb hZ (by omega) (by omega) (fun Y x l1 l2 g => hZ.mk g rfl e3 e4 e5 e6 ⟨e1.1, e1.2.1, e1.2.2.1, l2⟩ e2 rfl rfl rfl rfl rfl) (fun _ _ => rfl) (fun _ _ => rfl) (by unfold ownC; omega) (by omega) (fun M Y x L h => h.ls hr) (fun N Y x h => h.ls)
  refine ⟨o, h1, h2, fun M hM => ?_, h4⟩
  have hrn := ru_n0 hr
  have hr6 : (r + 6 = 0) = False := eq_false (by omega)
  unfold zX6_leastClause
  simp -dsimp (disch := first | assumption | omega) only [lit_0, lit_1, lit_2, lit_3, lit_4, lit_5, lit_6, lit_7, lit_8, lit_9, lit_10, lit_11, lit_12, lit_13, lit_14, lit_15, lit_16, lit_17, lit_18, lit_19, lit_20, lit_21, lit_22, lit_23, lit_24, lit_25, lit_26, lit_27, lit_28, lit_29, lit_30, lit_31, lit_32, lit_33, lit_34, lit_35, lit_36, lit_37, lit_38, lit_39, lit_40, lit_41, lit_42, lit_43, lit_44, lit_45, lit_46, lit_47, lit_48, lit_49, lit_50, lit_51, lit_52, lit_53, lit_54, lit_55, lit_56, lit_57, lit_58, lit_59, lit_60, lit_61, lit_62, lit_63, lit_64, lit_97, lit_99, lit_100, lit_122, lit_175, lit_176, lit_200, lit_255, lit_400, lit_700, lit_800, lit_999, lit_1000, lit_1400, lit_2000, lit_2033, lit_2038, lit_2100, lit_2124, lit_8000, lit_10000, lit_12345, lit_32767, lit_1000000, lit_1000000000, ↓bndX_h, ↓bndK_h, bxh_inl, bxh_inr, bkh_inl, bkh_inr, Nat.reduceEqDiff, ↓bnd_h, ↓lt_h, ↓ite_h, bh_some, lh_eq, ih_T, ih_F, ne_eq, not_false_eq_true, not_true_eq_false, eq_self, and_true, true_and, io_def, K0_2]
  refine Wp.seqh (h3 M hM) (fun v M2 ⟨i1, i2, i3, i4, i5⟩ => ?_)
  have hPR := i3.PR hr
  simp -dsimp (disch := first | assumption | omega) only [lit_0, lit_1, lit_2, lit_3, lit_4, lit_5, lit_6, lit_7, lit_8, lit_9, lit_10, lit_11, lit_12, lit_13, lit_14, lit_15, lit_16, lit_17, lit_18, lit_19, lit_20, lit_21, lit_22, lit_23, lit_24, lit_25, lit_26, lit_27, lit_28, lit_29, lit_30, lit_31, lit_32, lit_33, lit_34, lit_35, lit_36, lit_37, lit_38, lit_39, lit_40, lit_41, lit_42, lit_43, lit_44, lit_45, lit_46, lit_47, lit_48, lit_49, lit_50, lit_51, lit_52, lit_53, lit_54, lit_55, lit_56, lit_57, lit_58, lit_59, lit_60, lit_61, lit_62, lit_63, lit_64, lit_97, lit_99, lit_100, lit_122, lit_175, lit_176, lit_200, lit_255, lit_400, lit_700, lit_800, lit_999, lit_1000, lit_1400, lit_2000, lit_2033, lit_2038, lit_2100, lit_2124, lit_8000, lit_10000, lit_12345, lit_32767, lit_1000000, lit_1000000000, ↓bndX_h, ↓bndK_h, bxh_inl, bxh_inr, bkh_inl, bkh_inr, Nat.reduceEqDiff, ↓bnd_h, ↓lt_h, ↓ite_h, bh_some, lh_eq, ih_T, ih_F, ne_eq, not_false_eq_true, not_true_eq_false, eq_self, and_true, true_and, io_def, io_add, io_mul, io_sub, io_lt, io_le, io_eq, io_clamp, io_inbT, io_div, io_mod, io_m1, m1_io, m1_lt, m1_le, neg_1, gI_m1, i2, hrn, K0_r hr, PR.p12, hr6, K0_r6 hr]
  rcases i1 with rfl | rfl
  · simp -dsimp (disch := first | assumption | omega) only [lit_0, lit_1, lit_2, lit_3, lit_4, lit_5, lit_6, lit_7, lit_8, lit_9, lit_10, lit_11, lit_12, lit_13, lit_14, lit_15, lit_16, lit_17, lit_18, lit_19, lit_20, lit_21, lit_22, lit_23, lit_24, lit_25, lit_26, lit_27, lit_28, lit_29, lit_30, lit_31, lit_32, lit_33, lit_34, lit_35, lit_36, lit_37, lit_38, lit_39, lit_40, lit_41, lit_42, lit_43, lit_44, lit_45, lit_46, lit_47, lit_48, lit_49, lit_50, lit_51, lit_52, lit_53, lit_54, lit_55, lit_56, lit_57, lit_58, lit_59, lit_60, lit_61, lit_62, lit_63, lit_64, lit_97, lit_99, lit_100, lit_122, lit_175, lit_176, lit_200, lit_255, lit_400, lit_700, lit_800, lit_999, lit_1000, lit_1400, lit_2000, lit_2033, lit_2038, lit_2100, lit_2124, lit_8000, lit_10000, lit_12345, lit_32767, lit_1000000, lit_1000000000, ↓bndX_h, ↓bndK_h, bxh_inl, bxh_inr, bkh_inl, bkh_inr, Nat.reduceEqDiff, ↓bnd_h, ↓lt_h, ↓ite_h, bh_some, lh_eq, ih_T, ih_F, ne_eq, not_false_eq_true, not_true_eq_false, eq_self, and_true, true_and, io_def, io_add, io_mul, io_sub, io_lt, io_le, io_eq, io_clamp, io_inbT, io_div, io_mod, io_m1, m1_io, m1_lt, m1_le, neg_1, gI_m1, true_or]
    exact Wp.ret i4
  · simp -dsimp (disch := first | assumption | omega) only [lit_0, lit_1, lit_2, lit_3, lit_4, lit_5, lit_6, lit_7, lit_8, lit_9, lit_10, lit_11, lit_12, lit_13, lit_14, lit_15, lit_16, lit_17, lit_18, lit_19, lit_20, lit_21, lit_22, lit_23, lit_24, lit_25, lit_26, lit_27, lit_28, lit_29, lit_30, lit_31, lit_32, lit_33, lit_34, lit_35, lit_36, lit_37, lit_38, lit_39, lit_40, lit_41, lit_42, lit_43, lit_44, lit_45, lit_46, lit_47, lit_48, lit_49, lit_50, lit_51, lit_52, lit_53, lit_54, lit_55, lit_56, lit_57, lit_58, lit_59, lit_60, lit_61, lit_62, lit_63, lit_64, lit_97, lit_99, lit_100, lit_122, lit_175, lit_176, lit_200, lit_255, lit_400, lit_700, lit_800, lit_999, lit_1000, lit_1400, lit_2000, lit_2033, lit_2038, lit_2100, lit_2124, lit_8000, lit_10000, lit_12345, lit_32767, lit_1000000, lit_1000000000, ↓bndX_h, ↓bndK_h, bxh_inl, bxh_inr, bkh_inl, bkh_inr, Nat.reduceEqDiff, ↓bnd_h, ↓lt_h, ↓ite_h, bh_some, lh_eq, ih_T, ih_F, ne_eq, not_false_eq_true, not_true_eq_false, eq_self, and_true, true_and, io_def, io_add, io_mul, io_sub, io_lt, io_le, io_eq, io_clamp, io_inbT, io_div, io_mod, io_m1, m1_io, m1_lt, m1_le, neg_1, gI_m1, or_true]
    exact Wp.ret i4
theorem body_thief {P : Nat → Nat} {n r : Nat} {Z : ZV} (hr : isRu r) (hn : n ≤ 700) (hPb : ∀ k, k < n → P k < 256) (hZ : okZ P n Z) : Body P n r Z (zX6_thiefClause 2) gTh := by
  obtain ⟨e1, e2, e3, e4, e5, e6⟩ := okZ_self hZ
  have hrn := ru_n0 hr
  obtain ⟨o, h1, h2, h3, h4⟩ := body_num (r := r) (lo := 0) (hi := 100) (idx := 19) (oc := r) (kc := 3) (up := fun Y x => (Y, vCh (zV Z) x, zS Z, zT Z)) hr hn hPb hZ (by omega) (by omega) (fun Y x l1 l2 g => hZ.mk g rfl e3 l2 e5 e6 e1 e2 rfl rfl rfl rfl rfl) (fun _ _ => rfl) (fun _ _ => rfl) (by unfold ownC; omega) (by omega) (fun M Y x L h => h.ch hr) (fun N Y x h => h.ch)
  have hcl : ∀ (M : Mem) (Q : Int32 → Mem → Prop), ZC M P n r Z → (∀ M1, QC P n r o M (io 0) M1 → Q (io 0) M1) → (∀ M1, QC P n r o M (io 1) M1 → Wp (zX6_numberFrom 2 (io 1) (io 999) M1) (fun v M2 => (v = io 0 ∨ v = io 1) ∧ mR M2 2 3 = r ∧ Q v (sI M2 r 4 (mI M2 2 9)))) → Wp (zX6_thiefClause 2 M) Q := fun M Q hM q1 q2 => by
    unfold zX6_thiefClause
    simp -dsimp (disch := first | assumption | omega) only [lit_0, lit_1, lit_2, lit_3, lit_4, lit_5, lit_6, lit_7, lit_8, lit_9, lit_10, lit_11, lit_12, lit_13, lit_14, lit_15, lit_16, lit_17, lit_18, lit_19, lit_20, lit_21, lit_22, lit_23, lit_24, lit_25, lit_26, lit_27, lit_28, lit_29, lit_30, lit_31, lit_32, lit_33, lit_34, lit_35, lit_36, lit_37, lit_38, lit_39, lit_40, lit_41, lit_42, lit_43, lit_44, lit_45, lit_46, lit_47, lit_48, lit_49, lit_50, lit_51, lit_52, lit_53, lit_54, lit_55, lit_56, lit_57, lit_58, lit_59, lit_60, lit_61, lit_62, lit_63, lit_64, lit_97, lit_99, lit_100, lit_122, lit_175, lit_176, lit_200, lit_255, lit_400, lit_700, lit_800, lit_999, lit_1000, lit_1400, lit_2000, lit_2033, lit_2038, lit_2100, lit_2124, lit_8000, lit_10000, lit_12345, lit_32767, lit_1000000, lit_1000000000, ↓bndX_h, ↓bndK_h, bxh_inl, bxh_inr, bkh_inl, bkh_inr, Nat.reduceEqDiff, ↓bnd_h, ↓lt_h, ↓ite_h, bh_some, lh_eq, ih_T, ih_F, ne_eq, not_false_eq_true, not_true_eq_false, eq_self, and_true, true_and, io_def, K0_2]
    refine Wp.seqh (h3 M hM) (fun v M2 ⟨i1, i2, i3, i4, i5⟩ => ?_)
    rcases i1 with rfl | rfl
    · simp -dsimp (disch := first | assumption | omega) only [lit_0, lit_1, lit_2, lit_3, lit_4, lit_5, lit_6, lit_7, lit_8, lit_9, lit_10, lit_11, lit_12, lit_13, lit_14, lit_15, lit_16, lit_17, lit_18, lit_19, lit_20, lit_21, lit_22, lit_23, lit_24, lit_25, lit_26, lit_27, lit_28, lit_29, lit_30, lit_31, lit_32, lit_33, lit_34, lit_35, lit_36, lit_37, lit_38, lit_39, lit_40, lit_41, lit_42, lit_43, lit_44, lit_45, lit_46, lit_47, lit_48, lit_49, lit_50, lit_51, lit_52, lit_53, lit_54, lit_55, lit_56, lit_57, lit_58, lit_59, lit_60, lit_61, lit_62, lit_63, lit_64, lit_97, lit_99, lit_100, lit_122, lit_175, lit_176, lit_200, lit_255, lit_400, lit_700, lit_800, lit_999, lit_1000, lit_1400, lit_2000, lit_2033, lit_2038, lit_2100, lit_2124, lit_8000, lit_10000, lit_12345, lit_32767, lit_1000000, lit_1000000000, ↓bndX_h, ↓bndK_h, bxh_inl, bxh_inr, bkh_inl, bkh_inr, Nat.reduceEqDiff, ↓bnd_h, ↓lt_h, ↓ite_h, bh_some, lh_eq, ih_T, ih_F, ne_eq, not_false_eq_true, not_true_eq_false, eq_self, and_true, true_and, io_def, io_add, io_mul, io_sub, io_lt, io_le, io_eq, io_clamp, io_inbT, io_div, io_mod, io_m1, m1_io, m1_lt, m1_le, neg_1, gI_m1]
      exact Wp.ret (q1 _ (i5 rfl))
    · simp -dsimp (disch := first | assumption | omega) only [lit_0, lit_1, lit_2, lit_3, lit_4, lit_5, lit_6, lit_7, lit_8, lit_9, lit_10, lit_11, lit_12, lit_13, lit_14, lit_15, lit_16, lit_17, lit_18, lit_19, lit_20, lit_21, lit_22, lit_23, lit_24, lit_25, lit_26, lit_27, lit_28, lit_29, lit_30, lit_31, lit_32, lit_33, lit_34, lit_35, lit_36, lit_37, lit_38, lit_39, lit_40, lit_41, lit_42, lit_43, lit_44, lit_45, lit_46, lit_47, lit_48, lit_49, lit_50, lit_51, lit_52, lit_53, lit_54, lit_55, lit_56, lit_57, lit_58, lit_59, lit_60, lit_61, lit_62, lit_63, lit_64, lit_97, lit_99, lit_100, lit_122, lit_175, lit_176, lit_200, lit_255, lit_400, lit_700, lit_800, lit_999, lit_1000, lit_1400, lit_2000, lit_2033, lit_2038, lit_2100, lit_2124, lit_8000, lit_10000, lit_12345, lit_32767, lit_1000000, lit_1000000000, ↓bndX_h, ↓bndK_h, bxh_inl, bxh_inr, bkh_inl, bkh_inr, Nat.reduceEqDiff, ↓bnd_h, ↓lt_h, ↓ite_h, bh_some, lh_eq, ih_T, ih_F, ne_eq, not_false_eq_true, not_true_eq_false, eq_self, and_true, true_and, io_def, io_add, io_mul, io_sub, io_lt, io_le, io_eq, io_clamp, io_inbT, io_div, io_mod, io_m1, m1_io, m1_lt, m1_le, neg_1, gI_m1, i2, hrn, K0_r hr]
      refine Wp.seqh (q2 _ i4) (fun v M3 ⟨j1, j2, j3⟩ => ?_)
      simp -dsimp (disch := first | assumption | omega) only [lit_0, lit_1, lit_2, lit_3, lit_4, lit_5, lit_6, lit_7, lit_8, lit_9, lit_10, lit_11, lit_12, lit_13, lit_14, lit_15, lit_16, lit_17, lit_18, lit_19, lit_20, lit_21, lit_22, lit_23, lit_24, lit_25, lit_26, lit_27, lit_28, lit_29, lit_30, lit_31, lit_32, lit_33, lit_34, lit_35, lit_36, lit_37, lit_38, lit_39, lit_40, lit_41, lit_42, lit_43, lit_44, lit_45, lit_46, lit_47, lit_48, lit_49, lit_50, lit_51, lit_52, lit_53, lit_54, lit_55, lit_56, lit_57, lit_58, lit_59, lit_60, lit_61, lit_62, lit_63, lit_64, lit_97, lit_99, lit_100, lit_122, lit_175, lit_176, lit_200, lit_255, lit_400, lit_700, lit_800, lit_999, lit_1000, lit_1400, lit_2000, lit_2033, lit_2038, lit_2100, lit_2124, lit_8000, lit_10000, lit_12345, lit_32767, lit_1000000, lit_1000000000, ↓bndX_h, ↓bndK_h, bxh_inl, bxh_inr, bkh_inl, bkh_inr, Nat.reduceEqDiff, ↓bnd_h, ↓lt_h, ↓ite_h, bh_some, lh_eq, ih_T, ih_F, ne_eq, not_false_eq_true, not_true_eq_false, eq_self, and_true, true_and, io_def, io_add, io_mul, io_sub, io_lt, io_le, io_eq, io_clamp, io_inbT, io_div, io_mod, io_m1, m1_io, m1_lt, m1_le, neg_1, gI_m1, j2, hrn, K0_r hr]
      rcases j1 with rfl | rfl
      · simp -dsimp (disch := first | assumption | omega) only [lit_0, lit_1, lit_2, lit_3, lit_4, lit_5, lit_6, lit_7, lit_8, lit_9, lit_10, lit_11, lit_12, lit_13, lit_14, lit_15, lit_16, lit_17, lit_18, lit_19, lit_20, lit_21, lit_22, lit_23, lit_24, lit_25, lit_26, lit_27, lit_28, lit_29, lit_30, lit_31, lit_32, lit_33, lit_34, lit_35, lit_36, lit_37, lit_38, lit_39, lit_40, lit_41, lit_42, lit_43, lit_44, lit_45, lit_46, lit_47, lit_48, lit_49, lit_50, lit_51, lit_52, lit_53, lit_54, lit_55, lit_56, lit_57, lit_58, lit_59, lit_60, lit_61, lit_62, lit_63, lit_64, lit_97, lit_99, lit_100, lit_122, lit_175, lit_176, lit_200, lit_255, lit_400, lit_700, lit_800, lit_999, lit_1000, lit_1400, lit_2000, lit_2033, lit_2038, lit_2100, lit_2124, lit_8000, lit_10000, lit_12345, lit_32767, lit_1000000, lit_1000000000, ↓bndX_h, ↓bndK_h, bxh_inl, bxh_inr, bkh_inl, bkh_inr, Nat.reduceEqDiff, ↓bnd_h, ↓lt_h, ↓ite_h, bh_some, lh_eq, ih_T, ih_F, ne_eq, not_false_eq_true, not_true_eq_false, eq_self, and_true, true_and, io_def, io_add, io_mul, io_sub, io_lt, io_le, io_eq, io_clamp, io_inbT, io_div, io_mod, io_m1, m1_io, m1_lt, m1_le, neg_1, gI_m1, true_or]
        exact Wp.ret j3
      · simp -dsimp (disch := first | assumption | omega) only [lit_0, lit_1, lit_2, lit_3, lit_4, lit_5, lit_6, lit_7, lit_8, lit_9, lit_10, lit_11, lit_12, lit_13, lit_14, lit_15, lit_16, lit_17, lit_18, lit_19, lit_20, lit_21, lit_22, lit_23, lit_24, lit_25, lit_26, lit_27, lit_28, lit_29, lit_30, lit_31, lit_32, lit_33, lit_34, lit_35, lit_36, lit_37, lit_38, lit_39, lit_40, lit_41, lit_42, lit_43, lit_44, lit_45, lit_46, lit_47, lit_48, lit_49, lit_50, lit_51, lit_52, lit_53, lit_54, lit_55, lit_56, lit_57, lit_58, lit_59, lit_60, lit_61, lit_62, lit_63, lit_64, lit_97, lit_99, lit_100, lit_122, lit_175, lit_176, lit_200, lit_255, lit_400, lit_700, lit_800, lit_999, lit_1000, lit_1400, lit_2000, lit_2033, lit_2038, lit_2100, lit_2124, lit_8000, lit_10000, lit_12345, lit_32767, lit_1000000, lit_1000000000, ↓bndX_h, ↓bndK_h, bxh_inl, bxh_inr, bkh_inl, bkh_inr, Nat.reduceEqDiff, ↓bnd_h, ↓lt_h, ↓ite_h, bh_some, lh_eq, ih_T, ih_F, ne_eq, not_false_eq_true, not_true_eq_false, eq_self, and_true, true_and, io_def, io_add, io_mul, io_sub, io_lt, io_le, io_eq, io_clamp, io_inbT, io_div, io_mod, io_m1, m1_io, m1_lt, m1_le, neg_1, gI_m1, or_true]
        exact Wp.ret j3
  cases o with
  | inl q =>
    have h1' := h1
    obtain ⟨q1, q2, q3⟩ := h1
    refine ⟨.inl q, h1', h2, fun M hM => hcl M _ hM (fun M1 h => h) (fun M1 h => ?_), fun N K Q hN hK => ?_⟩
    · have := h.1.1
      rw [io_eq (by omega) (by omega)] at this
      omega
    · have hK2 : ∀ N', QM P n (.inl q) N N' → Wp (some (io 0, N')) (fun _ N' => PM N' ∧ QM P n (.inl q) N N') := fun N' h => Wp.ret ⟨fun t ht => (h.2.2.1 _ _).trans (hN.1.1.1 t ht), h⟩
      refine (h4 N (fun N' => some (io 0, N')) _ hN hK2).mono (fun v M2 ⟨p1, p2⟩ => ⟨p1, ?_⟩)
      obtain ⟨x, N', e, f1, f2⟩ := p2
      cases e
      have hb := bad_of q1 q2 f2.1
      refine Wp.of (m_number_bad hb) ⟨f1, hK _ ⟨⟨(mI_diff (by omega)).trans f2.1.1, (mI_diff (by omega)).trans f2.1.2⟩, f2.2.put (by unfold ownM; omega)⟩⟩
  | inr Z2 =>
    obtain ⟨hZ2, hS2⟩ : okZ P n Z2 ∧ xS (zX Z) < xS (zX Z2) := h1
    obtain ⟨e1', e2', e3', e4', e5', e6'⟩ := okZ_self hZ2
    obtain ⟨o2, g1, g2, g3, g4⟩ := body_num (r := r) (lo := 1) (hi := 999) (idx := 20) (oc := r) (kc := 4) (up := fun Y x => (Y, vBo (zV Z2) x, zS Z2, zT Z2)) hr hn hPb hZ2 (by omega) (by omega) (fun Y x l1 l2 g => hZ2.mk g rfl e3' e4' l1 l2 e1' e2' rfl rfl rfl rfl rfl) (fun _ _ => rfl) (fun _ _ => rfl) (by unfold ownC; omega) (by omega) (fun M Y x L h => h.bo hr) (fun N Y x h => h.bo)
    refine ⟨o2, ?_, fun Z' h => (g2 Z' h).trans (h2 Z2 rfl), fun M hM => hcl M _ hM (fun M1 h => ?_) (fun M1 h => ?_), fun N K Q hN hK => ?_⟩
    · cases o2 with
      | inl q => exact g1
      | inr Z3 => exact ⟨g1.1, by have := g1.2; omega⟩
    · have := h.1.1
      rw [io_eq (by omega) (by omega)] at this
      omega
    · refine (g3 M1 h.1.2).mono (fun v M2 ⟨j1, j2, j3, j4, j5⟩ => ⟨j1, j2, ?_⟩)
      exact ⟨j4.1, h.2.trans j4.2⟩
    · have hK2 : ∀ N', QM P n (.inr Z2) N N' → Wp (some (io 0, N')) (fun _ N' => QM P n (.inr Z2) N N') := fun N' h => Wp.ret h
      refine (h4 N (fun N' => some (io 0, N')) _ hN hK2).mono (fun v M2 ⟨p1, p2⟩ => ⟨p1, ?_⟩)
      obtain ⟨x, N', e, f2⟩ := p2
      cases e
      exact g4 _ K Q f2.1 (fun N'' h => hK N'' ⟨h.1, f2.2.trans h.2⟩)
/-- once, then a body -/
def ClO (P : Nat → Nat) (n r i : Nat) (Z : ZV) (C : Mem → Option (Int32 × Mem)) : Prop :=
  ∃ o, GdZ P n (zX Z) o ∧ (∀ Z', o = .inr Z' → zT Z' = zT Z ||| 2 ^ i) ∧ (∀ M Q, ZC M P n r Z → (∀ x M', QC P n r o M x M' → Wp (zX6_clause_B216 2 x M') Q) → Wp (C M) Q)
    ∧ ∀ N x1 Q, ZM N P n Z → RT x1 (zT Z) → (∀ q, o = .inl q → ∀ y N', QM P n o N N' → Q y N') → (∀ Z1 N', o = .inr Z1 → QM P n o N N' → Wp (zX12_readClause_B177 72 (io x1) (io (i + 1)) N') Q) → Wp (zX12_readClause_B45 72 (io x1) (io (i + 1)) N) Q
theorem m_b177_bad {N : Mem} {x y : Int32} (h : bad N) : ∃ z, zX12_readClause_B177 72 x y N = some (z, N) := by
  unfold zX12_readClause_B177
  rw [m_mark_bad h, bnd_some]
  exact ⟨_, rfl⟩
/-- the reference: told already -/
theorem m_b45_told {P : Nat → Nat} {n i x1 : Nat} {Z : ZV} {N : Mem} (hZ : okZ P n Z) (hi : i < 6) (hN : ZM N P n Z) (hx : RT x1 (zT Z)) (ht : (zT Z).testBit i = true) : Wp (zX12_readClause_B45 72 (io x1) (io (i + 1)) N) (fun _ N' => QM P n (.inl (4, xS (zX Z))) N N') := by
  have hT := hZ.2.2.2.2.2.2.2.1
  have hb := m_told (x := x1) (j := i + 1) (hx.lt hT) (by omega)
  rw [hx.bit hT hi, ht] at hb
  have hb2 : (((io x1 >>> (io (i + 1) &&& io 31)) &&& io 1) = io 1) = True := by rw [hb]; exact eq_true rfl
  have hi0 : ¬ i + 1 ≤ 0 := by omega
  unfold zX12_readClause_B45
  simp -dsimp (disch := first | assumption | omega) only [lit_0, lit_1, lit_2, lit_3, lit_4, lit_5, lit_6, lit_7, lit_8, lit_9, lit_10, lit_11, lit_12, lit_13, lit_14, lit_15, lit_16, lit_17, lit_18, lit_19, lit_20, lit_21, lit_22, lit_23, lit_24, lit_25, lit_26, lit_27, lit_28, lit_29, lit_30, lit_31, lit_32, lit_33, lit_34, lit_35, lit_36, lit_37, lit_38, lit_39, lit_40, lit_41, lit_42, lit_43, lit_44, lit_45, lit_46, lit_47, lit_48, lit_49, lit_50, lit_51, lit_52, lit_53, lit_54, lit_55, lit_56, lit_57, lit_58, lit_59, lit_60, lit_61, lit_62, lit_63, lit_64, lit_97, lit_99, lit_100, lit_122, lit_175, lit_176, lit_200, lit_255, lit_400, lit_700, lit_800, lit_999, lit_1000, lit_1400, lit_2000, lit_2033, lit_2038, lit_2100, lit_2124, lit_8000, lit_10000, lit_12345, lit_32767, lit_1000000, lit_1000000000, ↓bndX_h, ↓bndK_h, bxh_inl, bxh_inr, bkh_inl, bkh_inr, Nat.reduceEqDiff, ↓bnd_h, ↓lt_h, ↓ite_h, bh_some, lh_eq, ih_T, ih_F, ne_eq, not_false_eq_true, not_true_eq_false, eq_self, and_true, true_and, io_def, io_add, io_mul, io_sub, io_lt, io_le, io_eq, io_clamp, io_inbT, io_div, io_mod, io_m1, m1_io, m1_lt, m1_le, neg_1, gI_m1, hi0, hb2]
  refine Wp.seqh (m_wrongX hN.1) (fun _ N' ⟨i1, i2⟩ => ?_)
  have hbn := (bad_of (by omega) (by omega) i1).ne
  unfold zX12_readClause_B63
  simp -dsimp (disch := first | assumption | omega) only [lit_0, lit_1, lit_2, lit_3, lit_4, lit_5, lit_6, lit_7, lit_8, lit_9, lit_10, lit_11, lit_12, lit_13, lit_14, lit_15, lit_16, lit_17, lit_18, lit_19, lit_20, lit_21, lit_22, lit_23, lit_24, lit_25, lit_26, lit_27, lit_28, lit_29, lit_30, lit_31, lit_32, lit_33, lit_34, lit_35, lit_36, lit_37, lit_38, lit_39, lit_40, lit_41, lit_42, lit_43, lit_44, lit_45, lit_46, lit_47, lit_48, lit_49, lit_50, lit_51, lit_52, lit_53, lit_54, lit_55, lit_56, lit_57, lit_58, lit_59, lit_60, lit_61, lit_62, lit_63, lit_64, lit_97, lit_99, lit_100, lit_122, lit_175, lit_176, lit_200, lit_255, lit_400, lit_700, lit_800, lit_999, lit_1000, lit_1400, lit_2000, lit_2033, lit_2038, lit_2100, lit_2124, lit_8000, lit_10000, lit_12345, lit_32767, lit_1000000, lit_1000000000, ↓bndX_h, ↓bndK_h, bxh_inl, bxh_inr, bkh_inl, bkh_inr, Nat.reduceEqDiff, ↓bnd_h, ↓lt_h, ↓ite_h, bh_some, lh_eq, ih_T, ih_F, ne_eq, not_false_eq_true, not_true_eq_false, eq_self, and_true, true_and, io_def, hbn]
  exact Wp.ret ⟨i1, i2.N⟩
theorem m_b45_new {P : Nat → Nat} {n i x1 : Nat} {Z : ZV} {N : Mem} {Q : Int32 → Mem → Prop} (hZ : okZ P n Z) (hi : i < 6) (hx : RT x1 (zT Z)) (ht : (zT Z).testBit i = false) (h : Wp (zX12_readClause_B63 72 (io x1) (io (i + 1)) N) Q) : Wp (zX12_readClause_B45 72 (io x1) (io (i + 1)) N) Q := by
  have hT := hZ.2.2.2.2.2.2.2.1
  have hb := m_told (x := x1) (j := i + 1) (hx.lt hT) (by omega)
  rw [hx.bit hT hi, ht] at hb
  have hb2 : (((io x1 >>> (io (i + 1) &&& io 31)) &&& io 1) = io 1) = False := by rw [hb]; exact eq_false (by decide)
  have hi0 : ¬ i + 1 ≤ 0 := by omega
  unfold zX12_readClause_B45
  simp -dsimp (disch := first | assumption | omega) only [lit_0, lit_1, lit_2, lit_3, lit_4, lit_5, lit_6, lit_7, lit_8, lit_9, lit_10, lit_11, lit_12, lit_13, lit_14, lit_15, lit_16, lit_17, lit_18, lit_19, lit_20, lit_21, lit_22, lit_23, lit_24, lit_25, lit_26, lit_27, lit_28, lit_29, lit_30, lit_31, lit_32, lit_33, lit_34, lit_35, lit_36, lit_37, lit_38, lit_39, lit_40, lit_41, lit_42, lit_43, lit_44, lit_45, lit_46, lit_47, lit_48, lit_49, lit_50, lit_51, lit_52, lit_53, lit_54, lit_55, lit_56, lit_57, lit_58, lit_59, lit_60, lit_61, lit_62, lit_63, lit_64, lit_97, lit_99, lit_100, lit_122, lit_175, lit_176, lit_200, lit_255, lit_400, lit_700, lit_800, lit_999, lit_1000, lit_1400, lit_2000, lit_2033, lit_2038, lit_2100, lit_2124, lit_8000, lit_10000, lit_12345, lit_32767, lit_1000000, lit_1000000000, ↓bndX_h, ↓bndK_h, bxh_inl, bxh_inr, bkh_inl, bkh_inr, Nat.reduceEqDiff, ↓bnd_h, ↓lt_h, ↓ite_h, bh_some, lh_eq, ih_T, ih_F, ne_eq, not_false_eq_true, not_true_eq_false, eq_self, and_true, true_and, io_def, io_add, io_mul, io_sub, io_lt, io_le, io_eq, io_clamp, io_inbT, io_div, io_mod, io_m1, m1_io, m1_lt, m1_le, neg_1, gI_m1, hi0, hb2]
  exact h
theorem clause_once {P : Nat → Nat} {n r i : Nat} {Z : ZV} {F : Mem → Option (Int32 × Mem)} {Gm : (Mem → Option (Int32 × Mem)) → (Int32 → Mem → Prop) → Mem → Prop} (hr : isRu r) (hn : n ≤ 700) (hPb : ∀ k, k < n → P k < 256) (hZ : okZ P n Z) (hi : i < 6) (hk : xK (zX Z) ≠ 0)
    (hB : ∀ Z1, okZ P n Z1 → Body P n r Z1 F Gm)
    (hD : ∀ N x1 Q, MX N P n (zX Z) → Wp (zX12_stepOn 72 N) (fun _ N2 => PM N2 ∧ Gm (zX12_readClause_B177 72 (io x1) (io (i + 1))) Q N2) → Wp (zX12_readClause_B63 72 (io x1) (io (i + 1)) N) Q) :
    ClO P n r i Z (fun M => bnd (zX6_once 2 (io (2 ^ i)) M) fun v M1 => if v = io 0 then zX6_clause_B216 2 (io 0) M1 else bnd (F M1) fun w M2 => if w = io 0 then zX6_clause_B216 2 (io 0) M2 else zX6_clause_B216 2 (io 1) M2) := by
  have hsn : xS (zX Z) ≤ n := by have := hZ.1.1.1; have := hZ.1.1.2.1; omega
  have hT := hZ.2.2.2.2.2.2.2.1
  have e10 : (io 1 = io 0) = False := by rw [io_eq (by omega) (by omega)]; exact eq_false (by decide)
  rcases sim_once (r := r) hr hn hPb hZ hi hk with ⟨ht, h1⟩ | ⟨ht, Y, hY, h1, h2⟩
  · refine ⟨.inl (4, xS (zX Z)), ⟨by show 1 ≤ 4; omega, Nat.le_refl _, hsn⟩, fun Z' h => (by cases h), fun M Q hM hQ => ?_, fun N x1 Q hN hx hQ _ => ?_⟩
    · refine Wp.seq (h1 M hM) (fun x M' h => ?_)
      have := h.1.1
      subst this
      rw [if_pos rfl]
      exact hQ _ _ h
    · exact (m_b45_told hZ hi hN hx ht).mono (fun y N' h => hQ _ rfl y N' h)
  · have hZ1 : okZ P n (Y, zV Z, zS Z, zT Z ||| 2 ^ i) := by
      obtain ⟨e1, e2, e3, e4, e5, e6⟩ := okZ_self hZ
      exact hZ.mk hY rfl e3 e4 e5 e6 e1 (or64 hT hi) rfl rfl rfl rfl rfl
    obtain ⟨o, g1, g2, g3, g4⟩ := hB _ hZ1
    refine ⟨o, ?_, fun Z' h => g2 Z' h, fun M Q hM hQ => ?_, fun N x1 Q hN hx hQ1 hQ2 => ?_⟩
    · cases o with
      | inl q => exact g1
      | inr Z3 => exact ⟨g1.1, by have := g1.2; have := hY.2.1; show xS (zX Z) < _; exact Nat.lt_trans hY.2.1 g1.2⟩
    · refine Wp.seq (h1 M hM) (fun x M' h => ?_)
      have := h.1.1
      subst this
      rw [if_neg (e10 ▸ id)]
      refine Wp.seq (g3 M' h.1.2) (fun w M2 h3 => ?_)
      have h4 : QC P n r o M w M2 := ⟨h3.1, h.2.trans h3.2⟩
      cases o with
      | inl q =>
        have := h3.1.1
        subst this
        rw [if_pos rfl]
        exact hQ _ _ h4
      | inr Z3 =>
        have := h3.1.1
        subst this
        rw [if_neg (e10 ▸ id)]
        exact hQ _ _ h4
    · refine m_b45_new hZ hi hx ht (hD N x1 Q hN.1 ((h2 N hN).mono (fun _ N2 h => ⟨h.1.1.1.1, ?_⟩)))
      refine g4 N2 _ Q h.1 (fun N' h3 => ?_)
      have h4 : QM P n o N N' := ⟨h3.1, h.2.trans h3.2⟩
      cases o with
      | inl q =>
        obtain ⟨z, hz⟩ := m_b177_bad (x := io x1) (y := io (i + 1)) (bad_of g1.1 g1.2.1 h3.1)
        exact Wp.of hz (hQ1 q rfl z N' h4)
      | inr Z3 => exact hQ2 Z3 N' rfl h4
/-- once, and a flag -/
theorem clause_flag {P : Nat → Nat} {n r i kc idx : Nat} {Z : ZV} {up : ZV → ZV} (hr : isRu r) (hn : n ≤ 700) (hPb : ∀ k, k < n → P k < 256) (hZ : okZ P n Z) (hi : i < 6) (hk : xK (zX Z) ≠ 0)
    (hup : ∀ Z1, okZ P n Z1 → okZ P n (up Z1) ∧ zX (up Z1) = zX Z1 ∧ zT (up Z1) = zT Z1)
    (hC : ∀ M Z1 L, BC M r (zV Z1) (zS Z1) (zT Z1) L → BC (sI M (r + 6) kc (io 1)) r (zV (up Z1)) (zS (up Z1)) (zT (up Z1)) L) (hM : ∀ N Z1, BM N (zV Z1) (zS Z1) → BM (sI N 76 idx (io 1)) (zV (up Z1)) (zS (up Z1))) (hix : 14 ≤ idx ∧ idx ≤ 20)
    (hD : ∀ N x1 Q, MX N P n (zX Z) → Wp (zX12_stepOn 72 N) (fun _ N2 => PM N2 ∧ Wp (zX12_readClause_B177 72 (io x1) (io (i + 1)) (sI N2 76 idx (io 1))) Q) → Wp (zX12_readClause_B63 72 (io x1) (io (i + 1)) N) Q) {C : Mem → Option (Int32 × Mem)}
    (hCl : ∀ M Q, Wp (zX6_once 2 (io (2 ^ i)) M) (fun v M1 => PC1 M1 ∧ mR M1 2 3 = r ∧ Wp (zX6_clause_B216 2 v (sI M1 (r + 6) kc (io 1))) Q) → Wp (C M) Q) :
    ClO P n r i Z C := by
  have hsn : xS (zX Z) ≤ n := by have := hZ.1.1.1; have := hZ.1.1.2.1; omega
  have hT := hZ.2.2.2.2.2.2.2.1
  have hr2 : 2 < r := by rcases hr with rfl | rfl | rfl <;> omega
  rcases sim_once (r := r) hr hn hPb hZ hi hk with ⟨ht, h1⟩ | ⟨ht, Y, hY, h1, h2⟩
  · refine ⟨.inl (4, xS (zX Z)), ⟨by show 1 ≤ 4; omega, Nat.le_refl _, hsn⟩, fun Z' h => (by cases h), fun M Q hM hQ => ?_, fun N x1 Q hN hx hQ _ => ?_⟩
    · refine hCl M Q ((h1 M hM).mono (fun x M' h => ⟨hM.1.1.1.keep (fun o k _ => h.2.2.1 o k), (h.2.2.1 _ _).trans hM.1.2.1, hQ _ _ ⟨⟨h.1.1, (mI_diff (by omega)).trans h.1.2.1, (mI_diff (by omega)).trans h.1.2.2⟩, h.2.put (by unfold ownC; omega)⟩⟩))
    · exact (m_b45_told hZ hi hN hx ht).mono (fun y N' h => hQ _ rfl y N' h)
  · have hZ1 : okZ P n (Y, zV Z, zS Z, zT Z ||| 2 ^ i) := by
      obtain ⟨e1, e2, e3, e4, e5, e6⟩ := okZ_self hZ
      exact hZ.mk hY rfl e3 e4 e5 e6 e1 (or64 hT hi) rfl rfl rfl rfl rfl
    obtain ⟨u1, u2, u3⟩ := hup _ hZ1
    refine ⟨.inr (up (Y, zV Z, zS Z, zT Z ||| 2 ^ i)), ⟨u1, by rw [u2]; exact hY.2.1⟩, fun Z' h => (by cases h; exact u3), fun M Q hM hQ => ?_, fun N x1 Q hN hx hQ1 hQ2 => ?_⟩
    · refine hCl M Q ((h1 M hM).mono (fun x M' h => ⟨h.1.2.1.1.1, h.1.2.1.2.1, hQ _ _ ⟨⟨h.1.1, ?_, ?_⟩, h.2.put (by unfold ownC; omega)⟩⟩))
      · rw [u2]
        exact h.1.2.1.put hr (by unfold ownC; omega)
      · rw [u2]
        exact hC _ _ _ h.1.2.2
    · refine m_b45_new hZ hi hx ht (hD N x1 Q hN.1 ((h2 N hN).mono (fun _ N2 h => ⟨h.1.1.1.1, ?_⟩)))
      refine hQ2 _ _ rfl ⟨⟨?_, hM _ _ h.1.2⟩, h.2.put (by unfold ownM; omega)⟩
      rw [u2]
      exact h.1.1.put (by unfold ownM; omega)
