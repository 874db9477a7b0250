/-! ===== LEVEL 2: fewest ===== -/
def pcN (S : Nat) : Nat := sumN 8 (fun k => if S.testBit k = true then 1 else 0)
theorem pc_dec : ∀ S : Fin 256, (match zJ6_bitCount_0f7a4 (io S.val) Mc3 with | some (x, _) => x | none => io 77) = io (pcN S.val) := by decide +kernel
theorem pcm_dec : ∀ n : Fin 9, ∀ S : Fin 256, pcN (S.val % 2 ^ n.val) ≤ pcN S.val := by decide +kernel
theorem pcN_le (S : Nat) : pcN S ≤ 8 := by
  unfold pcN
  refine Nat.le_trans (sumN_le (g := fun _ => 1) (fun i _ => by split <;> omega)) (by decide)
theorem c_bits {S : Nat} {M : Mem} (hS : S < 256) : zJ6_bitCount_0f7a4 (io S) M = some (io (pcN S), M) := by
  have e := pc_dec ⟨S, hS⟩
  rw [← e]
  rfl
theorem bit_dec : ∀ a : Fin 256, ∀ w : Fin 8, ((io a.val >>> (io w.val &&& io 31)) &&& io 1) = io (if a.val.testBit w.val = true then 1 else 0) := by decide +kernel
theorem m_bits {S : Nat} {M : Mem} (hS : S < 256) : zX12_bitsOf (io S) M = some (io (pcN S), M) := by
  unfold zX12_bitsOf
  refine Wp.eq ?_
  refine loopW (L := fun f (i : Nat) U => zX12_bitsOf_L4 f (io S) (io (sumN i (fun k => if S.testBit k = true then 1 else 0))) (io i) U) (J := fun i U => U = M ∧ i ≤ 8) (fun i _ => 8 - i) ?_ FU 0 M ⟨rfl, Nat.zero_le _⟩ (by rw [FU_val]; omega)
  intro f i U ⟨hU, hi⟩ rec
  subst hU
  show Wp (zX12_bitsOf_B4 _ _ _ _ _) _
  unfold zX12_bitsOf_B4
  simp -dsimp (disch := first | assumption | omega) only [lit_0, lit_1, lit_2, lit_3, lit_4, lit_5, lit_6, lit_7, lit_8, lit_9, lit_10, lit_11, lit_12, lit_13, lit_14, lit_15, lit_16, lit_17, lit_18, lit_19, lit_20, lit_21, lit_22, lit_23, lit_24, lit_25, lit_26, lit_27, lit_28, lit_29, lit_30, lit_31, lit_32, lit_33, lit_34, lit_35, lit_36, lit_37, lit_38, lit_39, lit_40, lit_41, lit_42, lit_43, lit_44, lit_45, lit_46, lit_47, lit_48, lit_49, lit_50, lit_51, lit_52, lit_53, lit_54, lit_55, lit_56, lit_57, lit_58, lit_59, lit_60, lit_61, lit_62, lit_63, lit_64, lit_97, lit_99, lit_100, lit_122, lit_175, lit_176, lit_200, lit_255, lit_400, lit_700, lit_800, lit_999, lit_1000, lit_1400, lit_2000, lit_2033, lit_2038, lit_2100, lit_2124, lit_8000, lit_10000, lit_12345, lit_32767, lit_1000000, lit_1000000000, ↓bndX_h, ↓bndK_h, bxh_inl, bxh_inr, bkh_inl, bkh_inr, Nat.reduceEqDiff, ↓bnd_h, ↓lt_h, ↓ite_h, bh_some, lh_eq, ih_T, ih_F, ne_eq, not_false_eq_true, not_true_eq_false, eq_self, and_true, true_and, io_def, io_add, io_mul, io_sub, io_lt, io_le, io_eq, io_clamp, io_inbT, io_div, io_mod, io_m1, m1_io, m1_lt, m1_le, neg_1, gI_m1]
  refine Wp.csh (fun c => ?_) (fun c => ?_)
  · rw [show i = 8 by omega]
    exact Wp.ret ⟨rfl, rfl⟩
  · have e := bit_dec ⟨S, hS⟩ ⟨i, by omega⟩
    simp only at e
    rw [lt_eq, lit_31, lit_1, e, io_add, io_add]
    exact rec (i + 1) U ⟨rfl, by omega⟩ (by omega)
/-- the set S EXPLAINS the first n GIFTS with the masks f -/
def exA (f : Nat → Nat) (S n : Nat) : Prop := ∀ i, i < n → f i ≠ 0 → f i &&& S ≠ 0
theorem c_explainAll {M : Mem} {v : GV} {sv : SV} {b : BV} {S : Nat} (hv : okG v) (h : CR M v sv b) (p662 : mR M 66 2 = 68) (hb : bLe b ≤ 200) (hS : S < 256) :
    Wp (zX2_explainAll 66 (io S) M) (fun x N => ((x = io 1 ∧ exA (mskS v sv b) S (bLe b)) ∨ (x = io 0 ∧ ¬ exA (mskS v sv b) S (bLe b))) ∧ N = M) := by
  unfold zX2_explainAll
  rw [if_pos K0_66]
  refine loopW (L := fun f (i : Nat) U => zX2_explainAll_L2 f 66 (io S) (io i) U) (J := fun i U => U = M ∧ i ≤ bLe b ∧ exA (mskS v sv b) S i) (fun i _ => bLe b - i) ?_ FU 0 M ⟨rfl, Nat.zero_le _, fun i hi => absurd hi (Nat.not_lt_zero _)⟩ (by rw [FU_val]; omega)
  intro f i U ⟨hU, hi, hE⟩ rec
  subst hU
  have h3 := h.1
  show Wp (zX2_explainAll_B2 _ _ _ _ _) _
  unfold zX2_explainAll_B2 zX2_explainAll_B31
  simp -dsimp (disch := first | assumption | omega) only [lit_0, lit_1, lit_2, lit_3, lit_4, lit_5, lit_6, lit_7, lit_8, lit_9, lit_10, lit_11, lit_12, lit_13, lit_14, lit_15, lit_16, lit_17, lit_18, lit_19, lit_20, lit_21, lit_22, lit_23, lit_24, lit_25, lit_26, lit_27, lit_28, lit_29, lit_30, lit_31, lit_32, lit_33, lit_34, lit_35, lit_36, lit_37, lit_38, lit_39, lit_40, lit_41, lit_42, lit_43, lit_44, lit_45, lit_46, lit_47, lit_48, lit_49, lit_50, lit_51, lit_52, lit_53, lit_54, lit_55, lit_56, lit_57, lit_58, lit_59, lit_60, lit_61, lit_62, lit_63, lit_64, lit_97, lit_99, lit_100, lit_122, lit_175, lit_176, lit_200, lit_255, lit_400, lit_700, lit_800, lit_999, lit_1000, lit_1400, lit_2000, lit_2033, lit_2038, lit_2100, lit_2124, lit_8000, lit_10000, lit_12345, lit_32767, lit_1000000, lit_1000000000, ↓bndX_h, ↓bndK_h, bxh_inl, bxh_inr, bkh_inl, bkh_inr, Nat.reduceEqDiff, ↓bnd_h, ↓lt_h, ↓ite_h, bh_some, lh_eq, ih_T, ih_F, ne_eq, not_false_eq_true, not_true_eq_false, eq_self, and_true, true_and, io_def, io_add, io_mul, io_sub, io_lt, io_le, io_eq, io_clamp, io_inbT, io_div, io_mod, io_m1, m1_io, m1_lt, m1_le, neg_1, gI_m1, h3]
  refine Wp.csh (fun c => ?_) (fun c => ?_)
  · have : i = bLe b := by omega
    subst this
    exact Wp.ret ⟨Or.inl ⟨rfl, hE⟩, rfl⟩
  · have hi2 : i < bLe b := by omega
    have hm := mskS_lt (sv := sv) (b := b) (i := i) hv
    have ea := at_io (M := U) K0_68 (show i < 200 by omega) (by omega)
    rw [(h.2 i hi2).2] at ea
    have hand : mskS v sv b i &&& S < 2147483648 := Nat.lt_of_le_of_lt Nat.and_le_left (by omega)
    simp -dsimp (disch := first | assumption | omega) only [lit_0, lit_1, lit_2, lit_3, lit_4, lit_5, lit_6, lit_7, lit_8, lit_9, lit_10, lit_11, lit_12, lit_13, lit_14, lit_15, lit_16, lit_17, lit_18, lit_19, lit_20, lit_21, lit_22, lit_23, lit_24, lit_25, lit_26, lit_27, lit_28, lit_29, lit_30, lit_31, lit_32, lit_33, lit_34, lit_35, lit_36, lit_37, lit_38, lit_39, lit_40, lit_41, lit_42, lit_43, lit_44, lit_45, lit_46, lit_47, lit_48, lit_49, lit_50, lit_51, lit_52, lit_53, lit_54, lit_55, lit_56, lit_57, lit_58, lit_59, lit_60, lit_61, lit_62, lit_63, lit_64, lit_97, lit_99, lit_100, lit_122, lit_175, lit_176, lit_200, lit_255, lit_400, lit_700, lit_800, lit_999, lit_1000, lit_1400, lit_2000, lit_2033, lit_2038, lit_2100, lit_2124, lit_8000, lit_10000, lit_12345, lit_32767, lit_1000000, lit_1000000000, ↓bndX_h, ↓bndK_h, bxh_inl, bxh_inr, bkh_inl, bkh_inr, Nat.reduceEqDiff, ↓bnd_h, ↓lt_h, ↓ite_h, bh_some, lh_eq, ih_T, ih_F, ne_eq, not_false_eq_true, not_true_eq_false, eq_self, and_true, true_and, io_def, io_add, io_mul, io_sub, io_lt, io_le, io_eq, io_clamp, io_inbT, io_div, io_mod, io_m1, m1_io, m1_lt, m1_le, neg_1, gI_m1, p662, ea]
    refine Wp.csh (fun q => ?_) (fun q => ?_)
    · simp -dsimp (disch := first | assumption | omega) only [lit_0, lit_1, lit_2, lit_3, lit_4, lit_5, lit_6, lit_7, lit_8, lit_9, lit_10, lit_11, lit_12, lit_13, lit_14, lit_15, lit_16, lit_17, lit_18, lit_19, lit_20, lit_21, lit_22, lit_23, lit_24, lit_25, lit_26, lit_27, lit_28, lit_29, lit_30, lit_31, lit_32, lit_33, lit_34, lit_35, lit_36, lit_37, lit_38, lit_39, lit_40, lit_41, lit_42, lit_43, lit_44, lit_45, lit_46, lit_47, lit_48, lit_49, lit_50, lit_51, lit_52, lit_53, lit_54, lit_55, lit_56, lit_57, lit_58, lit_59, lit_60, lit_61, lit_62, lit_63, lit_64, lit_97, lit_99, lit_100, lit_122, lit_175, lit_176, lit_200, lit_255, lit_400, lit_700, lit_800, lit_999, lit_1000, lit_1400, lit_2000, lit_2033, lit_2038, lit_2100, lit_2124, lit_8000, lit_10000, lit_12345, lit_32767, lit_1000000, lit_1000000000, ↓bndX_h, ↓bndK_h, bxh_inl, bxh_inr, bkh_inl, bkh_inr, Nat.reduceEqDiff, ↓bnd_h, ↓lt_h, ↓ite_h, bh_some, lh_eq, ih_T, ih_F, ne_eq, not_false_eq_true, not_true_eq_false, eq_self, and_true, true_and, io_def, io_add, io_mul, io_sub, io_lt, io_le, io_eq, io_clamp, io_inbT, io_div, io_mod, io_m1, m1_io, m1_lt, m1_le, neg_1, gI_m1]
      refine rec (i + 1) U ⟨rfl, by omega, fun j hj hne => ?_⟩ (by omega)
      by_cases e : j = i
      · subst e; exact absurd q hne
      · exact hE j (by omega) hne
    · simp -dsimp (disch := first | assumption | omega) only [lit_0, lit_1, lit_2, lit_3, lit_4, lit_5, lit_6, lit_7, lit_8, lit_9, lit_10, lit_11, lit_12, lit_13, lit_14, lit_15, lit_16, lit_17, lit_18, lit_19, lit_20, lit_21, lit_22, lit_23, lit_24, lit_25, lit_26, lit_27, lit_28, lit_29, lit_30, lit_31, lit_32, lit_33, lit_34, lit_35, lit_36, lit_37, lit_38, lit_39, lit_40, lit_41, lit_42, lit_43, lit_44, lit_45, lit_46, lit_47, lit_48, lit_49, lit_50, lit_51, lit_52, lit_53, lit_54, lit_55, lit_56, lit_57, lit_58, lit_59, lit_60, lit_61, lit_62, lit_63, lit_64, lit_97, lit_99, lit_100, lit_122, lit_175, lit_176, lit_200, lit_255, lit_400, lit_700, lit_800, lit_999, lit_1000, lit_1400, lit_2000, lit_2033, lit_2038, lit_2100, lit_2124, lit_8000, lit_10000, lit_12345, lit_32767, lit_1000000, lit_1000000000, ↓bndX_h, ↓bndK_h, bxh_inl, bxh_inr, bkh_inl, bkh_inr, Nat.reduceEqDiff, ↓bnd_h, ↓lt_h, ↓ite_h, bh_some, lh_eq, ih_T, ih_F, ne_eq, not_false_eq_true, not_true_eq_false, eq_self, and_true, true_and, io_def, io_add, io_mul, io_sub, io_lt, io_le, io_eq, io_clamp, io_inbT, io_div, io_mod, io_m1, m1_io, m1_lt, m1_le, neg_1, gI_m1, and_io]
      refine Wp.csh (fun q2 => ?_) (fun q2 => ?_)
      · exact Wp.ret ⟨Or.inr ⟨rfl, fun hA => hA i hi2 q q2⟩, rfl⟩
      · simp -dsimp (disch := first | assumption | omega) only [lit_0, lit_1, lit_2, lit_3, lit_4, lit_5, lit_6, lit_7, lit_8, lit_9, lit_10, lit_11, lit_12, lit_13, lit_14, lit_15, lit_16, lit_17, lit_18, lit_19, lit_20, lit_21, lit_22, lit_23, lit_24, lit_25, lit_26, lit_27, lit_28, lit_29, lit_30, lit_31, lit_32, lit_33, lit_34, lit_35, lit_36, lit_37, lit_38, lit_39, lit_40, lit_41, lit_42, lit_43, lit_44, lit_45, lit_46, lit_47, lit_48, lit_49, lit_50, lit_51, lit_52, lit_53, lit_54, lit_55, lit_56, lit_57, lit_58, lit_59, lit_60, lit_61, lit_62, lit_63, lit_64, lit_97, lit_99, lit_100, lit_122, lit_175, lit_176, lit_200, lit_255, lit_400, lit_700, lit_800, lit_999, lit_1000, lit_1400, lit_2000, lit_2033, lit_2038, lit_2100, lit_2124, lit_8000, lit_10000, lit_12345, lit_32767, lit_1000000, lit_1000000000, ↓bndX_h, ↓bndK_h, bxh_inl, bxh_inr, bkh_inl, bkh_inr, Nat.reduceEqDiff, ↓bnd_h, ↓lt_h, ↓ite_h, bh_some, lh_eq, ih_T, ih_F, ne_eq, not_false_eq_true, not_true_eq_false, eq_self, and_true, true_and, io_def, io_add, io_mul, io_sub, io_lt, io_le, io_eq, io_clamp, io_inbT, io_div, io_mod, io_m1, m1_io, m1_lt, m1_le, neg_1, gI_m1]
        refine rec (i + 1) U ⟨rfl, by omega, fun j hj hne => ?_⟩ (by omega)
        by_cases e : j = i
        · subst e; exact q2
        · exact hE j (by omega) hne
theorem m_explainsAll {N : Mem} {g S n : Nat} {f : Nat → Nat} (hg : g < 2) (hP : PM N) (e85 : mI N 85 g = io n) (hn : n ≤ 200) (hm : ∀ i, i < n → mI N 101 i = io (f i) ∧ f i < 256) (hS : S < 256) :
    Wp (zX12_explainsAll 72 (io g) (io S) N) (fun x U => ((x = io 1 ∧ exA f S n) ∨ (x = io 0 ∧ ¬ exA f S n)) ∧ U = N) := by
  unfold zX12_explainsAll
  rw [if_pos K0_72]
  refine loopW (L := fun f (i : Nat) U => zX12_explainsAll_L2 f 72 (io g) (io S) (io i) U) (J := fun i U => U = N ∧ i ≤ n ∧ exA f S i) (fun i _ => n - i) ?_ FU 0 N ⟨rfl, Nat.zero_le _, fun i hi => absurd hi (Nat.not_lt_zero _)⟩ (by rw [FU_val]; omega)
  intro fu i U ⟨hU, hi, hE⟩ rec
  subst hU
  show Wp (zX12_explainsAll_B2 _ _ _ _ _ _) _
  unfold zX12_explainsAll_B2 zX12_explainsAll_B34
  simp -dsimp (disch := first | assumption | omega) only [lit_0, lit_1, lit_2, lit_3, lit_4, lit_5, lit_6, lit_7, lit_8, lit_9, lit_10, lit_11, lit_12, lit_13, lit_14, lit_15, lit_16, lit_17, lit_18, lit_19, lit_20, lit_21, lit_22, lit_23, lit_24, lit_25, lit_26, lit_27, lit_28, lit_29, lit_30, lit_31, lit_32, lit_33, lit_34, lit_35, lit_36, lit_37, lit_38, lit_39, lit_40, lit_41, lit_42, lit_43, lit_44, lit_45, lit_46, lit_47, lit_48, lit_49, lit_50, lit_51, lit_52, lit_53, lit_54, lit_55, lit_56, lit_57, lit_58, lit_59, lit_60, lit_61, lit_62, lit_63, lit_64, lit_97, lit_99, lit_100, lit_122, lit_175, lit_176, lit_200, lit_255, lit_400, lit_700, lit_800, lit_999, lit_1000, lit_1400, lit_2000, lit_2033, lit_2038, lit_2100, lit_2124, lit_8000, lit_10000, lit_12345, lit_32767, lit_1000000, lit_1000000000, ↓bndX_h, ↓bndK_h, bxh_inl, bxh_inr, bkh_inl, bkh_inr, Nat.reduceEqDiff, ↓bnd_h, ↓lt_h, ↓ite_h, bh_some, lh_eq, ih_T, ih_F, ne_eq, not_false_eq_true, not_true_eq_false, eq_self, and_true, true_and, io_def, io_add, io_mul, io_sub, io_lt, io_le, io_eq, io_clamp, io_inbT, io_div, io_mod, io_m1, m1_io, m1_lt, m1_le, neg_1, gI_m1, PM.p0, PM.p1, PM.p3, PM.p4, PM.p5, PM.p6, PM.p7, PM.p8, PM.p9, PM.p10, PM.p11, PM.p12, PM.p13, PM.p14, PM.p15, PM.p16, PM.p17, PM.p18, PM.p19, PM.p31, PM.p32, PM.p33, PM.p34, PM.p38, PM.p39, PM.p40, PM.p41, PM.p42, PM.p46, PM.p47, PM.p50, PM.p51, PM.p52, PM.p53, PM.p54, PM.p55, PM.p56, PM.p57, K0_1, K0_2, K0_3, K0_4, K0_5, K0_6, K0_7, K0_8, K0_9, K0_10, K0_11, K0_12, K0_13, K0_14, K0_15, K0_16, K0_17, K0_18, K0_19, K0_20, K0_21, K0_22, K0_23, K0_24, K0_25, K0_26, K0_27, K0_28, K0_29, K0_30, K0_31, K0_32, K0_33, K0_34, K0_35, K0_36, K0_37, K0_38, K0_39, K0_40, K0_41, K0_42, K0_43, K0_44, K0_45, K0_46, K0_47, K0_48, K0_49, K0_50, K0_51, K0_52, K0_53, K0_54, K0_55, K0_56, K0_57, K0_58, K0_59, K0_60, K0_61, K0_62, K0_63, K0_64, K0_65, K0_66, K0_67, K0_68, K0_69, K0_70, K0_71, K0_72, K0_73, K0_74, K0_75, K0_76, K0_77, K0_78, K0_79, K0_80, K0_81, K0_82, K0_83, K0_84, K0_85, K0_86, K0_87, K0_88, K0_89, K0_90, K0_91, K0_92, K0_93, K0_94, K0_95, K0_96, K0_97, K0_98, K0_99, K0_100, K0_101, K0_102, K0_103, K0_104, K0_105, K0_106, K0_107, K0_108, K0_109, K0_110, K0_111, hP, e85]
  refine Wp.csh (fun c => ?_) (fun c => ?_)
  · have : i = n := by omega
    subst this
    exact Wp.ret ⟨Or.inl ⟨rfl, hE⟩, rfl⟩
  · have hi2 : i < n := by omega
    obtain ⟨e1, e2⟩ := hm i hi2
    have hand : f i &&& S < 2147483648 := Nat.lt_of_le_of_lt Nat.and_le_left (by omega)
    simp -dsimp (disch := first | assumption | omega) only [lit_0, lit_1, lit_2, lit_3, lit_4, lit_5, lit_6, lit_7, lit_8, lit_9, lit_10, lit_11, lit_12, lit_13, lit_14, lit_15, lit_16, lit_17, lit_18, lit_19, lit_20, lit_21, lit_22, lit_23, lit_24, lit_25, lit_26, lit_27, lit_28, lit_29, lit_30, lit_31, lit_32, lit_33, lit_34, lit_35, lit_36, lit_37, lit_38, lit_39, lit_40, lit_41, lit_42, lit_43, lit_44, lit_45, lit_46, lit_47, lit_48, lit_49, lit_50, lit_51, lit_52, lit_53, lit_54, lit_55, lit_56, lit_57, lit_58, lit_59, lit_60, lit_61, lit_62, lit_63, lit_64, lit_97, lit_99, lit_100, lit_122, lit_175, lit_176, lit_200, lit_255, lit_400, lit_700, lit_800, lit_999, lit_1000, lit_1400, lit_2000, lit_2033, lit_2038, lit_2100, lit_2124, lit_8000, lit_10000, lit_12345, lit_32767, lit_1000000, lit_1000000000, ↓bndX_h, ↓bndK_h, bxh_inl, bxh_inr, bkh_inl, bkh_inr, Nat.reduceEqDiff, ↓bnd_h, ↓lt_h, ↓ite_h, bh_some, lh_eq, ih_T, ih_F, ne_eq, not_false_eq_true, not_true_eq_false, eq_self, and_true, true_and, io_def, io_add, io_mul, io_sub, io_lt, io_le, io_eq, io_clamp, io_inbT, io_div, io_mod, io_m1, m1_io, m1_lt, m1_le, neg_1, gI_m1, PM.p0, PM.p1, PM.p3, PM.p4, PM.p5, PM.p6, PM.p7, PM.p8, PM.p9, PM.p10, PM.p11, PM.p12, PM.p13, PM.p14, PM.p15, PM.p16, PM.p17, PM.p18, PM.p19, PM.p31, PM.p32, PM.p33, PM.p34, PM.p38, PM.p39, PM.p40, PM.p41, PM.p42, PM.p46, PM.p47, PM.p50, PM.p51, PM.p52, PM.p53, PM.p54, PM.p55, PM.p56, PM.p57, K0_1, K0_2, K0_3, K0_4, K0_5, K0_6, K0_7, K0_8, K0_9, K0_10, K0_11, K0_12, K0_13, K0_14, K0_15, K0_16, K0_17, K0_18, K0_19, K0_20, K0_21, K0_22, K0_23, K0_24, K0_25, K0_26, K0_27, K0_28, K0_29, K0_30, K0_31, K0_32, K0_33, K0_34, K0_35, K0_36, K0_37, K0_38, K0_39, K0_40, K0_41, K0_42, K0_43, K0_44, K0_45, K0_46, K0_47, K0_48, K0_49, K0_50, K0_51, K0_52, K0_53, K0_54, K0_55, K0_56, K0_57, K0_58, K0_59, K0_60, K0_61, K0_62, K0_63, K0_64, K0_65, K0_66, K0_67, K0_68, K0_69, K0_70, K0_71, K0_72, K0_73, K0_74, K0_75, K0_76, K0_77, K0_78, K0_79, K0_80, K0_81, K0_82, K0_83, K0_84, K0_85, K0_86, K0_87, K0_88, K0_89, K0_90, K0_91, K0_92, K0_93, K0_94, K0_95, K0_96, K0_97, K0_98, K0_99, K0_100, K0_101, K0_102, K0_103, K0_104, K0_105, K0_106, K0_107, K0_108, K0_109, K0_110, K0_111, hP, e1]
    refine Wp.csh (fun q => ?_) (fun q => ?_)
    · simp -dsimp (disch := first | assumption | omega) only [lit_0, lit_1, lit_2, lit_3, lit_4, lit_5, lit_6, lit_7, lit_8, lit_9, lit_10, lit_11, lit_12, lit_13, lit_14, lit_15, lit_16, lit_17, lit_18, lit_19, lit_20, lit_21, lit_22, lit_23, lit_24, lit_25, lit_26, lit_27, lit_28, lit_29, lit_30, lit_31, lit_32, lit_33, lit_34, lit_35, lit_36, lit_37, lit_38, lit_39, lit_40, lit_41, lit_42, lit_43, lit_44, lit_45, lit_46, lit_47, lit_48, lit_49, lit_50, lit_51, lit_52, lit_53, lit_54, lit_55, lit_56, lit_57, lit_58, lit_59, lit_60, lit_61, lit_62, lit_63, lit_64, lit_97, lit_99, lit_100, lit_122, lit_175, lit_176, lit_200, lit_255, lit_400, lit_700, lit_800, lit_999, lit_1000, lit_1400, lit_2000, lit_2033, lit_2038, lit_2100, lit_2124, lit_8000, lit_10000, lit_12345, lit_32767, lit_1000000, lit_1000000000, ↓bndX_h, ↓bndK_h, bxh_inl, bxh_inr, bkh_inl, bkh_inr, Nat.reduceEqDiff, ↓bnd_h, ↓lt_h, ↓ite_h, bh_some, lh_eq, ih_T, ih_F, ne_eq, not_false_eq_true, not_true_eq_false, eq_self, and_true, true_and, io_def, io_add, io_mul, io_sub, io_lt, io_le, io_eq, io_clamp, io_inbT, io_div, io_mod, io_m1, m1_io, m1_lt, m1_le, neg_1, gI_m1, PM.p0, PM.p1, PM.p3, PM.p4, PM.p5, PM.p6, PM.p7, PM.p8, PM.p9, PM.p10, PM.p11, PM.p12, PM.p13, PM.p14, PM.p15, PM.p16, PM.p17, PM.p18, PM.p19, PM.p31, PM.p32, PM.p33, PM.p34, PM.p38, PM.p39, PM.p40, PM.p41, PM.p42, PM.p46, PM.p47, PM.p50, PM.p51, PM.p52, PM.p53, PM.p54, PM.p55, PM.p56, PM.p57, K0_1, K0_2, K0_3, K0_4, K0_5, K0_6, K0_7, K0_8, K0_9, K0_10, K0_11, K0_12, K0_13, K0_14, K0_15, K0_16, K0_17, K0_18, K0_19, K0_20, K0_21, K0_22, K0_23, K0_24, K0_25, K0_26, K0_27, K0_28, K0_29, K0_30, K0_31, K0_32, K0_33, K0_34, K0_35, K0_36, K0_37, K0_38, K0_39, K0_40, K0_41, K0_42, K0_43, K0_44, K0_45, K0_46, K0_47, K0_48, K0_49, K0_50, K0_51, K0_52, K0_53, K0_54, K0_55, K0_56, K0_57, K0_58, K0_59, K0_60, K0_61, K0_62, K0_63, K0_64, K0_65, K0_66, K0_67, K0_68, K0_69, K0_70, K0_71, K0_72, K0_73, K0_74, K0_75, K0_76, K0_77, K0_78, K0_79, K0_80, K0_81, K0_82, K0_83, K0_84, K0_85, K0_86, K0_87, K0_88, K0_89, K0_90, K0_91, K0_92, K0_93, K0_94, K0_95, K0_96, K0_97, K0_98, K0_99, K0_100, K0_101, K0_102, K0_103, K0_104, K0_105, K0_106, K0_107, K0_108, K0_109, K0_110, K0_111]
      refine rec (i + 1) U ⟨rfl, by omega, fun j hj hne => ?_⟩ (by omega)
      by_cases e : j = i
      · subst e; exact absurd q hne
      · exact hE j (by omega) hne
    · simp -dsimp (disch := first | assumption | omega) only [lit_0, lit_1, lit_2, lit_3, lit_4, lit_5, lit_6, lit_7, lit_8, lit_9, lit_10, lit_11, lit_12, lit_13, lit_14, lit_15, lit_16, lit_17, lit_18, lit_19, lit_20, lit_21, lit_22, lit_23, lit_24, lit_25, lit_26, lit_27, lit_28, lit_29, lit_30, lit_31, lit_32, lit_33, lit_34, lit_35, lit_36, lit_37, lit_38, lit_39, lit_40, lit_41, lit_42, lit_43, lit_44, lit_45, lit_46, lit_47, lit_48, lit_49, lit_50, lit_51, lit_52, lit_53, lit_54, lit_55, lit_56, lit_57, lit_58, lit_59, lit_60, lit_61, lit_62, lit_63, lit_64, lit_97, lit_99, lit_100, lit_122, lit_175, lit_176, lit_200, lit_255, lit_400, lit_700, lit_800, lit_999, lit_1000, lit_1400, lit_2000, lit_2033, lit_2038, lit_2100, lit_2124, lit_8000, lit_10000, lit_12345, lit_32767, lit_1000000, lit_1000000000, ↓bndX_h, ↓bndK_h, bxh_inl, bxh_inr, bkh_inl, bkh_inr, Nat.reduceEqDiff, ↓bnd_h, ↓lt_h, ↓ite_h, bh_some, lh_eq, ih_T, ih_F, ne_eq, not_false_eq_true, not_true_eq_false, eq_self, and_true, true_and, io_def, io_add, io_mul, io_sub, io_lt, io_le, io_eq, io_clamp, io_inbT, io_div, io_mod, io_m1, m1_io, m1_lt, m1_le, neg_1, gI_m1, PM.p0, PM.p1, PM.p3, PM.p4, PM.p5, PM.p6, PM.p7, PM.p8, PM.p9, PM.p10, PM.p11, PM.p12, PM.p13, PM.p14, PM.p15, PM.p16, PM.p17, PM.p18, PM.p19, PM.p31, PM.p32, PM.p33, PM.p34, PM.p38, PM.p39, PM.p40, PM.p41, PM.p42, PM.p46, PM.p47, PM.p50, PM.p51, PM.p52, PM.p53, PM.p54, PM.p55, PM.p56, PM.p57, K0_1, K0_2, K0_3, K0_4, K0_5, K0_6, K0_7, K0_8, K0_9, K0_10, K0_11, K0_12, K0_13, K0_14, K0_15, K0_16, K0_17, K0_18, K0_19, K0_20, K0_21, K0_22, K0_23, K0_24, K0_25, K0_26, K0_27, K0_28, K0_29, K0_30, K0_31, K0_32, K0_33, K0_34, K0_35, K0_36, K0_37, K0_38, K0_39, K0_40, K0_41, K0_42, K0_43, K0_44, K0_45, K0_46, K0_47, K0_48, K0_49, K0_50, K0_51, K0_52, K0_53, K0_54, K0_55, K0_56, K0_57, K0_58, K0_59, K0_60, K0_61, K0_62, K0_63, K0_64, K0_65, K0_66, K0_67, K0_68, K0_69, K0_70, K0_71, K0_72, K0_73, K0_74, K0_75, K0_76, K0_77, K0_78, K0_79, K0_80, K0_81, K0_82, K0_83, K0_84, K0_85, K0_86, K0_87, K0_88, K0_89, K0_90, K0_91, K0_92, K0_93, K0_94, K0_95, K0_96, K0_97, K0_98, K0_99, K0_100, K0_101, K0_102, K0_103, K0_104, K0_105, K0_106, K0_107, K0_108, K0_109, K0_110, K0_111, hP, e1, and_io]
      refine Wp.csh (fun q2 => ?_) (fun q2 => ?_)
      · exact Wp.ret ⟨Or.inr ⟨rfl, fun hA => hA i hi2 q q2⟩, rfl⟩
      · simp -dsimp (disch := first | assumption | omega) only [lit_0, lit_1, lit_2, lit_3, lit_4, lit_5, lit_6, lit_7, lit_8, lit_9, lit_10, lit_11, lit_12, lit_13, lit_14, lit_15, lit_16, lit_17, lit_18, lit_19, lit_20, lit_21, lit_22, lit_23, lit_24, lit_25, lit_26, lit_27, lit_28, lit_29, lit_30, lit_31, lit_32, lit_33, lit_34, lit_35, lit_36, lit_37, lit_38, lit_39, lit_40, lit_41, lit_42, lit_43, lit_44, lit_45, lit_46, lit_47, lit_48, lit_49, lit_50, lit_51, lit_52, lit_53, lit_54, lit_55, lit_56, lit_57, lit_58, lit_59, lit_60, lit_61, lit_62, lit_63, lit_64, lit_97, lit_99, lit_100, lit_122, lit_175, lit_176, lit_200, lit_255, lit_400, lit_700, lit_800, lit_999, lit_1000, lit_1400, lit_2000, lit_2033, lit_2038, lit_2100, lit_2124, lit_8000, lit_10000, lit_12345, lit_32767, lit_1000000, lit_1000000000, ↓bndX_h, ↓bndK_h, bxh_inl, bxh_inr, bkh_inl, bkh_inr, Nat.reduceEqDiff, ↓bnd_h, ↓lt_h, ↓ite_h, bh_some, lh_eq, ih_T, ih_F, ne_eq, not_false_eq_true, not_true_eq_false, eq_self, and_true, true_and, io_def, io_add, io_mul, io_sub, io_lt, io_le, io_eq, io_clamp, io_inbT, io_div, io_mod, io_m1, m1_io, m1_lt, m1_le, neg_1, gI_m1, PM.p0, PM.p1, PM.p3, PM.p4, PM.p5, PM.p6, PM.p7, PM.p8, PM.p9, PM.p10, PM.p11, PM.p12, PM.p13, PM.p14, PM.p15, PM.p16, PM.p17, PM.p18, PM.p19, PM.p31, PM.p32, PM.p33, PM.p34, PM.p38, PM.p39, PM.p40, PM.p41, PM.p42, PM.p46, PM.p47, PM.p50, PM.p51, PM.p52, PM.p53, PM.p54, PM.p55, PM.p56, PM.p57, K0_1, K0_2, K0_3, K0_4, K0_5, K0_6, K0_7, K0_8, K0_9, K0_10, K0_11, K0_12, K0_13, K0_14, K0_15, K0_16, K0_17, K0_18, K0_19, K0_20, K0_21, K0_22, K0_23, K0_24, K0_25, K0_26, K0_27, K0_28, K0_29, K0_30, K0_31, K0_32, K0_33, K0_34, K0_35, K0_36, K0_37, K0_38, K0_39, K0_40, K0_41, K0_42, K0_43, K0_44, K0_45, K0_46, K0_47, K0_48, K0_49, K0_50, K0_51, K0_52, K0_53, K0_54, K0_55, K0_56, K0_57, K0_58, K0_59, K0_60, K0_61, K0_62, K0_63, K0_64, K0_65, K0_66, K0_67, K0_68, K0_69, K0_70, K0_71, K0_72, K0_73, K0_74, K0_75, K0_76, K0_77, K0_78, K0_79, K0_80, K0_81, K0_82, K0_83, K0_84, K0_85, K0_86, K0_87, K0_88, K0_89, K0_90, K0_91, K0_92, K0_93, K0_94, K0_95, K0_96, K0_97, K0_98, K0_99, K0_100, K0_101, K0_102, K0_103, K0_104, K0_105, K0_106, K0_107, K0_108, K0_109, K0_110, K0_111]
        refine rec (i + 1) U ⟨rfl, by omega, fun j hj hne => ?_⟩ (by omega)
        by_cases e : j = i
        · subst e; exact q2
        · exact hE j (by omega) hne
def leF (S T : Nat) : Prop := pcN S < pcN T ∨ (pcN S = pcN T ∧ S ≤ T)
/-- S is the least set that EXPLAINS, among the ones below w -/
def isF (f : Nat → Nat) (n w S : Nat) : Prop := S < w ∧ exA f S n ∧ ∀ T, T < w → exA f T n → leF S T
theorem isF_one {f : Nat → Nat} {n w S T : Nat} (h : isF f n w S) (h' : isF f n w T) : S = T := by
  have a := h.2.2 T h'.1 h'.2.1
  have b := h'.2.2 S h.1 h.2.1
  unfold leF at a b
  omega
theorem exA_mod {f : Nat → Nat} {n k T : Nat} (hf : ∀ i, i < n → f i < 2 ^ k) (h : exA f T n) : exA f (T % 2 ^ k) n := by
  intro i hi hne
  have e : f i &&& (T % 2 ^ k) = f i &&& T := by
    apply Nat.eq_of_testBit_eq
    intro j
    rw [Nat.testBit_and, Nat.testBit_and, Nat.testBit_mod_two_pow]
    by_cases c : j < k
    · simp [c]
    · have : (f i).testBit j = false := Nat.testBit_lt_two_pow (Nat.lt_of_lt_of_le (hf i hi) (Nat.pow_le_pow_right (by decide) (by omega)))
      simp [this]
  rw [e]
  exact h i hi hne
theorem isF_up {f : Nat → Nat} {n k S : Nat} (hk : k ≤ 8) (hf : ∀ i, i < n → f i < 2 ^ k) (h : isF f n (2 ^ k) S) : isF f n 256 S := by
  have h8 := pow_lt8 hk
  refine ⟨by have := h.1; omega, h.2.1, fun T hT hE => ?_⟩
  have a := h.2.2 (T % 2 ^ k) (Nat.mod_lt _ (Nat.two_pow_pos k)) (exA_mod hf hE)
  have b := pcm_dec ⟨k, by omega⟩ ⟨T, hT⟩
  have c := Nat.mod_le T (2 ^ k)
  simp only at b
  unfold leF at a ⊢
  generalize T % 2 ^ k = w at a b c
  omega
theorem exA_full {f : Nat → Nat} {n k : Nat} (hf : ∀ i, i < n → f i < 2 ^ k) : exA f (2 ^ k - 1) n := by
  intro i hi hne
  rw [Nat.and_two_pow_sub_one_eq_mod, Nat.mod_eq_of_lt (hf i hi)]
  exact hne
