/-! ===== LEVEL 2: rest ===== -/
def btI (x : Int64) (u : Nat) : Bool := x.toBitVec.getLsbD u
theorem bt_or (x y : Int64) (u : Nat) : btI (x ||| y) u = (btI x u || btI y u) := by
  unfold btI
  rw [Int64.toBitVec_or, BitVec.getLsbD_or]
theorem bt_zero (u : Nat) : btI 0 u = false := by
  unfold btI
  show (0#64).getLsbD u = false
  exact BitVec.getLsbD_zero
theorem shl_bit_dec : ∀ k : Fin 64, ∀ u : Fin 64, btI (lshl 1 (io k.val)) u.val = decide (u.val = k.val) := by decide +kernel
theorem bt_shl {k u : Nat} (hk : k < 64) (hu : u < 64) : btI (lshl 1 (io k)) u = decide (u = k) := shl_bit_dec ⟨k, hk⟩ ⟨u, hu⟩
theorem shr_n_dec : ∀ k : Fin 64, (((io k.val).toInt64 &&& 63).toBitVec.smod 64).toNat = k.val := by decide +kernel
theorem lshr_bv {x : Int64} {k : Nat} (hk : k < 64) : (lshr x (io k)).toBitVec = x.toBitVec.sshiftRight k := by
  show x.toBitVec.sshiftRight (((io k).toInt64 &&& 63).toBitVec.smod 64).toNat = _
  rw [shr_n_dec ⟨k, hk⟩]
theorem bt_shr {x : Int64} {k : Nat} (hk : k < 64) : lshr x (io k) &&& 1 = if btI x k = true then 1 else 0 := by
  apply Int64.toBitVec_inj.1
  rw [Int64.toBitVec_and, lshr_bv hk]
  have h1 : (1 : Int64).toBitVec = 1#64 := rfl
  have e : x.toBitVec.sshiftRight k &&& 1#64 = if btI x k = true then 1#64 else 0#64 := by
    apply BitVec.eq_of_getLsbD_eq
    intro i hi
    rw [BitVec.getLsbD_and, BitVec.getLsbD_sshiftRight]
    unfold btI
    by_cases q : i = 0
    · subst q
      have h2 : k + 0 < 64 := by omega
      cases hc : x.toBitVec.getLsbD k <;> simp [h2, hc, hk, Nat.not_le.mpr hk]
    · have h3 : (1#64).getLsbD i = false := by
        rw [BitVec.getLsbD_one]
        simp [q]
      rw [h3, Bool.and_false]
      split
      · exact h3.symm
      · exact BitVec.getLsbD_zero.symm
  rw [h1, e]
  split <;> rfl
theorem c_B38 {x : Int64} {k : Nat} {M : Mem} (hk : k < 64) : zX7_reaches_B38 (lshr x (io k)) M = some (io (if btI x k = true then 1 else 0), M) := by
  unfold zX7_reaches_B38
  rw [bt_shr hk]
  cases btI x k <;> rfl
theorem mL_same {M : Mem} {o k : Nat} {v : Int64} : mL (sL M o k v) o k = v := by rw [mL_sL, if_pos ⟨rfl, rfl⟩]
theorem mL_diff {M : Mem} {o k p j : Nat} {v : Int64} (h : p ≠ o ∨ j ≠ k) : mL (sL M o k v) p j = mL M p j := by rw [mL_sL, if_neg (by omega)]
/-- the class's rows, of the first k STATES -/
def CRw (k : Nat) (M : Mem) (T : Nat → Nat → Bool) : Prop := ∀ a, a < k → ∀ u, u < 64 → btI (mL M 64 a) u = T a u ∧ btI (mL M 65 a) u = T a (u + 64)
theorem CRw.congr {k : Nat} {M : Mem} {T T' : Nat → Nat → Bool} (h : CRw k M T) (e : ∀ a u, a < k → T a u = T' a u) : CRw k M T' := fun a ha u hu => by
  rw [← e a u ha, ← e a (u + 64) ha]
  exact h a ha u hu
theorem CRw.keep {k : Nat} {M M' : Mem} {T : Nat → Nat → Bool} (h : CRw k M T) (e : ∀ o j, 64 ≤ o → o ≤ 65 → mL M' o j = mL M o j) : CRw k M' T := fun a ha u hu => by
  rw [e 64 a (by omega) (by omega), e 65 a (by omega) (by omega)]
  exact h a ha u hu
def P63 (M : Mem) : Prop := mR M 63 0 = 41 ∧ mR M 63 1 = 64 ∧ mR M 63 2 = 65
theorem P63.F {M M' : Mem} {p : List (Nat × Nat)} (h : P63 M) (hF : Fg p [] M M') : P63 M' := ⟨(hF.2.2 _ rfl _).trans h.1, (hF.2.2 _ rfl _).trans h.2.1, (hF.2.2 _ rfl _).trans h.2.2⟩
theorem c_isRow {M : Mem} {a : Nat} (h : P63 M) (ha : a < 100) : zX7_isRow 63 (io a) M = some (io 1, M) := by
  obtain ⟨-, p1, p2⟩ := h
  have hna : ¬ 100 ≤ a := by omega
  unfold zX7_isRow
  simp -dsimp (disch := first | assumption | omega) only [lit_0, lit_1, lit_2, lit_3, lit_4, lit_5, lit_6, lit_7, lit_8, lit_9, lit_10, lit_11, lit_12, lit_13, lit_14, lit_15, lit_16, lit_17, lit_18, lit_19, lit_20, lit_21, lit_22, lit_23, lit_24, lit_25, lit_26, lit_27, lit_28, lit_29, lit_30, lit_31, lit_32, lit_33, lit_34, lit_35, lit_36, lit_37, lit_38, lit_39, lit_40, lit_41, lit_42, lit_43, lit_44, lit_45, lit_46, lit_47, lit_48, lit_49, lit_50, lit_51, lit_52, lit_53, lit_54, lit_55, lit_56, lit_57, lit_58, lit_59, lit_60, lit_61, lit_62, lit_63, lit_64, lit_97, lit_99, lit_100, lit_122, lit_175, lit_176, lit_200, lit_255, lit_400, lit_700, lit_800, lit_999, lit_1000, lit_1400, lit_2000, lit_2033, lit_2038, lit_2100, lit_2124, lit_8000, lit_10000, lit_12345, lit_32767, lit_1000000, lit_1000000000, ↓bndX_h, ↓bndK_h, bxh_inl, bxh_inr, bkh_inl, bkh_inr, Nat.reduceEqDiff, ↓bnd_h, ↓lt_h, ↓ite_h, bh_some, lh_eq, ih_T, ih_F, ne_eq, not_false_eq_true, not_true_eq_false, eq_self, and_true, true_and, io_def, io_add, io_mul, io_sub, io_lt, io_le, io_eq, io_clamp, io_inbT, io_div, io_mod, io_m1, m1_io, m1_lt, m1_le, neg_1, gI_m1, K0_1, K0_2, K0_3, K0_4, K0_5, K0_6, K0_7, K0_8, K0_9, K0_10, K0_11, K0_12, K0_13, K0_14, K0_15, K0_16, K0_17, K0_18, K0_19, K0_20, K0_21, K0_22, K0_23, K0_24, K0_25, K0_26, K0_27, K0_28, K0_29, K0_30, K0_31, K0_32, K0_33, K0_34, K0_35, K0_36, K0_37, K0_38, K0_39, K0_40, K0_41, K0_42, K0_43, K0_44, K0_45, K0_46, K0_47, K0_48, K0_49, K0_50, K0_51, K0_52, K0_53, K0_54, K0_55, K0_56, K0_57, K0_58, K0_59, K0_60, K0_61, K0_62, K0_63, K0_64, K0_65, K0_66, K0_67, K0_68, K0_69, K0_70, K0_71, K0_72, K0_73, K0_74, K0_75, K0_76, K0_77, K0_78, K0_79, K0_80, K0_81, K0_82, K0_83, K0_84, K0_85, K0_86, K0_87, K0_88, K0_89, K0_90, K0_91, K0_92, K0_93, K0_94, K0_95, K0_96, K0_97, K0_98, K0_99, K0_100, K0_101, K0_102, K0_103, K0_104, K0_105, K0_106, K0_107, K0_108, K0_109, K0_110, K0_111, p1, p2, Nat.not_lt_zero, hna]
theorem c_reaches {M : Mem} {k a u : Nat} {T : Nat → Nat → Bool} (h : P63 M) (hT : CRw k M T) (hk : k ≤ 100) (ha : a < k) (hu : u < 100) : zX7_reaches 63 (io a) (io u) M = some (io (if T a u = true then 1 else 0), M) := by
  have e1 := c_isRow (a := a) h (by omega)
  obtain ⟨-, p1, p2⟩ := h
  refine Wp.eq ?_
  unfold zX7_reaches
  simp -dsimp (disch := first | assumption | omega) only [lit_0, lit_1, lit_2, lit_3, lit_4, lit_5, lit_6, lit_7, lit_8, lit_9, lit_10, lit_11, lit_12, lit_13, lit_14, lit_15, lit_16, lit_17, lit_18, lit_19, lit_20, lit_21, lit_22, lit_23, lit_24, lit_25, lit_26, lit_27, lit_28, lit_29, lit_30, lit_31, lit_32, lit_33, lit_34, lit_35, lit_36, lit_37, lit_38, lit_39, lit_40, lit_41, lit_42, lit_43, lit_44, lit_45, lit_46, lit_47, lit_48, lit_49, lit_50, lit_51, lit_52, lit_53, lit_54, lit_55, lit_56, lit_57, lit_58, lit_59, lit_60, lit_61, lit_62, lit_63, lit_64, lit_97, lit_99, lit_100, lit_122, lit_175, lit_176, lit_200, lit_255, lit_400, lit_700, lit_800, lit_999, lit_1000, lit_1400, lit_2000, lit_2033, lit_2038, lit_2100, lit_2124, lit_8000, lit_10000, lit_12345, lit_32767, lit_1000000, lit_1000000000, ↓bndX_h, ↓bndK_h, bxh_inl, bxh_inr, bkh_inl, bkh_inr, Nat.reduceEqDiff, ↓bnd_h, ↓lt_h, ↓ite_h, bh_some, lh_eq, ih_T, ih_F, ne_eq, not_false_eq_true, not_true_eq_false, eq_self, and_true, true_and, io_def, io_add, io_mul, io_sub, io_lt, io_le, io_eq, io_clamp, io_inbT, io_div, io_mod, io_m1, m1_io, m1_lt, m1_le, neg_1, gI_m1, K0_1, K0_2, K0_3, K0_4, K0_5, K0_6, K0_7, K0_8, K0_9, K0_10, K0_11, K0_12, K0_13, K0_14, K0_15, K0_16, K0_17, K0_18, K0_19, K0_20, K0_21, K0_22, K0_23, K0_24, K0_25, K0_26, K0_27, K0_28, K0_29, K0_30, K0_31, K0_32, K0_33, K0_34, K0_35, K0_36, K0_37, K0_38, K0_39, K0_40, K0_41, K0_42, K0_43, K0_44, K0_45, K0_46, K0_47, K0_48, K0_49, K0_50, K0_51, K0_52, K0_53, K0_54, K0_55, K0_56, K0_57, K0_58, K0_59, K0_60, K0_61, K0_62, K0_63, K0_64, K0_65, K0_66, K0_67, K0_68, K0_69, K0_70, K0_71, K0_72, K0_73, K0_74, K0_75, K0_76, K0_77, K0_78, K0_79, K0_80, K0_81, K0_82, K0_83, K0_84, K0_85, K0_86, K0_87, K0_88, K0_89, K0_90, K0_91, K0_92, K0_93, K0_94, K0_95, K0_96, K0_97, K0_98, K0_99, K0_100, K0_101, K0_102, K0_103, K0_104, K0_105, K0_106, K0_107, K0_108, K0_109, K0_110, K0_111, e1]
  refine Wp.csh (fun c => ?_) (fun c => ?_)
  · have e := (hT a ha (u - 64) (by omega)).2
    rw [show u - 64 + 64 = u by omega] at e
    simp -dsimp (disch := first | assumption | omega) only [lit_0, lit_1, lit_2, lit_3, lit_4, lit_5, lit_6, lit_7, lit_8, lit_9, lit_10, lit_11, lit_12, lit_13, lit_14, lit_15, lit_16, lit_17, lit_18, lit_19, lit_20, lit_21, lit_22, lit_23, lit_24, lit_25, lit_26, lit_27, lit_28, lit_29, lit_30, lit_31, lit_32, lit_33, lit_34, lit_35, lit_36, lit_37, lit_38, lit_39, lit_40, lit_41, lit_42, lit_43, lit_44, lit_45, lit_46, lit_47, lit_48, lit_49, lit_50, lit_51, lit_52, lit_53, lit_54, lit_55, lit_56, lit_57, lit_58, lit_59, lit_60, lit_61, lit_62, lit_63, lit_64, lit_97, lit_99, lit_100, lit_122, lit_175, lit_176, lit_200, lit_255, lit_400, lit_700, lit_800, lit_999, lit_1000, lit_1400, lit_2000, lit_2033, lit_2038, lit_2100, lit_2124, lit_8000, lit_10000, lit_12345, lit_32767, lit_1000000, lit_1000000000, ↓bndX_h, ↓bndK_h, bxh_inl, bxh_inr, bkh_inl, bkh_inr, Nat.reduceEqDiff, ↓bnd_h, ↓lt_h, ↓ite_h, bh_some, lh_eq, ih_T, ih_F, ne_eq, not_false_eq_true, not_true_eq_false, eq_self, and_true, true_and, io_def, io_add, io_mul, io_sub, io_lt, io_le, io_eq, io_clamp, io_inbT, io_div, io_mod, io_m1, m1_io, m1_lt, m1_le, neg_1, gI_m1, K0_1, K0_2, K0_3, K0_4, K0_5, K0_6, K0_7, K0_8, K0_9, K0_10, K0_11, K0_12, K0_13, K0_14, K0_15, K0_16, K0_17, K0_18, K0_19, K0_20, K0_21, K0_22, K0_23, K0_24, K0_25, K0_26, K0_27, K0_28, K0_29, K0_30, K0_31, K0_32, K0_33, K0_34, K0_35, K0_36, K0_37, K0_38, K0_39, K0_40, K0_41, K0_42, K0_43, K0_44, K0_45, K0_46, K0_47, K0_48, K0_49, K0_50, K0_51, K0_52, K0_53, K0_54, K0_55, K0_56, K0_57, K0_58, K0_59, K0_60, K0_61, K0_62, K0_63, K0_64, K0_65, K0_66, K0_67, K0_68, K0_69, K0_70, K0_71, K0_72, K0_73, K0_74, K0_75, K0_76, K0_77, K0_78, K0_79, K0_80, K0_81, K0_82, K0_83, K0_84, K0_85, K0_86, K0_87, K0_88, K0_89, K0_90, K0_91, K0_92, K0_93, K0_94, K0_95, K0_96, K0_97, K0_98, K0_99, K0_100, K0_101, K0_102, K0_103, K0_104, K0_105, K0_106, K0_107, K0_108, K0_109, K0_110, K0_111, p1, p2]
    rw [c_B38 (by omega), e]
    exact Wp.ret ⟨rfl, rfl⟩
  · have e := (hT a ha u (by omega)).1
    simp -dsimp (disch := first | assumption | omega) only [lit_0, lit_1, lit_2, lit_3, lit_4, lit_5, lit_6, lit_7, lit_8, lit_9, lit_10, lit_11, lit_12, lit_13, lit_14, lit_15, lit_16, lit_17, lit_18, lit_19, lit_20, lit_21, lit_22, lit_23, lit_24, lit_25, lit_26, lit_27, lit_28, lit_29, lit_30, lit_31, lit_32, lit_33, lit_34, lit_35, lit_36, lit_37, lit_38, lit_39, lit_40, lit_41, lit_42, lit_43, lit_44, lit_45, lit_46, lit_47, lit_48, lit_49, lit_50, lit_51, lit_52, lit_53, lit_54, lit_55, lit_56, lit_57, lit_58, lit_59, lit_60, lit_61, lit_62, lit_63, lit_64, lit_97, lit_99, lit_100, lit_122, lit_175, lit_176, lit_200, lit_255, lit_400, lit_700, lit_800, lit_999, lit_1000, lit_1400, lit_2000, lit_2033, lit_2038, lit_2100, lit_2124, lit_8000, lit_10000, lit_12345, lit_32767, lit_1000000, lit_1000000000, ↓bndX_h, ↓bndK_h, bxh_inl, bxh_inr, bkh_inl, bkh_inr, Nat.reduceEqDiff, ↓bnd_h, ↓lt_h, ↓ite_h, bh_some, lh_eq, ih_T, ih_F, ne_eq, not_false_eq_true, not_true_eq_false, eq_self, and_true, true_and, io_def, io_add, io_mul, io_sub, io_lt, io_le, io_eq, io_clamp, io_inbT, io_div, io_mod, io_m1, m1_io, m1_lt, m1_le, neg_1, gI_m1, K0_1, K0_2, K0_3, K0_4, K0_5, K0_6, K0_7, K0_8, K0_9, K0_10, K0_11, K0_12, K0_13, K0_14, K0_15, K0_16, K0_17, K0_18, K0_19, K0_20, K0_21, K0_22, K0_23, K0_24, K0_25, K0_26, K0_27, K0_28, K0_29, K0_30, K0_31, K0_32, K0_33, K0_34, K0_35, K0_36, K0_37, K0_38, K0_39, K0_40, K0_41, K0_42, K0_43, K0_44, K0_45, K0_46, K0_47, K0_48, K0_49, K0_50, K0_51, K0_52, K0_53, K0_54, K0_55, K0_56, K0_57, K0_58, K0_59, K0_60, K0_61, K0_62, K0_63, K0_64, K0_65, K0_66, K0_67, K0_68, K0_69, K0_70, K0_71, K0_72, K0_73, K0_74, K0_75, K0_76, K0_77, K0_78, K0_79, K0_80, K0_81, K0_82, K0_83, K0_84, K0_85, K0_86, K0_87, K0_88, K0_89, K0_90, K0_91, K0_92, K0_93, K0_94, K0_95, K0_96, K0_97, K0_98, K0_99, K0_100, K0_101, K0_102, K0_103, K0_104, K0_105, K0_106, K0_107, K0_108, K0_109, K0_110, K0_111, p1, p2]
    rw [c_B38 (by omega), e]
    exact Wp.ret ⟨rfl, rfl⟩
theorem c_mark {M : Mem} {k a b : Nat} {T : Nat → Nat → Bool} (h : P63 M) (hT : CRw k M T) (hk : k ≤ 100) (ha : a < k) (hb : b < 100) :
    Wp (zX7_mark 63 (io a) (io b) M) (fun _ M' => CRw k M' (fun x u => T x u || (decide (x = a) && decide (u = b))) ∧ Fg [(64, 65)] [] M M') := by
  have e1 := c_isRow (a := a) h (by omega)
  obtain ⟨-, p1, p2⟩ := h
  unfold zX7_mark
  simp -dsimp (disch := first | assumption | omega) only [lit_0, lit_1, lit_2, lit_3, lit_4, lit_5, lit_6, lit_7, lit_8, lit_9, lit_10, lit_11, lit_12, lit_13, lit_14, lit_15, lit_16, lit_17, lit_18, lit_19, lit_20, lit_21, lit_22, lit_23, lit_24, lit_25, lit_26, lit_27, lit_28, lit_29, lit_30, lit_31, lit_32, lit_33, lit_34, lit_35, lit_36, lit_37, lit_38, lit_39, lit_40, lit_41, lit_42, lit_43, lit_44, lit_45, lit_46, lit_47, lit_48, lit_49, lit_50, lit_51, lit_52, lit_53, lit_54, lit_55, lit_56, lit_57, lit_58, lit_59, lit_60, lit_61, lit_62, lit_63, lit_64, lit_97, lit_99, lit_100, lit_122, lit_175, lit_176, lit_200, lit_255, lit_400, lit_700, lit_800, lit_999, lit_1000, lit_1400, lit_2000, lit_2033, lit_2038, lit_2100, lit_2124, lit_8000, lit_10000, lit_12345, lit_32767, lit_1000000, lit_1000000000, ↓bndX_h, ↓bndK_h, bxh_inl, bxh_inr, bkh_inl, bkh_inr, Nat.reduceEqDiff, ↓bnd_h, ↓lt_h, ↓ite_h, bh_some, lh_eq, ih_T, ih_F, ne_eq, not_false_eq_true, not_true_eq_false, eq_self, and_true, true_and, io_def, io_add, io_mul, io_sub, io_lt, io_le, io_eq, io_clamp, io_inbT, io_div, io_mod, io_m1, m1_io, m1_lt, m1_le, neg_1, gI_m1, K0_1, K0_2, K0_3, K0_4, K0_5, K0_6, K0_7, K0_8, K0_9, K0_10, K0_11, K0_12, K0_13, K0_14, K0_15, K0_16, K0_17, K0_18, K0_19, K0_20, K0_21, K0_22, K0_23, K0_24, K0_25, K0_26, K0_27, K0_28, K0_29, K0_30, K0_31, K0_32, K0_33, K0_34, K0_35, K0_36, K0_37, K0_38, K0_39, K0_40, K0_41, K0_42, K0_43, K0_44, K0_45, K0_46, K0_47, K0_48, K0_49, K0_50, K0_51, K0_52, K0_53, K0_54, K0_55, K0_56, K0_57, K0_58, K0_59, K0_60, K0_61, K0_62, K0_63, K0_64, K0_65, K0_66, K0_67, K0_68, K0_69, K0_70, K0_71, K0_72, K0_73, K0_74, K0_75, K0_76, K0_77, K0_78, K0_79, K0_80, K0_81, K0_82, K0_83, K0_84, K0_85, K0_86, K0_87, K0_88, K0_89, K0_90, K0_91, K0_92, K0_93, K0_94, K0_95, K0_96, K0_97, K0_98, K0_99, K0_100, K0_101, K0_102, K0_103, K0_104, K0_105, K0_106, K0_107, K0_108, K0_109, K0_110, K0_111, e1]
  refine Wp.csh (fun c => ?_) (fun c => ?_)
  · simp -dsimp (disch := first | assumption | omega) only [lit_0, lit_1, lit_2, lit_3, lit_4, lit_5, lit_6, lit_7, lit_8, lit_9, lit_10, lit_11, lit_12, lit_13, lit_14, lit_15, lit_16, lit_17, lit_18, lit_19, lit_20, lit_21, lit_22, lit_23, lit_24, lit_25, lit_26, lit_27, lit_28, lit_29, lit_30, lit_31, lit_32, lit_33, lit_34, lit_35, lit_36, lit_37, lit_38, lit_39, lit_40, lit_41, lit_42, lit_43, lit_44, lit_45, lit_46, lit_47, lit_48, lit_49, lit_50, lit_51, lit_52, lit_53, lit_54, lit_55, lit_56, lit_57, lit_58, lit_59, lit_60, lit_61, lit_62, lit_63, lit_64, lit_97, lit_99, lit_100, lit_122, lit_175, lit_176, lit_200, lit_255, lit_400, lit_700, lit_800, lit_999, lit_1000, lit_1400, lit_2000, lit_2033, lit_2038, lit_2100, lit_2124, lit_8000, lit_10000, lit_12345, lit_32767, lit_1000000, lit_1000000000, ↓bndX_h, ↓bndK_h, bxh_inl, bxh_inr, bkh_inl, bkh_inr, Nat.reduceEqDiff, ↓bnd_h, ↓lt_h, ↓ite_h, bh_some, lh_eq, ih_T, ih_F, ne_eq, not_false_eq_true, not_true_eq_false, eq_self, and_true, true_and, io_def, io_add, io_mul, io_sub, io_lt, io_le, io_eq, io_clamp, io_inbT, io_div, io_mod, io_m1, m1_io, m1_lt, m1_le, neg_1, gI_m1, K0_1, K0_2, K0_3, K0_4, K0_5, K0_6, K0_7, K0_8, K0_9, K0_10, K0_11, K0_12, K0_13, K0_14, K0_15, K0_16, K0_17, K0_18, K0_19, K0_20, K0_21, K0_22, K0_23, K0_24, K0_25, K0_26, K0_27, K0_28, K0_29, K0_30, K0_31, K0_32, K0_33, K0_34, K0_35, K0_36, K0_37, K0_38, K0_39, K0_40, K0_41, K0_42, K0_43, K0_44, K0_45, K0_46, K0_47, K0_48, K0_49, K0_50, K0_51, K0_52, K0_53, K0_54, K0_55, K0_56, K0_57, K0_58, K0_59, K0_60, K0_61, K0_62, K0_63, K0_64, K0_65, K0_66, K0_67, K0_68, K0_69, K0_70, K0_71, K0_72, K0_73, K0_74, K0_75, K0_76, K0_77, K0_78, K0_79, K0_80, K0_81, K0_82, K0_83, K0_84, K0_85, K0_86, K0_87, K0_88, K0_89, K0_90, K0_91, K0_92, K0_93, K0_94, K0_95, K0_96, K0_97, K0_98, K0_99, K0_100, K0_101, K0_102, K0_103, K0_104, K0_105, K0_106, K0_107, K0_108, K0_109, K0_110, K0_111, p1, p2]
    refine Wp.ret ⟨fun x hx u hu => ?_, Fg.refl.sL (Or.inl rfl)⟩
    show btI (mL _ 64 x) u = (T x u || (decide (x = a) && decide (u = b))) ∧ btI (mL _ 65 x) u = (T x (u + 64) || (decide (x = a) && decide (u + 64 = b)))
    obtain ⟨f1, f2⟩ := hT x hx u hu
    rw [mL_diff (o := 65) (p := 64) (Or.inl (by decide))]
    have q1 : decide (u = b) = false := decide_eq_false (by omega)
    refine ⟨by rw [q1, Bool.and_false, Bool.or_false]; exact f1, ?_⟩
    by_cases q : x = a
    · subst q
      rw [mL_same, bt_or, bt_shl (by omega) hu, f2]
      have q2 : decide (u = b - 64) = decide (u + 64 = b) := decide_eq_decide.mpr ⟨fun _ => by omega, fun _ => by omega⟩
      rw [q2, decide_eq_true rfl, Bool.true_and]
    · rw [mL_diff (Or.inr q), decide_eq_false q, Bool.false_and, Bool.or_false]
      exact f2
  · simp -dsimp (disch := first | assumption | omega) only [lit_0, lit_1, lit_2, lit_3, lit_4, lit_5, lit_6, lit_7, lit_8, lit_9, lit_10, lit_11, lit_12, lit_13, lit_14, lit_15, lit_16, lit_17, lit_18, lit_19, lit_20, lit_21, lit_22, lit_23, lit_24, lit_25, lit_26, lit_27, lit_28, lit_29, lit_30, lit_31, lit_32, lit_33, lit_34, lit_35, lit_36, lit_37, lit_38, lit_39, lit_40, lit_41, lit_42, lit_43, lit_44, lit_45, lit_46, lit_47, lit_48, lit_49, lit_50, lit_51, lit_52, lit_53, lit_54, lit_55, lit_56, lit_57, lit_58, lit_59, lit_60, lit_61, lit_62, lit_63, lit_64, lit_97, lit_99, lit_100, lit_122, lit_175, lit_176, lit_200, lit_255, lit_400, lit_700, lit_800, lit_999, lit_1000, lit_1400, lit_2000, lit_2033, lit_2038, lit_2100, lit_2124, lit_8000, lit_10000, lit_12345, lit_32767, lit_1000000, lit_1000000000, ↓bndX_h, ↓bndK_h, bxh_inl, bxh_inr, bkh_inl, bkh_inr, Nat.reduceEqDiff, ↓bnd_h, ↓lt_h, ↓ite_h, bh_some, lh_eq, ih_T, ih_F, ne_eq, not_false_eq_true, not_true_eq_false, eq_self, and_true, true_and, io_def, io_add, io_mul, io_sub, io_lt, io_le, io_eq, io_clamp, io_inbT, io_div, io_mod, io_m1, m1_io, m1_lt, m1_le, neg_1, gI_m1, K0_1, K0_2, K0_3, K0_4, K0_5, K0_6, K0_7, K0_8, K0_9, K0_10, K0_11, K0_12, K0_13, K0_14, K0_15, K0_16, K0_17, K0_18, K0_19, K0_20, K0_21, K0_22, K0_23, K0_24, K0_25, K0_26, K0_27, K0_28, K0_29, K0_30, K0_31, K0_32, K0_33, K0_34, K0_35, K0_36, K0_37, K0_38, K0_39, K0_40, K0_41, K0_42, K0_43, K0_44, K0_45, K0_46, K0_47, K0_48, K0_49, K0_50, K0_51, K0_52, K0_53, K0_54, K0_55, K0_56, K0_57, K0_58, K0_59, K0_60, K0_61, K0_62, K0_63, K0_64, K0_65, K0_66, K0_67, K0_68, K0_69, K0_70, K0_71, K0_72, K0_73, K0_74, K0_75, K0_76, K0_77, K0_78, K0_79, K0_80, K0_81, K0_82, K0_83, K0_84, K0_85, K0_86, K0_87, K0_88, K0_89, K0_90, K0_91, K0_92, K0_93, K0_94, K0_95, K0_96, K0_97, K0_98, K0_99, K0_100, K0_101, K0_102, K0_103, K0_104, K0_105, K0_106, K0_107, K0_108, K0_109, K0_110, K0_111, p1, p2]
    refine Wp.ret ⟨fun x hx u hu => ?_, Fg.refl.sL (Or.inl rfl)⟩
    show btI (mL _ 64 x) u = (T x u || (decide (x = a) && decide (u = b))) ∧ btI (mL _ 65 x) u = (T x (u + 64) || (decide (x = a) && decide (u + 64 = b)))
    obtain ⟨f1, f2⟩ := hT x hx u hu
    rw [mL_diff (o := 64) (p := 65) (Or.inl (by decide))]
    have q1 : decide (u + 64 = b) = false := decide_eq_false (by omega)
    refine ⟨?_, by rw [q1, Bool.and_false, Bool.or_false]; exact f2⟩
    by_cases q : x = a
    · subst q
      rw [mL_same, bt_or, bt_shl (by omega) hu, f1]
      rw [decide_eq_true rfl, Bool.true_and]
    · rw [mL_diff (Or.inr q), decide_eq_false q, Bool.false_and, Bool.or_false]
      exact f1
theorem c_reach {M : Mem} {k a m : Nat} {T : Nat → Nat → Bool} (h : P63 M) (hT : CRw k M T) (hk : k ≤ 100) (ha : a < k) (hm : m < k) :
    Wp (zX7_reachAsFarAs 63 (io m) (io a) M) (fun _ M' => CRw k M' (fun x u => if x = a then T a u || T m u else T x u) ∧ Fg [(64, 65)] [] M M') := by
  have e1 := c_isRow (a := a) h (by omega)
  have e2 := c_isRow (a := m) h (by omega)
  obtain ⟨-, p1, p2⟩ := h
  unfold zX7_reachAsFarAs
  simp -dsimp (disch := first | assumption | omega) only [lit_0, lit_1, lit_2, lit_3, lit_4, lit_5, lit_6, lit_7, lit_8, lit_9, lit_10, lit_11, lit_12, lit_13, lit_14, lit_15, lit_16, lit_17, lit_18, lit_19, lit_20, lit_21, lit_22, lit_23, lit_24, lit_25, lit_26, lit_27, lit_28, lit_29, lit_30, lit_31, lit_32, lit_33, lit_34, lit_35, lit_36, lit_37, lit_38, lit_39, lit_40, lit_41, lit_42, lit_43, lit_44, lit_45, lit_46, lit_47, lit_48, lit_49, lit_50, lit_51, lit_52, lit_53, lit_54, lit_55, lit_56, lit_57, lit_58, lit_59, lit_60, lit_61, lit_62, lit_63, lit_64, lit_97, lit_99, lit_100, lit_122, lit_175, lit_176, lit_200, lit_255, lit_400, lit_700, lit_800, lit_999, lit_1000, lit_1400, lit_2000, lit_2033, lit_2038, lit_2100, lit_2124, lit_8000, lit_10000, lit_12345, lit_32767, lit_1000000, lit_1000000000, ↓bndX_h, ↓bndK_h, bxh_inl, bxh_inr, bkh_inl, bkh_inr, Nat.reduceEqDiff, ↓bnd_h, ↓lt_h, ↓ite_h, bh_some, lh_eq, ih_T, ih_F, ne_eq, not_false_eq_true, not_true_eq_false, eq_self, and_true, true_and, io_def, io_add, io_mul, io_sub, io_lt, io_le, io_eq, io_clamp, io_inbT, io_div, io_mod, io_m1, m1_io, m1_lt, m1_le, neg_1, gI_m1, K0_1, K0_2, K0_3, K0_4, K0_5, K0_6, K0_7, K0_8, K0_9, K0_10, K0_11, K0_12, K0_13, K0_14, K0_15, K0_16, K0_17, K0_18, K0_19, K0_20, K0_21, K0_22, K0_23, K0_24, K0_25, K0_26, K0_27, K0_28, K0_29, K0_30, K0_31, K0_32, K0_33, K0_34, K0_35, K0_36, K0_37, K0_38, K0_39, K0_40, K0_41, K0_42, K0_43, K0_44, K0_45, K0_46, K0_47, K0_48, K0_49, K0_50, K0_51, K0_52, K0_53, K0_54, K0_55, K0_56, K0_57, K0_58, K0_59, K0_60, K0_61, K0_62, K0_63, K0_64, K0_65, K0_66, K0_67, K0_68, K0_69, K0_70, K0_71, K0_72, K0_73, K0_74, K0_75, K0_76, K0_77, K0_78, K0_79, K0_80, K0_81, K0_82, K0_83, K0_84, K0_85, K0_86, K0_87, K0_88, K0_89, K0_90, K0_91, K0_92, K0_93, K0_94, K0_95, K0_96, K0_97, K0_98, K0_99, K0_100, K0_101, K0_102, K0_103, K0_104, K0_105, K0_106, K0_107, K0_108, K0_109, K0_110, K0_111, e1, e2, p1, p2, mR_sL]
  refine Wp.ret ⟨fun x hx u hu => ?_, (Fg.refl.sL (Or.inl rfl)).sL (Or.inl rfl)⟩
  show btI (mL _ 64 x) u = (if x = a then T a u || T m u else T x u) ∧ btI (mL _ 65 x) u = (if x = a then T a (u + 64) || T m (u + 64) else T x (u + 64))
  obtain ⟨f1, f2⟩ := hT x hx u hu
  obtain ⟨g1, g2⟩ := hT m hm u hu
  rw [mL_diff (o := 65) (p := 64) (Or.inl (by decide))]
  by_cases q : x = a
  · subst q
    rw [mL_same, mL_same, mL_diff (o := 64) (p := 65) (Or.inl (by decide)), mL_diff (o := 64) (p := 65) (Or.inl (by decide)), bt_or, bt_or, f1, f2, g1, g2, if_pos rfl, if_pos rfl]
    exact ⟨rfl, rfl⟩
  · rw [mL_diff (Or.inr q), mL_diff (Or.inr q), mL_diff (o := 64) (p := 65) (Or.inl (by decide)), if_neg q, if_neg q]
    exact ⟨f1, f2⟩
/-! what can be come to -/
def plS (v : GV) (sv : SV) (t : Nat) : Nat → Nat → Bool
  | 0 => fun u => decide (u = t)
  | s + 1 => fun u => plS v sv t s u || decide (u = goS (gSi v) t (gfS v sv s t))
theorem plS_self {v : GV} {sv : SV} {t : Nat} : ∀ s, plS v sv t s t = true
  | 0 => decide_eq_true rfl
  | s + 1 => by
    show (plS v sv t s t || _) = true
    rw [plS_self s, Bool.true_or]
def bsS (v : GV) (sv : SV) (t u : Nat) : Bool := plS v sv t (gN v) u
def wdT (T : Nat → Nat → Bool) (m a u : Nat) : Bool := T a u || (T a m && T m u)
def fwS (v : GV) (sv : SV) : Nat → Nat → Nat → Bool
  | 0 => bsS v sv
  | m + 1 => wdT (fwS v sv m) m
theorem GX.keep63 {M M' : Mem} {r p : Nat} {v : GV} {sv : SV} (hr : isRu r) (hp : isSe p) (h : GX M r p v sv) (hF : Fg [(63, 65)] [] M M') : GX M' r p v sv := by
  obtain ⟨h, hK⟩ := h
  refine ⟨?_, hK.keep hF rfl⟩
  have hR : ∀ o k, mR M' o k = mR M o k := fun o k => hF.2.2 o rfl k
  have hr' : ∀ k, k ≤ 5 → ∀ j, mI M' (r + k) j = mI M (r + k) j := fun k hk j => hF.I (ob_1of (by rcases hr with rfl | rfl | rfl <;> omega))
  have hp' : ∀ j, mI M' p j = mI M p j := fun j => hF.I (ob_1of (by rcases hp with rfl | rfl | rfl | rfl <;> omega))
  have hr0 : ∀ j, mI M' r j = mI M r j := hr' 0 (by omega)
  obtain ⟨h1, h2, h3, h4, h5, h6⟩ := h
  refine ⟨?_, ?_, ?_, ?_, ?_, ?_⟩
  · simpa only [PG, hR] using h1
  · simpa only [hR] using h2
  · simpa only [hR] using h3
  · simpa only [PR, hR] using h4
  · simpa only [CG, hr0, hr' 1 (by omega), hr' 2 (by omega), hr' 3 (by omega), hr' 4 (by omega), hr' 5 (by omega)] using h5
  · simpa only [CS, hp'] using h6
theorem sub63 {M M' : Mem} {p : List (Nat × Nat)} (h : Fg p [] M M') (hp : ∀ o, (o < 42 ∨ 44 < o) → (o < 63 ∨ 65 < o) → ob p o = true) : Fg [(42, 44), (63, 65)] [] M M' :=
  h.sub (fun o ho => by
    simp only [ob, Bool.and_true, Bool.and_eq_true, Bool.or_eq_true, decide_eq_true_eq] at ho
    exact hp o ho.1 ho.2) (fun _ q => q)
theorem sub6 {M M' : Mem} (h : Fg [(64, 65)] [] M M') : Fg [(63, 65)] [] M M' := h.sub (fun o ho => by simp only [ob, Bool.and_true, Bool.or_eq_true, decide_eq_true_eq] at ho ⊢; omega) (fun _ q => q)
theorem c_link {M : Mem} {r p t : Nat} {v : GV} {sv : SV} (hr : isRu r) (hp : isSe p) (hv : okG v) (hsv : okS sv) (h6 : P63 M) (hX : GX M r p v sv) (ht : t < stN (gSi v)) (hT : CRw t M (bsS v sv)) :
    Wp (zX7_link 63 (io t) M) (fun _ M' => CRw (t + 1) M' (bsS v sv) ∧ GX M' r p v sv ∧ Fg [(42, 44), (64, 65)] [] M M') := by
  have hn := okG_n hv
  have hs100 := stN_le (gSi v)
  have e1 := c_isRow (a := t) h6 (by omega)
  have h69 := h6
  obtain ⟨p0, p1, p2⟩ := h6
  have hF0 : Fg [(64, 65)] [] M (sL (sL M 64 t 0) 65 t 0) := (Fg.refl.sL (Or.inl rfl)).sL (Or.inl rfl)
  have hT0 : CRw (t + 1) (sL (sL M 64 t 0) 65 t 0) (fun a u => if a = t then false else bsS v sv a u) := fun a ha u hu => by
    show btI (mL _ 64 a) u = (if a = t then false else bsS v sv a u) ∧ btI (mL _ 65 a) u = (if a = t then false else bsS v sv a (u + 64))
    rw [mL_diff (o := 65) (p := 64) (Or.inl (by decide))]
    by_cases q : a = t
    · subst q
      rw [mL_same, mL_same, bt_zero, if_pos rfl, if_pos rfl]
      exact ⟨rfl, rfl⟩
    · obtain ⟨f1, f2⟩ := hT a (by omega) u hu
      rw [mL_diff (Or.inr q), mL_diff (Or.inr q), mL_diff (o := 64) (p := 65) (Or.inl (by decide)), if_neg q, if_neg q]
      exact ⟨f1, f2⟩
  have hP0 := h69.F hF0
  have hX0 := hX.keep63 hr hp (sub6 hF0)
  unfold zX7_link zX7_link_B22
  simp -dsimp (disch := first | assumption | omega) only [lit_0, lit_1, lit_2, lit_3, lit_4, lit_5, lit_6, lit_7, lit_8, lit_9, lit_10, lit_11, lit_12, lit_13, lit_14, lit_15, lit_16, lit_17, lit_18, lit_19, lit_20, lit_21, lit_22, lit_23, lit_24, lit_25, lit_26, lit_27, lit_28, lit_29, lit_30, lit_31, lit_32, lit_33, lit_34, lit_35, lit_36, lit_37, lit_38, lit_39, lit_40, lit_41, lit_42, lit_43, lit_44, lit_45, lit_46, lit_47, lit_48, lit_49, lit_50, lit_51, lit_52, lit_53, lit_54, lit_55, lit_56, lit_57, lit_58, lit_59, lit_60, lit_61, lit_62, lit_63, lit_64, lit_97, lit_99, lit_100, lit_122, lit_175, lit_176, lit_200, lit_255, lit_400, lit_700, lit_800, lit_999, lit_1000, lit_1400, lit_2000, lit_2033, lit_2038, lit_2100, lit_2124, lit_8000, lit_10000, lit_12345, lit_32767, lit_1000000, lit_1000000000, ↓bndX_h, ↓bndK_h, bxh_inl, bxh_inr, bkh_inl, bkh_inr, Nat.reduceEqDiff, ↓bnd_h, ↓lt_h, ↓ite_h, bh_some, lh_eq, ih_T, ih_F, ne_eq, not_false_eq_true, not_true_eq_false, eq_self, and_true, true_and, io_def, io_add, io_mul, io_sub, io_lt, io_le, io_eq, io_clamp, io_inbT, io_div, io_mod, io_m1, m1_io, m1_lt, m1_le, neg_1, gI_m1, K0_1, K0_2, K0_3, K0_4, K0_5, K0_6, K0_7, K0_8, K0_9, K0_10, K0_11, K0_12, K0_13, K0_14, K0_15, K0_16, K0_17, K0_18, K0_19, K0_20, K0_21, K0_22, K0_23, K0_24, K0_25, K0_26, K0_27, K0_28, K0_29, K0_30, K0_31, K0_32, K0_33, K0_34, K0_35, K0_36, K0_37, K0_38, K0_39, K0_40, K0_41, K0_42, K0_43, K0_44, K0_45, K0_46, K0_47, K0_48, K0_49, K0_50, K0_51, K0_52, K0_53, K0_54, K0_55, K0_56, K0_57, K0_58, K0_59, K0_60, K0_61, K0_62, K0_63, K0_64, K0_65, K0_66, K0_67, K0_68, K0_69, K0_70, K0_71, K0_72, K0_73, K0_74, K0_75, K0_76, K0_77, K0_78, K0_79, K0_80, K0_81, K0_82, K0_83, K0_84, K0_85, K0_86, K0_87, K0_88, K0_89, K0_90, K0_91, K0_92, K0_93, K0_94, K0_95, K0_96, K0_97, K0_98, K0_99, K0_100, K0_101, K0_102, K0_103, K0_104, K0_105, K0_106, K0_107, K0_108, K0_109, K0_110, K0_111, e1, p1, p2, mR_sL]
  refine Wp.seqh (c_mark hP0 hT0 (by omega) (show t < t + 1 by omega) (show t < 100 by omega)) (fun _ M1 ⟨a1, a2⟩ => ?_)
  have hT1 : CRw (t + 1) M1 (fun a u => if a = t then plS v sv t 0 u else bsS v sv a u) := a1.congr (fun a u _ => by
    by_cases q : a = t
    · simp only [if_pos q, decide_eq_true q, Bool.true_and, Bool.false_or]
      rfl
    · simp only [if_neg q, decide_eq_false q, Bool.false_and, Bool.or_false])
  have w : ∀ {A B : Mem}, Fg [(64, 65)] [] A B → Fg [(42, 44), (64, 65)] [] A B := fun h => h.sub (fun o ho => by simp only [ob, Bool.and_true, Bool.and_eq_true, Bool.or_eq_true, decide_eq_true_eq] at ho ⊢; omega) (fun _ q => q)
  have w2 : ∀ {A B : Mem}, Fg [(42, 44)] [] A B → Fg [(42, 44), (64, 65)] [] A B := fun h => h.sub (fun o ho => by simp only [ob, Bool.and_true, Bool.and_eq_true, Bool.or_eq_true, decide_eq_true_eq] at ho ⊢; omega) (fun _ q => q)
  generalize hFU : FU = fu
  rw [FU_val] at hFU
  simp -dsimp (disch := first | assumption | omega) only [lit_0, lit_1, lit_2, lit_3, lit_4, lit_5, lit_6, lit_7, lit_8, lit_9, lit_10, lit_11, lit_12, lit_13, lit_14, lit_15, lit_16, lit_17, lit_18, lit_19, lit_20, lit_21, lit_22, lit_23, lit_24, lit_25, lit_26, lit_27, lit_28, lit_29, lit_30, lit_31, lit_32, lit_33, lit_34, lit_35, lit_36, lit_37, lit_38, lit_39, lit_40, lit_41, lit_42, lit_43, lit_44, lit_45, lit_46, lit_47, lit_48, lit_49, lit_50, lit_51, lit_52, lit_53, lit_54, lit_55, lit_56, lit_57, lit_58, lit_59, lit_60, lit_61, lit_62, lit_63, lit_64, lit_97, lit_99, lit_100, lit_122, lit_175, lit_176, lit_200, lit_255, lit_400, lit_700, lit_800, lit_999, lit_1000, lit_1400, lit_2000, lit_2033, lit_2038, lit_2100, lit_2124, lit_8000, lit_10000, lit_12345, lit_32767, lit_1000000, lit_1000000000, ↓bndX_h, ↓bndK_h, bxh_inl, bxh_inr, bkh_inl, bkh_inr, Nat.reduceEqDiff, ↓bnd_h, ↓lt_h, ↓ite_h, bh_some, lh_eq, ih_T, ih_F, ne_eq, not_false_eq_true, not_true_eq_false, eq_self, and_true, true_and, io_def]
  refine loopW (L := fun f (s : Nat) N => zX7_link_L30 f 63 (io t) (io s) N) (J := fun s N => s ≤ gN v ∧ CRw (t + 1) N (fun a u => if a = t then plS v sv t s u else bsS v sv a u) ∧ GX N r p v sv ∧ Fg [(42, 44), (64, 65)] [] M N) (fun s _ => gN v - s) ?_ fu 0 M1 ⟨Nat.zero_le _, hT1, hX0.keep63 hr hp (sub6 a2), (w hF0).trans (w a2)⟩ (by omega)
  intro f s N ⟨hs, hTN, hXN, hF⟩ rec
  show Wp (zX7_link_B30 (zX7_link_L30 f) 63 (io t) (io s) N) _
  unfold zX7_link_B30 zX7_link_B77
  have h6N := h69.F hF
  obtain ⟨q0, q1, q2⟩ := h6N
  have e41 := hXN.1.2.1
  have c0 := hXN.1.2.2.2.2.1.1
  simp -dsimp (disch := first | assumption | omega) only [lit_0, lit_1, lit_2, lit_3, lit_4, lit_5, lit_6, lit_7, lit_8, lit_9, lit_10, lit_11, lit_12, lit_13, lit_14, lit_15, lit_16, lit_17, lit_18, lit_19, lit_20, lit_21, lit_22, lit_23, lit_24, lit_25, lit_26, lit_27, lit_28, lit_29, lit_30, lit_31, lit_32, lit_33, lit_34, lit_35, lit_36, lit_37, lit_38, lit_39, lit_40, lit_41, lit_42, lit_43, lit_44, lit_45, lit_46, lit_47, lit_48, lit_49, lit_50, lit_51, lit_52, lit_53, lit_54, lit_55, lit_56, lit_57, lit_58, lit_59, lit_60, lit_61, lit_62, lit_63, lit_64, lit_97, lit_99, lit_100, lit_122, lit_175, lit_176, lit_200, lit_255, lit_400, lit_700, lit_800, lit_999, lit_1000, lit_1400, lit_2000, lit_2033, lit_2038, lit_2100, lit_2124, lit_8000, lit_10000, lit_12345, lit_32767, lit_1000000, lit_1000000000, ↓bndX_h, ↓bndK_h, bxh_inl, bxh_inr, bkh_inl, bkh_inr, Nat.reduceEqDiff, ↓bnd_h, ↓lt_h, ↓ite_h, bh_some, lh_eq, ih_T, ih_F, ne_eq, not_false_eq_true, not_true_eq_false, eq_self, and_true, true_and, io_def, io_add, io_mul, io_sub, io_lt, io_le, io_eq, io_clamp, io_inbT, io_div, io_mod, io_m1, m1_io, m1_lt, m1_le, neg_1, gI_m1, q0, K0_41, e41, K0_r, ru_ne, c0]
  refine Wp.csh (fun c => ?_) (fun c => ?_)
  · have : s = gN v := by omega
    subst this
    refine Wp.ret ⟨hTN.congr (fun a u _ => ?_), hXN, hF⟩
    by_cases q : a = t
    · rw [if_pos q, q]; rfl
    · rw [if_neg q]
  · have hs2 : s < gN v := by omega
    simp -dsimp (disch := first | assumption | omega) only [lit_0, lit_1, lit_2, lit_3, lit_4, lit_5, lit_6, lit_7, lit_8, lit_9, lit_10, lit_11, lit_12, lit_13, lit_14, lit_15, lit_16, lit_17, lit_18, lit_19, lit_20, lit_21, lit_22, lit_23, lit_24, lit_25, lit_26, lit_27, lit_28, lit_29, lit_30, lit_31, lit_32, lit_33, lit_34, lit_35, lit_36, lit_37, lit_38, lit_39, lit_40, lit_41, lit_42, lit_43, lit_44, lit_45, lit_46, lit_47, lit_48, lit_49, lit_50, lit_51, lit_52, lit_53, lit_54, lit_55, lit_56, lit_57, lit_58, lit_59, lit_60, lit_61, lit_62, lit_63, lit_64, lit_97, lit_99, lit_100, lit_122, lit_175, lit_176, lit_200, lit_255, lit_400, lit_700, lit_800, lit_999, lit_1000, lit_1400, lit_2000, lit_2033, lit_2038, lit_2100, lit_2124, lit_8000, lit_10000, lit_12345, lit_32767, lit_1000000, lit_1000000000, ↓bndX_h, ↓bndK_h, bxh_inl, bxh_inr, bkh_inl, bkh_inr, Nat.reduceEqDiff, ↓bnd_h, ↓lt_h, ↓ite_h, bh_some, lh_eq, ih_T, ih_F, ne_eq, not_false_eq_true, not_true_eq_false, eq_self, and_true, true_and, io_def, io_add, io_mul, io_sub, io_lt, io_le, io_eq, io_clamp, io_inbT, io_div, io_mod, io_m1, m1_io, m1_lt, m1_le, neg_1, gI_m1, q0, K0_41]
    refine Wp.seqh (c_giftAt (sp := 0) (Or.inl rfl) hr hp hv hsv hs2 (show t < 100 by omega) (by unfold knN; simp; omega) hXN.1 hXN.2) (fun x N2 ⟨d1, d2, d3⟩ => ?_)
    have hX2 : GX N2 r p v sv := ⟨hXN.1.keep (Or.inl rfl) hr hp d3, d2⟩
    have hgl := (WOK_of (sv := sv) hv).2.2.2.2 s t hs2 (by omega)
    have hgx : giftS v sv s t 0 = gfS v sv s t := rfl
    rw [hgx] at d1
    subst d1
    have hT2 : CRw (t + 1) N2 (fun a u => if a = t then plS v sv t s u else bsS v sv a u) := hTN.keep (fun o j h1 h2 => d3.L (ob_1of (by omega)) (by omega))
    have hF2 := hF.trans (w2 d3)
    have hsucc : ∀ u, plS v sv t (s + 1) u = (plS v sv t s u || decide (u = goS (gSi v) t (gfS v sv s t))) := fun u => rfl
    simp -dsimp (disch := first | assumption | omega) only [lit_0, lit_1, lit_2, lit_3, lit_4, lit_5, lit_6, lit_7, lit_8, lit_9, lit_10, lit_11, lit_12, lit_13, lit_14, lit_15, lit_16, lit_17, lit_18, lit_19, lit_20, lit_21, lit_22, lit_23, lit_24, lit_25, lit_26, lit_27, lit_28, lit_29, lit_30, lit_31, lit_32, lit_33, lit_34, lit_35, lit_36, lit_37, lit_38, lit_39, lit_40, lit_41, lit_42, lit_43, lit_44, lit_45, lit_46, lit_47, lit_48, lit_49, lit_50, lit_51, lit_52, lit_53, lit_54, lit_55, lit_56, lit_57, lit_58, lit_59, lit_60, lit_61, lit_62, lit_63, lit_64, lit_97, lit_99, lit_100, lit_122, lit_175, lit_176, lit_200, lit_255, lit_400, lit_700, lit_800, lit_999, lit_1000, lit_1400, lit_2000, lit_2033, lit_2038, lit_2100, lit_2124, lit_8000, lit_10000, lit_12345, lit_32767, lit_1000000, lit_1000000000, ↓bndX_h, ↓bndK_h, bxh_inl, bxh_inr, bkh_inl, bkh_inr, Nat.reduceEqDiff, ↓bnd_h, ↓lt_h, ↓ite_h, bh_some, lh_eq, ih_T, ih_F, ne_eq, not_false_eq_true, not_true_eq_false, eq_self, and_true, true_and, io_def, io_add, io_mul, io_sub, io_lt, io_le, io_eq, io_clamp, io_inbT, io_div, io_mod, io_m1, m1_io, m1_lt, m1_le, neg_1, gI_m1, neg_1, gI_m1]
    refine Wp.csh (fun q => ?_) (fun q => ?_)
    · simp -dsimp (disch := first | assumption | omega) only [lit_0, lit_1, lit_2, lit_3, lit_4, lit_5, lit_6, lit_7, lit_8, lit_9, lit_10, lit_11, lit_12, lit_13, lit_14, lit_15, lit_16, lit_17, lit_18, lit_19, lit_20, lit_21, lit_22, lit_23, lit_24, lit_25, lit_26, lit_27, lit_28, lit_29, lit_30, lit_31, lit_32, lit_33, lit_34, lit_35, lit_36, lit_37, lit_38, lit_39, lit_40, lit_41, lit_42, lit_43, lit_44, lit_45, lit_46, lit_47, lit_48, lit_49, lit_50, lit_51, lit_52, lit_53, lit_54, lit_55, lit_56, lit_57, lit_58, lit_59, lit_60, lit_61, lit_62, lit_63, lit_64, lit_97, lit_99, lit_100, lit_122, lit_175, lit_176, lit_200, lit_255, lit_400, lit_700, lit_800, lit_999, lit_1000, lit_1400, lit_2000, lit_2033, lit_2038, lit_2100, lit_2124, lit_8000, lit_10000, lit_12345, lit_32767, lit_1000000, lit_1000000000, ↓bndX_h, ↓bndK_h, bxh_inl, bxh_inr, bkh_inl, bkh_inr, Nat.reduceEqDiff, ↓bnd_h, ↓lt_h, ↓ite_h, bh_some, lh_eq, ih_T, ih_F, ne_eq, not_false_eq_true, not_true_eq_false, eq_self, and_true, true_and, io_def, io_add, io_mul, io_sub, io_lt, io_le, io_eq, io_clamp, io_inbT, io_div, io_mod, io_m1, m1_io, m1_lt, m1_le, neg_1, gI_m1]
      refine rec (s + 1) N2 ⟨by omega, hT2.congr (fun a u _ => ?_), hX2, hF2⟩ (by omega)
      by_cases z : a = t
      · rw [if_pos z, if_pos z, hsucc, q]
        show _ = (_ || decide (u = t))
        by_cases z2 : u = t
        · rw [z2, plS_self, Bool.true_or]
        · rw [decide_eq_false z2, Bool.or_false]
      · rw [if_neg z, if_neg z]
    · have hgi : gI (gfS v sv s t) = io (gfS v sv s t - 1) := by unfold gI; rw [if_neg q]
      have hgo : goS (gSi v) t (gfS v sv s t) = behS (gSi v) t (gfS v sv s t - 1) := by unfold goS; rw [if_neg q]
      have eb := c_behind (st := t) (x := gfS v sv s t - 1) hr hv hX2.1.2.2.2.2.1 (by omega) (by omega)
      have hbl := goS_lt (x := gfS v sv s t) hgl (okG_si hv) ht
      rw [hgo] at hbl hsucc
      obtain ⟨q0', q1', q2'⟩ := h69.F hF2
      have e41' := hX2.1.2.1
      rw [hgi]
      simp -dsimp (disch := first | assumption | omega) only [lit_0, lit_1, lit_2, lit_3, lit_4, lit_5, lit_6, lit_7, lit_8, lit_9, lit_10, lit_11, lit_12, lit_13, lit_14, lit_15, lit_16, lit_17, lit_18, lit_19, lit_20, lit_21, lit_22, lit_23, lit_24, lit_25, lit_26, lit_27, lit_28, lit_29, lit_30, lit_31, lit_32, lit_33, lit_34, lit_35, lit_36, lit_37, lit_38, lit_39, lit_40, lit_41, lit_42, lit_43, lit_44, lit_45, lit_46, lit_47, lit_48, lit_49, lit_50, lit_51, lit_52, lit_53, lit_54, lit_55, lit_56, lit_57, lit_58, lit_59, lit_60, lit_61, lit_62, lit_63, lit_64, lit_97, lit_99, lit_100, lit_122, lit_175, lit_176, lit_200, lit_255, lit_400, lit_700, lit_800, lit_999, lit_1000, lit_1400, lit_2000, lit_2033, lit_2038, lit_2100, lit_2124, lit_8000, lit_10000, lit_12345, lit_32767, lit_1000000, lit_1000000000, ↓bndX_h, ↓bndK_h, bxh_inl, bxh_inr, bkh_inl, bkh_inr, Nat.reduceEqDiff, ↓bnd_h, ↓lt_h, ↓ite_h, bh_some, lh_eq, ih_T, ih_F, ne_eq, not_false_eq_true, not_true_eq_false, eq_self, and_true, true_and, io_def, io_add, io_mul, io_sub, io_lt, io_le, io_eq, io_clamp, io_inbT, io_div, io_mod, io_m1, m1_io, m1_lt, m1_le, neg_1, gI_m1, q0', K0_41, e41', K0_r, ru_ne, eb]
      refine Wp.seqh (c_mark (h69.F hF2) hT2 (by omega) (show t < t + 1 by omega) (show _ < 100 by omega)) (fun _ N3 ⟨b1, b2⟩ => ?_)
      simp -dsimp (disch := first | assumption | omega) only [lit_0, lit_1, lit_2, lit_3, lit_4, lit_5, lit_6, lit_7, lit_8, lit_9, lit_10, lit_11, lit_12, lit_13, lit_14, lit_15, lit_16, lit_17, lit_18, lit_19, lit_20, lit_21, lit_22, lit_23, lit_24, lit_25, lit_26, lit_27, lit_28, lit_29, lit_30, lit_31, lit_32, lit_33, lit_34, lit_35, lit_36, lit_37, lit_38, lit_39, lit_40, lit_41, lit_42, lit_43, lit_44, lit_45, lit_46, lit_47, lit_48, lit_49, lit_50, lit_51, lit_52, lit_53, lit_54, lit_55, lit_56, lit_57, lit_58, lit_59, lit_60, lit_61, lit_62, lit_63, lit_64, lit_97, lit_99, lit_100, lit_122, lit_175, lit_176, lit_200, lit_255, lit_400, lit_700, lit_800, lit_999, lit_1000, lit_1400, lit_2000, lit_2033, lit_2038, lit_2100, lit_2124, lit_8000, lit_10000, lit_12345, lit_32767, lit_1000000, lit_1000000000, ↓bndX_h, ↓bndK_h, bxh_inl, bxh_inr, bkh_inl, bkh_inr, Nat.reduceEqDiff, ↓bnd_h, ↓lt_h, ↓ite_h, bh_some, lh_eq, ih_T, ih_F, ne_eq, not_false_eq_true, not_true_eq_false, eq_self, and_true, true_and, io_def, io_add, io_mul, io_sub, io_lt, io_le, io_eq, io_clamp, io_inbT, io_div, io_mod, io_m1, m1_io, m1_lt, m1_le, neg_1, gI_m1]
      refine rec (s + 1) N3 ⟨by omega, b1.congr (fun a u _ => ?_), hX2.keep63 hr hp (sub6 b2), hF2.trans (w b2)⟩ (by omega)
      by_cases z : a = t
      · simp only [if_pos z, decide_eq_true z, Bool.true_and]
        rw [hsucc]
      · simp only [if_neg z, decide_eq_false z, Bool.false_and, Bool.or_false]
theorem c_find {M : Mem} {r p seed : Nat} {v : GV} {sv : SV} (hr : isRu r) (hp : isSe p) (hv : okG v) (hsv : okS sv) (h6 : P63 M) (hX : GX M r p v sv) :
    Wp (zX7_find 63 (io seed) M) (fun _ M' => CRw (stN (gSi v)) M' (fwS v sv (stN (gSi v))) ∧ mI M' 63 3 = io (stN (gSi v)) ∧ mI M' 63 4 = io seed ∧ GX M' r p v sv ∧ Fg [(42, 44), (63, 65)] [] M M') := by
  have hs100 := stN_le (gSi v)
  have h69 := h6
  obtain ⟨p0, p1, p2⟩ := h6
  have hF1 : Fg [(63, 65)] [] M (sI M 63 4 (io seed)) := Fg.refl.sI rfl
  have hX1 := hX.keep63 hr hp hF1
  have e1 := c_states hr hv hX1.1.2.2.2.2.1.2.2.1
  have e41 := hX1.1.2.1
  unfold zX7_find
  simp -dsimp (disch := first | assumption | omega) only [lit_0, lit_1, lit_2, lit_3, lit_4, lit_5, lit_6, lit_7, lit_8, lit_9, lit_10, lit_11, lit_12, lit_13, lit_14, lit_15, lit_16, lit_17, lit_18, lit_19, lit_20, lit_21, lit_22, lit_23, lit_24, lit_25, lit_26, lit_27, lit_28, lit_29, lit_30, lit_31, lit_32, lit_33, lit_34, lit_35, lit_36, lit_37, lit_38, lit_39, lit_40, lit_41, lit_42, lit_43, lit_44, lit_45, lit_46, lit_47, lit_48, lit_49, lit_50, lit_51, lit_52, lit_53, lit_54, lit_55, lit_56, lit_57, lit_58, lit_59, lit_60, lit_61, lit_62, lit_63, lit_64, lit_97, lit_99, lit_100, lit_122, lit_175, lit_176, lit_200, lit_255, lit_400, lit_700, lit_800, lit_999, lit_1000, lit_1400, lit_2000, lit_2033, lit_2038, lit_2100, lit_2124, lit_8000, lit_10000, lit_12345, lit_32767, lit_1000000, lit_1000000000, ↓bndX_h, ↓bndK_h, bxh_inl, bxh_inr, bkh_inl, bkh_inr, Nat.reduceEqDiff, ↓bnd_h, ↓lt_h, ↓ite_h, bh_some, lh_eq, ih_T, ih_F, ne_eq, not_false_eq_true, not_true_eq_false, eq_self, and_true, true_and, io_def, io_add, io_mul, io_sub, io_lt, io_le, io_eq, io_clamp, io_inbT, io_div, io_mod, io_m1, m1_io, m1_lt, m1_le, neg_1, gI_m1, K0_1, K0_2, K0_3, K0_4, K0_5, K0_6, K0_7, K0_8, K0_9, K0_10, K0_11, K0_12, K0_13, K0_14, K0_15, K0_16, K0_17, K0_18, K0_19, K0_20, K0_21, K0_22, K0_23, K0_24, K0_25, K0_26, K0_27, K0_28, K0_29, K0_30, K0_31, K0_32, K0_33, K0_34, K0_35, K0_36, K0_37, K0_38, K0_39, K0_40, K0_41, K0_42, K0_43, K0_44, K0_45, K0_46, K0_47, K0_48, K0_49, K0_50, K0_51, K0_52, K0_53, K0_54, K0_55, K0_56, K0_57, K0_58, K0_59, K0_60, K0_61, K0_62, K0_63, K0_64, K0_65, K0_66, K0_67, K0_68, K0_69, K0_70, K0_71, K0_72, K0_73, K0_74, K0_75, K0_76, K0_77, K0_78, K0_79, K0_80, K0_81, K0_82, K0_83, K0_84, K0_85, K0_86, K0_87, K0_88, K0_89, K0_90, K0_91, K0_92, K0_93, K0_94, K0_95, K0_96, K0_97, K0_98, K0_99, K0_100, K0_101, K0_102, K0_103, K0_104, K0_105, K0_106, K0_107, K0_108, K0_109, K0_110, K0_111, false_and, and_false, if_false, if_true, and_self, mI_sI, mI_sL, mL_sI, mL_sL, mR_sI, mR_sL, p0, e41, K0_r, ru_ne, e1]
  generalize hFU : FU = fu
  rw [FU_val] at hFU
  have hF2 : Fg [(63, 65)] [] M (sI (sI M 63 4 (io seed)) 63 3 (io (stN (gSi v)))) := hF1.sI rfl
  have hX2 := hX.keep63 hr hp hF2
  have w63 : ∀ {A B : Mem}, Fg [(63, 65)] [] A B → Fg [(42, 44), (63, 65)] [] A B := fun h => sub63 h (fun o h1 h2 => ob_1of (by omega))
  generalize hn0 : stN (gSi v) = n at hs100 hF2 hX2 ⊢
  have g3 : mI (sI (sI M 63 4 (io seed)) 63 3 (io n)) 63 3 = io n := by rw [mI_sI, if_pos ⟨rfl, rfl⟩]
  have g4 : mI (sI (sI M 63 4 (io seed)) 63 3 (io n)) 63 4 = io seed := by rw [mI_sI, if_neg (by omega), mI_sI, if_pos ⟨rfl, rfl⟩]
  generalize sI (sI M 63 4 (io seed)) 63 3 (io n) = M2 at hF2 hX2 g3 g4 ⊢
  refine loopW (L := fun f (t : Nat) N => zX7_find_L21 f 63 (io t) N) (J := fun t N => t ≤ n ∧ CRw t N (bsS v sv) ∧ mI N 63 3 = io n ∧ mI N 63 4 = io seed ∧ GX N r p v sv ∧ Fg [(42, 44), (63, 65)] [] M N) (fun t _ => n - t) ?_ fu 0 M2 ⟨Nat.zero_le _, fun a ha => absurd ha (Nat.not_lt_zero _), g3, g4, hX2, w63 hF2⟩ (by omega)
  intro f t N ⟨ht, hT, k3, k4, hXN, hF⟩ rec
  show Wp (zX7_find_B21 (zX7_find_L21 f) 63 (io t) N) _
  unfold zX7_find_B21
  simp -dsimp (disch := first | assumption | omega) only [lit_0, lit_1, lit_2, lit_3, lit_4, lit_5, lit_6, lit_7, lit_8, lit_9, lit_10, lit_11, lit_12, lit_13, lit_14, lit_15, lit_16, lit_17, lit_18, lit_19, lit_20, lit_21, lit_22, lit_23, lit_24, lit_25, lit_26, lit_27, lit_28, lit_29, lit_30, lit_31, lit_32, lit_33, lit_34, lit_35, lit_36, lit_37, lit_38, lit_39, lit_40, lit_41, lit_42, lit_43, lit_44, lit_45, lit_46, lit_47, lit_48, lit_49, lit_50, lit_51, lit_52, lit_53, lit_54, lit_55, lit_56, lit_57, lit_58, lit_59, lit_60, lit_61, lit_62, lit_63, lit_64, lit_97, lit_99, lit_100, lit_122, lit_175, lit_176, lit_200, lit_255, lit_400, lit_700, lit_800, lit_999, lit_1000, lit_1400, lit_2000, lit_2033, lit_2038, lit_2100, lit_2124, lit_8000, lit_10000, lit_12345, lit_32767, lit_1000000, lit_1000000000, ↓bndX_h, ↓bndK_h, bxh_inl, bxh_inr, bkh_inl, bkh_inr, Nat.reduceEqDiff, ↓bnd_h, ↓lt_h, ↓ite_h, bh_some, lh_eq, ih_T, ih_F, ne_eq, not_false_eq_true, not_true_eq_false, eq_self, and_true, true_and, io_def, io_add, io_mul, io_sub, io_lt, io_le, io_eq, io_clamp, io_inbT, io_div, io_mod, io_m1, m1_io, m1_lt, m1_le, neg_1, gI_m1, k3]
  refine Wp.csh (fun c => ?_) (fun c => ?_)
  rotate_left
  · simp -dsimp (disch := first | assumption | omega) only [lit_0, lit_1, lit_2, lit_3, lit_4, lit_5, lit_6, lit_7, lit_8, lit_9, lit_10, lit_11, lit_12, lit_13, lit_14, lit_15, lit_16, lit_17, lit_18, lit_19, lit_20, lit_21, lit_22, lit_23, lit_24, lit_25, lit_26, lit_27, lit_28, lit_29, lit_30, lit_31, lit_32, lit_33, lit_34, lit_35, lit_36, lit_37, lit_38, lit_39, lit_40, lit_41, lit_42, lit_43, lit_44, lit_45, lit_46, lit_47, lit_48, lit_49, lit_50, lit_51, lit_52, lit_53, lit_54, lit_55, lit_56, lit_57, lit_58, lit_59, lit_60, lit_61, lit_62, lit_63, lit_64, lit_97, lit_99, lit_100, lit_122, lit_175, lit_176, lit_200, lit_255, lit_400, lit_700, lit_800, lit_999, lit_1000, lit_1400, lit_2000, lit_2033, lit_2038, lit_2100, lit_2124, lit_8000, lit_10000, lit_12345, lit_32767, lit_1000000, lit_1000000000, ↓bndX_h, ↓bndK_h, bxh_inl, bxh_inr, bkh_inl, bkh_inr, Nat.reduceEqDiff, ↓bnd_h, ↓lt_h, ↓ite_h, bh_some, lh_eq, ih_T, ih_F, ne_eq, not_false_eq_true, not_true_eq_false, eq_self, and_true, true_and, io_def, io_add, io_mul, io_sub, io_lt, io_le, io_eq, io_clamp, io_inbT, io_div, io_mod, io_m1, m1_io, m1_lt, m1_le, neg_1, gI_m1]
    refine Wp.seqh (c_link hr hp hv hsv (h69.F hF) hXN (by omega) hT) (fun _ N2 ⟨a1, a2, a3⟩ => ?_)
    simp -dsimp (disch := first | assumption | omega) only [lit_0, lit_1, lit_2, lit_3, lit_4, lit_5, lit_6, lit_7, lit_8, lit_9, lit_10, lit_11, lit_12, lit_13, lit_14, lit_15, lit_16, lit_17, lit_18, lit_19, lit_20, lit_21, lit_22, lit_23, lit_24, lit_25, lit_26, lit_27, lit_28, lit_29, lit_30, lit_31, lit_32, lit_33, lit_34, lit_35, lit_36, lit_37, lit_38, lit_39, lit_40, lit_41, lit_42, lit_43, lit_44, lit_45, lit_46, lit_47, lit_48, lit_49, lit_50, lit_51, lit_52, lit_53, lit_54, lit_55, lit_56, lit_57, lit_58, lit_59, lit_60, lit_61, lit_62, lit_63, lit_64, lit_97, lit_99, lit_100, lit_122, lit_175, lit_176, lit_200, lit_255, lit_400, lit_700, lit_800, lit_999, lit_1000, lit_1400, lit_2000, lit_2033, lit_2038, lit_2100, lit_2124, lit_8000, lit_10000, lit_12345, lit_32767, lit_1000000, lit_1000000000, ↓bndX_h, ↓bndK_h, bxh_inl, bxh_inr, bkh_inl, bkh_inr, Nat.reduceEqDiff, ↓bnd_h, ↓lt_h, ↓ite_h, bh_some, lh_eq, ih_T, ih_F, ne_eq, not_false_eq_true, not_true_eq_false, eq_self, and_true, true_and, io_def, io_add, io_mul, io_sub, io_lt, io_le, io_eq, io_clamp, io_inbT, io_div, io_mod, io_m1, m1_io, m1_lt, m1_le, neg_1, gI_m1]
    refine rec (t + 1) N2 ⟨by omega, a1, ?_, ?_, a2, hF.trans (sub63 a3 (fun o h1 h2 => ?_))⟩ (by omega)
    · rw [a3.I rfl]; exact k3
    · rw [a3.I rfl]; exact k4
    · simp only [ob, Bool.and_true, Bool.and_eq_true, Bool.or_eq_true, decide_eq_true_eq]; omega
  have : t = n := by omega
  subst this
  clear rec g3 g4 hF2 hX2
  have hFF : FU = fu := by rw [FU_val]; exact hFU
  simp -dsimp (disch := first | assumption | omega) only [lit_0, lit_1, lit_2, lit_3, lit_4, lit_5, lit_6, lit_7, lit_8, lit_9, lit_10, lit_11, lit_12, lit_13, lit_14, lit_15, lit_16, lit_17, lit_18, lit_19, lit_20, lit_21, lit_22, lit_23, lit_24, lit_25, lit_26, lit_27, lit_28, lit_29, lit_30, lit_31, lit_32, lit_33, lit_34, lit_35, lit_36, lit_37, lit_38, lit_39, lit_40, lit_41, lit_42, lit_43, lit_44, lit_45, lit_46, lit_47, lit_48, lit_49, lit_50, lit_51, lit_52, lit_53, lit_54, lit_55, lit_56, lit_57, lit_58, lit_59, lit_60, lit_61, lit_62, lit_63, lit_64, lit_97, lit_99, lit_100, lit_122, lit_175, lit_176, lit_200, lit_255, lit_400, lit_700, lit_800, lit_999, lit_1000, lit_1400, lit_2000, lit_2033, lit_2038, lit_2100, lit_2124, lit_8000, lit_10000, lit_12345, lit_32767, lit_1000000, lit_1000000000, ↓bndX_h, ↓bndK_h, bxh_inl, bxh_inr, bkh_inl, bkh_inr, Nat.reduceEqDiff, ↓bnd_h, ↓lt_h, ↓ite_h, bh_some, lh_eq, ih_T, ih_F, ne_eq, not_false_eq_true, not_true_eq_false, eq_self, and_true, true_and, io_def, hFF]
  refine loopW (L := fun f (m : Nat) Y => zX7_find_L42 f 63 (io m) Y) (J := fun m Y => m ≤ t ∧ CRw t Y (fwS v sv m) ∧ mI Y 63 3 = io t ∧ mI Y 63 4 = io seed ∧ GX Y r p v sv ∧ Fg [(42, 44), (63, 65)] [] M Y) (fun m _ => t - m) ?_ fu 0 N ⟨Nat.zero_le _, hT, k3, k4, hXN, hF⟩ (by omega)
  intro f0 m Y ⟨hm, hTY, y3, y4, hXY, hFY⟩ rec0
  show Wp (zX7_find_B42 (zX7_find_L42 f0) 63 (io m) Y) _
  unfold zX7_find_B42
  simp -dsimp (disch := first | assumption | omega) only [lit_0, lit_1, lit_2, lit_3, lit_4, lit_5, lit_6, lit_7, lit_8, lit_9, lit_10, lit_11, lit_12, lit_13, lit_14, lit_15, lit_16, lit_17, lit_18, lit_19, lit_20, lit_21, lit_22, lit_23, lit_24, lit_25, lit_26, lit_27, lit_28, lit_29, lit_30, lit_31, lit_32, lit_33, lit_34, lit_35, lit_36, lit_37, lit_38, lit_39, lit_40, lit_41, lit_42, lit_43, lit_44, lit_45, lit_46, lit_47, lit_48, lit_49, lit_50, lit_51, lit_52, lit_53, lit_54, lit_55, lit_56, lit_57, lit_58, lit_59, lit_60, lit_61, lit_62, lit_63, lit_64, lit_97, lit_99, lit_100, lit_122, lit_175, lit_176, lit_200, lit_255, lit_400, lit_700, lit_800, lit_999, lit_1000, lit_1400, lit_2000, lit_2033, lit_2038, lit_2100, lit_2124, lit_8000, lit_10000, lit_12345, lit_32767, lit_1000000, lit_1000000000, ↓bndX_h, ↓bndK_h, bxh_inl, bxh_inr, bkh_inl, bkh_inr, Nat.reduceEqDiff, ↓bnd_h, ↓lt_h, ↓ite_h, bh_some, lh_eq, ih_T, ih_F, ne_eq, not_false_eq_true, not_true_eq_false, eq_self, and_true, true_and, io_def, io_add, io_mul, io_sub, io_lt, io_le, io_eq, io_clamp, io_inbT, io_div, io_mod, io_m1, m1_io, m1_lt, m1_le, neg_1, gI_m1, y3]
  refine Wp.csh (fun c => ?_) (fun c => ?_)
  · have : m = t := by omega
    subst this
    exact Wp.ret ⟨hTY, y3, y4, hXY, hFY⟩
  have hm2 : m < t := by omega
  have hF0 : CRw t Y (fun x u => if x < 0 then wdT (fwS v sv m) m x u else fwS v sv m x u) := hTY.congr (fun a u _ => by rw [if_neg (Nat.not_lt_zero _)])
  simp -dsimp (disch := first | assumption | omega) only [lit_0, lit_1, lit_2, lit_3, lit_4, lit_5, lit_6, lit_7, lit_8, lit_9, lit_10, lit_11, lit_12, lit_13, lit_14, lit_15, lit_16, lit_17, lit_18, lit_19, lit_20, lit_21, lit_22, lit_23, lit_24, lit_25, lit_26, lit_27, lit_28, lit_29, lit_30, lit_31, lit_32, lit_33, lit_34, lit_35, lit_36, lit_37, lit_38, lit_39, lit_40, lit_41, lit_42, lit_43, lit_44, lit_45, lit_46, lit_47, lit_48, lit_49, lit_50, lit_51, lit_52, lit_53, lit_54, lit_55, lit_56, lit_57, lit_58, lit_59, lit_60, lit_61, lit_62, lit_63, lit_64, lit_97, lit_99, lit_100, lit_122, lit_175, lit_176, lit_200, lit_255, lit_400, lit_700, lit_800, lit_999, lit_1000, lit_1400, lit_2000, lit_2033, lit_2038, lit_2100, lit_2124, lit_8000, lit_10000, lit_12345, lit_32767, lit_1000000, lit_1000000000, ↓bndX_h, ↓bndK_h, bxh_inl, bxh_inr, bkh_inl, bkh_inr, Nat.reduceEqDiff, ↓bnd_h, ↓lt_h, ↓ite_h, bh_some, lh_eq, ih_T, ih_F, ne_eq, not_false_eq_true, not_true_eq_false, eq_self, and_true, true_and, io_def, hFF]
  refine loopW (L := fun f (a : Nat) Z => zX7_find_L52 (zX7_find_L42 f0) f 63 (io m) (io a) Z) (J := fun a Z => a ≤ t ∧ CRw t Z (fun x u => if x < a then wdT (fwS v sv m) m x u else fwS v sv m x u) ∧ mI Z 63 3 = io t ∧ mI Z 63 4 = io seed ∧ GX Z r p v sv ∧ Fg [(42, 44), (63, 65)] [] M Z) (fun a _ => t - a) ?_ fu 0 Y ⟨Nat.zero_le _, hF0, y3, y4, hXY, hFY⟩ (by omega)
  intro f a Z ⟨ha, hTZ, z3, z4, hXZ, hFZ⟩ rec
  show Wp (zX7_find_B52 (zX7_find_L42 f0) (zX7_find_L52 (zX7_find_L42 f0) f) 63 (io m) (io a) Z) _
  unfold zX7_find_B52 zX7_find_B75
  simp -dsimp (disch := first | assumption | omega) only [lit_0, lit_1, lit_2, lit_3, lit_4, lit_5, lit_6, lit_7, lit_8, lit_9, lit_10, lit_11, lit_12, lit_13, lit_14, lit_15, lit_16, lit_17, lit_18, lit_19, lit_20, lit_21, lit_22, lit_23, lit_24, lit_25, lit_26, lit_27, lit_28, lit_29, lit_30, lit_31, lit_32, lit_33, lit_34, lit_35, lit_36, lit_37, lit_38, lit_39, lit_40, lit_41, lit_42, lit_43, lit_44, lit_45, lit_46, lit_47, lit_48, lit_49, lit_50, lit_51, lit_52, lit_53, lit_54, lit_55, lit_56, lit_57, lit_58, lit_59, lit_60, lit_61, lit_62, lit_63, lit_64, lit_97, lit_99, lit_100, lit_122, lit_175, lit_176, lit_200, lit_255, lit_400, lit_700, lit_800, lit_999, lit_1000, lit_1400, lit_2000, lit_2033, lit_2038, lit_2100, lit_2124, lit_8000, lit_10000, lit_12345, lit_32767, lit_1000000, lit_1000000000, ↓bndX_h, ↓bndK_h, bxh_inl, bxh_inr, bkh_inl, bkh_inr, Nat.reduceEqDiff, ↓bnd_h, ↓lt_h, ↓ite_h, bh_some, lh_eq, ih_T, ih_F, ne_eq, not_false_eq_true, not_true_eq_false, eq_self, and_true, true_and, io_def, io_add, io_mul, io_sub, io_lt, io_le, io_eq, io_clamp, io_inbT, io_div, io_mod, io_m1, m1_io, m1_lt, m1_le, neg_1, gI_m1, z3]
  refine Wp.csh (fun c2 => ?_) (fun c2 => ?_)
  · simp -dsimp (disch := first | assumption | omega) only [lit_0, lit_1, lit_2, lit_3, lit_4, lit_5, lit_6, lit_7, lit_8, lit_9, lit_10, lit_11, lit_12, lit_13, lit_14, lit_15, lit_16, lit_17, lit_18, lit_19, lit_20, lit_21, lit_22, lit_23, lit_24, lit_25, lit_26, lit_27, lit_28, lit_29, lit_30, lit_31, lit_32, lit_33, lit_34, lit_35, lit_36, lit_37, lit_38, lit_39, lit_40, lit_41, lit_42, lit_43, lit_44, lit_45, lit_46, lit_47, lit_48, lit_49, lit_50, lit_51, lit_52, lit_53, lit_54, lit_55, lit_56, lit_57, lit_58, lit_59, lit_60, lit_61, lit_62, lit_63, lit_64, lit_97, lit_99, lit_100, lit_122, lit_175, lit_176, lit_200, lit_255, lit_400, lit_700, lit_800, lit_999, lit_1000, lit_1400, lit_2000, lit_2033, lit_2038, lit_2100, lit_2124, lit_8000, lit_10000, lit_12345, lit_32767, lit_1000000, lit_1000000000, ↓bndX_h, ↓bndK_h, bxh_inl, bxh_inr, bkh_inl, bkh_inr, Nat.reduceEqDiff, ↓bnd_h, ↓lt_h, ↓ite_h, bh_some, lh_eq, ih_T, ih_F, ne_eq, not_false_eq_true, not_true_eq_false, eq_self, and_true, true_and, io_def, io_add, io_mul, io_sub, io_lt, io_le, io_eq, io_clamp, io_inbT, io_div, io_mod, io_m1, m1_io, m1_lt, m1_le, neg_1, gI_m1]
    refine rec0 (m + 1) Z ⟨by omega, hTZ.congr (fun x u hx => ?_), z3, z4, hXZ, hFZ⟩ (by omega)
    rw [if_pos (by omega)]
    rfl
  · have ha2 : a < t := by omega
    have er := c_reaches (u := m) (h69.F hFZ) hTZ (by omega) ha2 (by omega)
    rw [if_neg (Nat.lt_irrefl a)] at er
    simp -dsimp (disch := first | assumption | omega) only [lit_0, lit_1, lit_2, lit_3, lit_4, lit_5, lit_6, lit_7, lit_8, lit_9, lit_10, lit_11, lit_12, lit_13, lit_14, lit_15, lit_16, lit_17, lit_18, lit_19, lit_20, lit_21, lit_22, lit_23, lit_24, lit_25, lit_26, lit_27, lit_28, lit_29, lit_30, lit_31, lit_32, lit_33, lit_34, lit_35, lit_36, lit_37, lit_38, lit_39, lit_40, lit_41, lit_42, lit_43, lit_44, lit_45, lit_46, lit_47, lit_48, lit_49, lit_50, lit_51, lit_52, lit_53, lit_54, lit_55, lit_56, lit_57, lit_58, lit_59, lit_60, lit_61, lit_62, lit_63, lit_64, lit_97, lit_99, lit_100, lit_122, lit_175, lit_176, lit_200, lit_255, lit_400, lit_700, lit_800, lit_999, lit_1000, lit_1400, lit_2000, lit_2033, lit_2038, lit_2100, lit_2124, lit_8000, lit_10000, lit_12345, lit_32767, lit_1000000, lit_1000000000, ↓bndX_h, ↓bndK_h, bxh_inl, bxh_inr, bkh_inl, bkh_inr, Nat.reduceEqDiff, ↓bnd_h, ↓lt_h, ↓ite_h, bh_some, lh_eq, ih_T, ih_F, ne_eq, not_false_eq_true, not_true_eq_false, eq_self, and_true, true_and, io_def, io_add, io_mul, io_sub, io_lt, io_le, io_eq, io_clamp, io_inbT, io_div, io_mod, io_m1, m1_io, m1_lt, m1_le, neg_1, gI_m1, er]
    have hsame : ∀ u, wdT (fwS v sv m) m m u = fwS v sv m m u := fun u => by
      unfold wdT
      cases fwS v sv m m u <;> simp
    by_cases q : fwS v sv m a m = true
    · simp only [if_pos q]
      simp -dsimp (disch := first | assumption | omega) only [lit_0, lit_1, lit_2, lit_3, lit_4, lit_5, lit_6, lit_7, lit_8, lit_9, lit_10, lit_11, lit_12, lit_13, lit_14, lit_15, lit_16, lit_17, lit_18, lit_19, lit_20, lit_21, lit_22, lit_23, lit_24, lit_25, lit_26, lit_27, lit_28, lit_29, lit_30, lit_31, lit_32, lit_33, lit_34, lit_35, lit_36, lit_37, lit_38, lit_39, lit_40, lit_41, lit_42, lit_43, lit_44, lit_45, lit_46, lit_47, lit_48, lit_49, lit_50, lit_51, lit_52, lit_53, lit_54, lit_55, lit_56, lit_57, lit_58, lit_59, lit_60, lit_61, lit_62, lit_63, lit_64, lit_97, lit_99, lit_100, lit_122, lit_175, lit_176, lit_200, lit_255, lit_400, lit_700, lit_800, lit_999, lit_1000, lit_1400, lit_2000, lit_2033, lit_2038, lit_2100, lit_2124, lit_8000, lit_10000, lit_12345, lit_32767, lit_1000000, lit_1000000000, ↓bndX_h, ↓bndK_h, bxh_inl, bxh_inr, bkh_inl, bkh_inr, Nat.reduceEqDiff, ↓bnd_h, ↓lt_h, ↓ite_h, bh_some, lh_eq, ih_T, ih_F, ne_eq, not_false_eq_true, not_true_eq_false, eq_self, and_true, true_and, io_def, io_add, io_mul, io_sub, io_lt, io_le, io_eq, io_clamp, io_inbT, io_div, io_mod, io_m1, m1_io, m1_lt, m1_le, neg_1, gI_m1]
      refine Wp.seqh (c_reach (h69.F hFZ) hTZ (by omega) ha2 hm2) (fun _ Z2 ⟨b1, b2⟩ => ?_)
      simp -dsimp (disch := first | assumption | omega) only [lit_0, lit_1, lit_2, lit_3, lit_4, lit_5, lit_6, lit_7, lit_8, lit_9, lit_10, lit_11, lit_12, lit_13, lit_14, lit_15, lit_16, lit_17, lit_18, lit_19, lit_20, lit_21, lit_22, lit_23, lit_24, lit_25, lit_26, lit_27, lit_28, lit_29, lit_30, lit_31, lit_32, lit_33, lit_34, lit_35, lit_36, lit_37, lit_38, lit_39, lit_40, lit_41, lit_42, lit_43, lit_44, lit_45, lit_46, lit_47, lit_48, lit_49, lit_50, lit_51, lit_52, lit_53, lit_54, lit_55, lit_56, lit_57, lit_58, lit_59, lit_60, lit_61, lit_62, lit_63, lit_64, lit_97, lit_99, lit_100, lit_122, lit_175, lit_176, lit_200, lit_255, lit_400, lit_700, lit_800, lit_999, lit_1000, lit_1400, lit_2000, lit_2033, lit_2038, lit_2100, lit_2124, lit_8000, lit_10000, lit_12345, lit_32767, lit_1000000, lit_1000000000, ↓bndX_h, ↓bndK_h, bxh_inl, bxh_inr, bkh_inl, bkh_inr, Nat.reduceEqDiff, ↓bnd_h, ↓lt_h, ↓ite_h, bh_some, lh_eq, ih_T, ih_F, ne_eq, not_false_eq_true, not_true_eq_false, eq_self, and_true, true_and, io_def, io_add, io_mul, io_sub, io_lt, io_le, io_eq, io_clamp, io_inbT, io_div, io_mod, io_m1, m1_io, m1_lt, m1_le, neg_1, gI_m1]
      refine rec (a + 1) Z2 ⟨by omega, b1.congr (fun x u hx => ?_), ?_, ?_, hXZ.keep63 hr hp (sub6 b2), hFZ.trans (w63 (sub6 b2))⟩ (by omega)
      · by_cases z : x = a
        · subst z
          rw [if_pos rfl, if_neg (Nat.lt_irrefl x), if_pos (Nat.lt_succ_self x)]
          have e2 : wdT (fwS v sv m) m x u = (fwS v sv m x u || fwS v sv m m u) := by
            unfold wdT
            rw [q, Bool.true_and]
          rw [e2]
          congr 1
          by_cases w : m < x
          · rw [if_pos w, hsame]
          · rw [if_neg w]
        · rw [if_neg z]
          by_cases w : x < a
          · rw [if_pos w, if_pos (by omega)]
          · rw [if_neg w, if_neg (by omega)]
      · rw [b2.I rfl]; exact z3
      · rw [b2.I rfl]; exact z4
    · simp only [if_neg q]
      simp -dsimp (disch := first | assumption | omega) only [lit_0, lit_1, lit_2, lit_3, lit_4, lit_5, lit_6, lit_7, lit_8, lit_9, lit_10, lit_11, lit_12, lit_13, lit_14, lit_15, lit_16, lit_17, lit_18, lit_19, lit_20, lit_21, lit_22, lit_23, lit_24, lit_25, lit_26, lit_27, lit_28, lit_29, lit_30, lit_31, lit_32, lit_33, lit_34, lit_35, lit_36, lit_37, lit_38, lit_39, lit_40, lit_41, lit_42, lit_43, lit_44, lit_45, lit_46, lit_47, lit_48, lit_49, lit_50, lit_51, lit_52, lit_53, lit_54, lit_55, lit_56, lit_57, lit_58, lit_59, lit_60, lit_61, lit_62, lit_63, lit_64, lit_97, lit_99, lit_100, lit_122, lit_175, lit_176, lit_200, lit_255, lit_400, lit_700, lit_800, lit_999, lit_1000, lit_1400, lit_2000, lit_2033, lit_2038, lit_2100, lit_2124, lit_8000, lit_10000, lit_12345, lit_32767, lit_1000000, lit_1000000000, ↓bndX_h, ↓bndK_h, bxh_inl, bxh_inr, bkh_inl, bkh_inr, Nat.reduceEqDiff, ↓bnd_h, ↓lt_h, ↓ite_h, bh_some, lh_eq, ih_T, ih_F, ne_eq, not_false_eq_true, not_true_eq_false, eq_self, and_true, true_and, io_def, io_add, io_mul, io_sub, io_lt, io_le, io_eq, io_clamp, io_inbT, io_div, io_mod, io_m1, m1_io, m1_lt, m1_le, neg_1, gI_m1]
      refine rec (a + 1) Z ⟨by omega, hTZ.congr (fun x u hx => ?_), z3, z4, hXZ, hFZ⟩ (by omega)
      by_cases z : x = a
      · subst z
        rw [if_neg (Nat.lt_irrefl x), if_pos (Nat.lt_succ_self x)]
        unfold wdT
        rw [Bool.not_eq_true] at q
        rw [q, Bool.false_and, Bool.or_false]
      · by_cases w : x < a
        · rw [if_pos w, if_pos (by omega)]
        · rw [if_neg w, if_neg (by omega)]
