/-! ===== LEVEL 2: image, restore ===== -/
theorem c_copy {a b n : Nat} {M : Mem} (hKa : K0 a = (1, n)) (hKb : K0 b = (1, n)) (hn : n ≤ 100000) (hab : a ≠ b) :
    Wp (zX11_copy a b M) (fun _ M' => (∀ k, k < n → mI M' b k = mI M a k) ∧ Fg [(b, b)] [] M M') := by
  have hab2 : (a = b) = False := eq_false hab
  unfold zX11_copy
  refine loopW (L := fun f (i : Nat) U => zX11_copy_L2 f a b (io i) U) (J := fun i U => i ≤ n ∧ (∀ k, k < i → mI U b k = mI M a k) ∧ Fg [(b, b)] [] M U) (fun i _ => n - i) ?_ FU 0 M ⟨Nat.zero_le _, fun k hk => absurd hk (Nat.not_lt_zero _), Fg.refl⟩ (by rw [FU_val]; omega)
  intro f i U ⟨hi, hall, hF⟩ rec
  show Wp (zX11_copy_B2 (zX11_copy_L2 f) a b (io i) U) _
  unfold zX11_copy_B2
  have eI : ∀ j, Int32.ofNat j = io j := fun j => rfl
  simp -dsimp (disch := first | assumption | omega) only [lit_0, lit_1, lit_2, lit_3, lit_4, lit_5, lit_6, lit_7, lit_8, lit_9, lit_10, lit_11, lit_12, lit_13, lit_14, lit_15, lit_16, lit_17, lit_18, lit_19, lit_20, lit_21, lit_22, lit_23, lit_24, lit_25, lit_26, lit_27, lit_28, lit_29, lit_30, lit_31, lit_32, lit_33, lit_34, lit_35, lit_36, lit_37, lit_38, lit_39, lit_40, lit_41, lit_42, lit_43, lit_44, lit_45, lit_46, lit_47, lit_48, lit_49, lit_50, lit_51, lit_52, lit_53, lit_54, lit_55, lit_56, lit_57, lit_58, lit_59, lit_60, lit_61, lit_62, lit_63, lit_64, lit_97, lit_99, lit_100, lit_122, lit_175, lit_176, lit_200, lit_255, lit_400, lit_700, lit_800, lit_999, lit_1000, lit_1400, lit_2000, lit_2033, lit_2038, lit_2100, lit_2124, lit_8000, lit_10000, lit_12345, lit_32767, lit_1000000, lit_1000000000, ↓bndX_h, ↓bndK_h, bxh_inl, bxh_inr, bkh_inl, bkh_inr, Nat.reduceEqDiff, ↓bnd_h, ↓lt_h, ↓ite_h, bh_some, lh_eq, ih_T, ih_F, ne_eq, not_false_eq_true, not_true_eq_false, eq_self, and_true, true_and, io_def, io_add, io_mul, io_sub, io_lt, io_le, io_eq, io_clamp, io_inbT, io_div, io_mod, io_m1, m1_io, m1_lt, m1_le, neg_1, gI_m1, hKa, hKb, eI]
  refine Wp.csh (fun c => ?_) (fun c => ?_)
  · rw [show n = i by omega]
    exact Wp.ret ⟨hall, hF⟩
  · simp -dsimp (disch := first | assumption | omega) only [lit_0, lit_1, lit_2, lit_3, lit_4, lit_5, lit_6, lit_7, lit_8, lit_9, lit_10, lit_11, lit_12, lit_13, lit_14, lit_15, lit_16, lit_17, lit_18, lit_19, lit_20, lit_21, lit_22, lit_23, lit_24, lit_25, lit_26, lit_27, lit_28, lit_29, lit_30, lit_31, lit_32, lit_33, lit_34, lit_35, lit_36, lit_37, lit_38, lit_39, lit_40, lit_41, lit_42, lit_43, lit_44, lit_45, lit_46, lit_47, lit_48, lit_49, lit_50, lit_51, lit_52, lit_53, lit_54, lit_55, lit_56, lit_57, lit_58, lit_59, lit_60, lit_61, lit_62, lit_63, lit_64, lit_97, lit_99, lit_100, lit_122, lit_175, lit_176, lit_200, lit_255, lit_400, lit_700, lit_800, lit_999, lit_1000, lit_1400, lit_2000, lit_2033, lit_2038, lit_2100, lit_2124, lit_8000, lit_10000, lit_12345, lit_32767, lit_1000000, lit_1000000000, ↓bndX_h, ↓bndK_h, bxh_inl, bxh_inr, bkh_inl, bkh_inr, Nat.reduceEqDiff, ↓bnd_h, ↓lt_h, ↓ite_h, bh_some, lh_eq, ih_T, ih_F, ne_eq, not_false_eq_true, not_true_eq_false, eq_self, and_true, true_and, io_def, io_add, io_mul, io_sub, io_lt, io_le, io_eq, io_clamp, io_inbT, io_div, io_mod, io_m1, m1_io, m1_lt, m1_le, neg_1, gI_m1, hKa, hKb, eI, c]
    refine rec (i + 1) _ ⟨by omega, fun k hk => ?_, hF.sI (by simp [ob])⟩ (by omega)
    rw [mI_sI]
    by_cases q : k = i
    · subst q
      rw [if_pos ⟨rfl, rfl⟩]
      exact hF.I (by simp [ob]; omega)
    · rw [if_neg (fun z => q z.2)]
      exact hall k (by omega)
theorem m_be {a b n : Nat} {M : Mem} (hKa : K0 a = (1, n)) (hKb : K0 b = (1, n)) (hn : n ≤ 100000) (hab : a ≠ b) :
    Wp (zX12_be b a M) (fun _ M' => (∀ k, k < n → mI M' b k = mI M a k) ∧ Fg [(b, b)] [] M M') := by
  unfold zX12_be
  refine loopW (L := fun f (i : Nat) U => zX12_be_L2 f b a (io i) U) (J := fun i U => i ≤ n ∧ (∀ k, k < i → mI U b k = mI M a k) ∧ Fg [(b, b)] [] M U) (fun i _ => n - i) ?_ FU 0 M ⟨Nat.zero_le _, fun k hk => absurd hk (Nat.not_lt_zero _), Fg.refl⟩ (by rw [FU_val]; omega)
  intro f i U ⟨hi, hall, hF⟩ rec
  show Wp (zX12_be_B2 (zX12_be_L2 f) b a (io i) U) _
  unfold zX12_be_B2
  have eI : ∀ j, Int32.ofNat j = io j := fun j => rfl
  simp -dsimp (disch := first | assumption | omega) only [lit_0, lit_1, lit_2, lit_3, lit_4, lit_5, lit_6, lit_7, lit_8, lit_9, lit_10, lit_11, lit_12, lit_13, lit_14, lit_15, lit_16, lit_17, lit_18, lit_19, lit_20, lit_21, lit_22, lit_23, lit_24, lit_25, lit_26, lit_27, lit_28, lit_29, lit_30, lit_31, lit_32, lit_33, lit_34, lit_35, lit_36, lit_37, lit_38, lit_39, lit_40, lit_41, lit_42, lit_43, lit_44, lit_45, lit_46, lit_47, lit_48, lit_49, lit_50, lit_51, lit_52, lit_53, lit_54, lit_55, lit_56, lit_57, lit_58, lit_59, lit_60, lit_61, lit_62, lit_63, lit_64, lit_97, lit_99, lit_100, lit_122, lit_175, lit_176, lit_200, lit_255, lit_400, lit_700, lit_800, lit_999, lit_1000, lit_1400, lit_2000, lit_2033, lit_2038, lit_2100, lit_2124, lit_8000, lit_10000, lit_12345, lit_32767, lit_1000000, lit_1000000000, ↓bndX_h, ↓bndK_h, bxh_inl, bxh_inr, bkh_inl, bkh_inr, Nat.reduceEqDiff, ↓bnd_h, ↓lt_h, ↓ite_h, bh_some, lh_eq, ih_T, ih_F, ne_eq, not_false_eq_true, not_true_eq_false, eq_self, and_true, true_and, io_def, io_add, io_mul, io_sub, io_lt, io_le, io_eq, io_clamp, io_inbT, io_div, io_mod, io_m1, m1_io, m1_lt, m1_le, neg_1, gI_m1, hKa, hKb, eI]
  refine Wp.csh (fun c => ?_) (fun c => ?_)
  · rw [show n = i by omega]
    exact Wp.ret ⟨hall, hF⟩
  · simp -dsimp (disch := first | assumption | omega) only [lit_0, lit_1, lit_2, lit_3, lit_4, lit_5, lit_6, lit_7, lit_8, lit_9, lit_10, lit_11, lit_12, lit_13, lit_14, lit_15, lit_16, lit_17, lit_18, lit_19, lit_20, lit_21, lit_22, lit_23, lit_24, lit_25, lit_26, lit_27, lit_28, lit_29, lit_30, lit_31, lit_32, lit_33, lit_34, lit_35, lit_36, lit_37, lit_38, lit_39, lit_40, lit_41, lit_42, lit_43, lit_44, lit_45, lit_46, lit_47, lit_48, lit_49, lit_50, lit_51, lit_52, lit_53, lit_54, lit_55, lit_56, lit_57, lit_58, lit_59, lit_60, lit_61, lit_62, lit_63, lit_64, lit_97, lit_99, lit_100, lit_122, lit_175, lit_176, lit_200, lit_255, lit_400, lit_700, lit_800, lit_999, lit_1000, lit_1400, lit_2000, lit_2033, lit_2038, lit_2100, lit_2124, lit_8000, lit_10000, lit_12345, lit_32767, lit_1000000, lit_1000000000, ↓bndX_h, ↓bndK_h, bxh_inl, bxh_inr, bkh_inl, bkh_inr, Nat.reduceEqDiff, ↓bnd_h, ↓lt_h, ↓ite_h, bh_some, lh_eq, ih_T, ih_F, ne_eq, not_false_eq_true, not_true_eq_false, eq_self, and_true, true_and, io_def, io_add, io_mul, io_sub, io_lt, io_le, io_eq, io_clamp, io_inbT, io_div, io_mod, io_m1, m1_io, m1_lt, m1_le, neg_1, gI_m1, hKa, hKb, eI, c]
    refine rec (i + 1) _ ⟨by omega, fun k hk => ?_, hF.sI (by simp [ob])⟩ (by omega)
    rw [mI_sI]
    by_cases q : k = i
    · subst q
      rw [if_pos ⟨rfl, rfl⟩]
      exact hF.I (by simp [ob]; omega)
    · rw [if_neg (fun z => q z.2)]
      exact hall k (by omega)
