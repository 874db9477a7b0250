/-! ===== LEVEL 2: image, restore ===== -/
theorem c_copy {a b n : Nat} {M : Mem} (hKa : K0 a = (1, n)) (hKb : K0 b = (1, n)) (hn : n ≤ 100000) (hab : a ≠ b) :
    Wp (zX11_copy a b M) (fun _ M' => (∀ k, k < n → mI M' b k = mI M a k) ∧ Fg [(b, b)] [] M M') := by
  have hab2 : (a = b) = False := eq_false hab
  unfold zX11_copy
  refine loopW (L := fun f (i : Nat) U => zX11_copy_L2 f a b (io i) U) (J := fun i U => i ≤ n ∧ (∀ k, k < i → mI U b k = mI M a k) ∧ Fg [(b, b)] [] M U) (fun i _ => n - i) ?_ FU 0 M ⟨Nat.zero_le _, fun k hk => absurd hk (Nat.not_lt_zero _), Fg.refl⟩ (by rw [FU_val]; omega)
  intro f i U ⟨hi, hall, hF⟩ rec
  show Wp (zX11_copy_B2 (zX11_copy_L2 f) a b (io i) U) _
  unfold zX11_copy_B2
  have eI : ∀ j, Int32.ofNat j = io j := fun j => rfl
  simp -dsimp (disch := first | assumption | omega) only [lit_0, lit_1, lit_2, lit_3, lit_4, lit_5, lit_6, lit_7, lit_8, lit_9, lit_10, lit_11, lit_12, lit_13, lit_14, lit_15, lit_16, lit_17, lit_18, lit_19, lit_20, lit_21, lit_22, lit_23, lit_24, lit_25, lit_26, lit_27, lit_28, lit_29, lit_30, lit_31, lit_32, lit_33, lit_34, lit_35, lit_36, lit_37, lit_38, lit_39, lit_40, lit_41, lit_42, lit_43, lit_44, lit_45, lit_46, lit_47, lit_48, lit_49, lit_50, lit_51, lit_52, lit_53, lit_54, lit_55, lit_56, lit_57, lit_58, lit_59, lit_60, lit_61, lit_62, lit_63, lit_64, lit_97, lit_99, lit_100, lit_122, lit_175, lit_176, lit_200, lit_255, lit_400, lit_700, lit_800, lit_999, lit_1000, lit_1400, lit_2000, lit_2033, lit_2038, lit_2100, lit_2124, lit_8000, lit_10000, lit_12345, lit_32767, lit_1000000, lit_1000000000, ↓bndX_h, ↓bndK_h, bxh_inl, bxh_inr, bkh_inl, bkh_inr, Nat.reduceEqDiff, ↓bnd_h, ↓lt_h, ↓ite_h, bh_some, lh_eq, ih_T, ih_F, ne_eq, not_false_eq_true, not_true_eq_false, eq_self, and_true, true_and, io_def, io_add, io_mul, io_sub, io_lt, io_le, io_eq, io_clamp, io_inbT, io_div, io_mod, io_m1, m1_io, m1_lt, m1_le, neg_1, gI_m1, hKa, hKb, eI]
  refine Wp.csh (fun c => ?_) (fun c => ?_)
  · rw [show n = i by omega]
    exact Wp.ret ⟨hall, hF⟩
  · simp -dsimp (disch := first | assumption | omega) only [lit_0, lit_1, lit_2, lit_3, lit_4, lit_5, lit_6, lit_7, lit_8, lit_9, lit_10, lit_11, lit_12, lit_13, lit_14, lit_15, lit_16, lit_17, lit_18, lit_19, lit_20, lit_21, lit_22, lit_23, lit_24, lit_25, lit_26, lit_27, lit_28, lit_29, lit_30, lit_31, lit_32, lit_33, lit_34, lit_35, lit_36, lit_37, lit_38, lit_39, lit_40, lit_41, lit_42, lit_43, lit_44, lit_45, lit_46, lit_47, lit_48, lit_49, lit_50, lit_51, lit_52, lit_53, lit_54, lit_55, lit_56, lit_57, lit_58, lit_59, lit_60, lit_61, lit_62, lit_63, lit_64, lit_97, lit_99, lit_100, lit_122, lit_175, lit_176, lit_200, lit_255, lit_400, lit_700, lit_800, lit_999, lit_1000, lit_1400, lit_2000, lit_2033, lit_2038, lit_2100, lit_2124, lit_8000, lit_10000, lit_12345, lit_32767, lit_1000000, lit_1000000000, ↓bndX_h, ↓bndK_h, bxh_inl, bxh_inr, bkh_inl, bkh_inr, Nat.reduceEqDiff, ↓bnd_h, ↓lt_h, ↓ite_h, bh_some, lh_eq, ih_T, ih_F, ne_eq, not_false_eq_true, not_true_eq_false, eq_self, and_true, true_and, io_def, io_add, io_mul, io_sub, io_lt, io_le, io_eq, io_clamp, io_inbT, io_div, io_mod, io_m1, m1_io, m1_lt, m1_le, neg_1, gI_m1, hKa, hKb, eI, c]
    refine rec (i + 1) _ ⟨by omega, fun k hk => ?_, hF.sI (by simp [ob])⟩ (by omega)
    rw [mI_sI]
    by_cases q : k = i
    · subst q
      rw [if_pos ⟨rfl, rfl⟩]
      exact hF.I (by simp [ob]; omega)
    · rw [if_neg (fun z => q z.2)]
      exact hall k (by omega)
theorem m_be {a b n : Nat} {M : Mem} (hKa : K0 a = (1, n)) (hKb : K0 b = (1, n)) (hn : n ≤ 100000) (hab : a ≠ b) :
    Wp (zX12_be b a M) (fun _ M' => (∀ k, k < n → mI M' b k = mI M a k) ∧ Fg [(b, b)] [] M M') := by
  unfold zX12_be
  refine loopW (L := fun f (i : Nat) U => zX12_be_L2 f b a (io i) U) (J := fun i U => i ≤ n ∧ (∀ k, k < i → mI U b k = mI M a k) ∧ Fg [(b, b)] [] M U) (fun i _ => n - i) ?_ FU 0 M ⟨Nat.zero_le _, fun k hk => absurd hk (Nat.not_lt_zero _), Fg.refl⟩ (by rw [FU_val]; omega)
  intro f i U ⟨hi, hall, hF⟩ rec
  show Wp (zX12_be_B2 (zX12_be_L2 f) b a (io i) U) _
  unfold zX12_be_B2
  have eI : ∀ j, Int32.ofNat j = io j := fun j => rfl
  simp -dsimp (disch := first | assumption | omega) only [lit_0, lit_1, lit_2, lit_3, lit_4, lit_5, lit_6, lit_7, lit_8, lit_9, lit_10, lit_11, lit_12, lit_13, lit_14, lit_15, lit_16, lit_17, lit_18, lit_19, lit_20, lit_21, lit_22, lit_23, lit_24, lit_25, lit_26, lit_27, lit_28, lit_29, lit_30, lit_31, lit_32, lit_33, lit_34, lit_35, lit_36, lit_37, lit_38, lit_39, lit_40, lit_41, lit_42, lit_43, lit_44, lit_45, lit_46, lit_47, lit_48, lit_49, lit_50, lit_51, lit_52, lit_53, lit_54, lit_55, lit_56, lit_57, lit_58, lit_59, lit_60, lit_61, lit_62, lit_63, lit_64, lit_97, lit_99, lit_100, lit_122, lit_175, lit_176, lit_200, lit_255, lit_400, lit_700, lit_800, lit_999, lit_1000, lit_1400, lit_2000, lit_2033, lit_2038, lit_2100, lit_2124, lit_8000, lit_10000, lit_12345, lit_32767, lit_1000000, lit_1000000000, ↓bndX_h, ↓bndK_h, bxh_inl, bxh_inr, bkh_inl, bkh_inr, Nat.reduceEqDiff, ↓bnd_h, ↓lt_h, ↓ite_h, bh_some, lh_eq, ih_T, ih_F, ne_eq, not_false_eq_true, not_true_eq_false, eq_self, and_true, true_and, io_def, io_add, io_mul, io_sub, io_lt, io_le, io_eq, io_clamp, io_inbT, io_div, io_mod, io_m1, m1_io, m1_lt, m1_le, neg_1, gI_m1, hKa, hKb, eI]
  refine Wp.csh (fun c => ?_) (fun c => ?_)
  · rw [show n = i by omega]
    exact Wp.ret ⟨hall, hF⟩
  · simp -dsimp (disch := first | assumption | omega) only [lit_0, lit_1, lit_2, lit_3, lit_4, lit_5, lit_6, lit_7, lit_8, lit_9, lit_10, lit_11, lit_12, lit_13, lit_14, lit_15, lit_16, lit_17, lit_18, lit_19, lit_20, lit_21, lit_22, lit_23, lit_24, lit_25, lit_26, lit_27, lit_28, lit_29, lit_30, lit_31, lit_32, lit_33, lit_34, lit_35, lit_36, lit_37, lit_38, lit_39, lit_40, lit_41, lit_42, lit_43, lit_44, lit_45, lit_46, lit_47, lit_48, lit_49, lit_50, lit_51, lit_52, lit_53, lit_54, lit_55, lit_56, lit_57, lit_58, lit_59, lit_60, lit_61, lit_62, lit_63, lit_64, lit_97, lit_99, lit_100, lit_122, lit_175, lit_176, lit_200, lit_255, lit_400, lit_700, lit_800, lit_999, lit_1000, lit_1400, lit_2000, lit_2033, lit_2038, lit_2100, lit_2124, lit_8000, lit_10000, lit_12345, lit_32767, lit_1000000, lit_1000000000, ↓bndX_h, ↓bndK_h, bxh_inl, bxh_inr, bkh_inl, bkh_inr, Nat.reduceEqDiff, ↓bnd_h, ↓lt_h, ↓ite_h, bh_some, lh_eq, ih_T, ih_F, ne_eq, not_false_eq_true, not_true_eq_false, eq_self, and_true, true_and, io_def, io_add, io_mul, io_sub, io_lt, io_le, io_eq, io_clamp, io_inbT, io_div, io_mod, io_m1, m1_io, m1_lt, m1_le, neg_1, gI_m1, hKa, hKb, eI, c]
    refine rec (i + 1) _ ⟨by omega, fun k hk => ?_, hF.sI (by simp [ob])⟩ (by omega)
    rw [mI_sI]
    by_cases q : k = i
    · subst q
      rw [if_pos ⟨rfl, rfl⟩]
      exact hF.I (by simp [ob]; omega)
    · rw [if_neg (fun z => q z.2)]
      exact hall k (by omega)
theorem c_becomeLike {d s : Nat} {M : Mem} (hd : K0 d = (0, 0)) (hs : K0 s = (0, 0)) (hd1 : K0 (d + 1) = (1, 200)) (hs1 : K0 (s + 1) = (1, 200)) (hd2 : K0 (d + 2) = (1, 32)) (hs2 : K0 (s + 2) = (1, 32)) (hds : d + 2 < s ∨ s + 2 < d) (d5 : mR M d 5 = d + 1) (d6 : mR M d 6 = d + 2) (s5 : mR M s 5 = s + 1) (s6 : mR M s 6 = s + 2) :
    Wp (zX0_becomeLike d s M) (fun _ M' => Fg [(d, d + 2)] [] M M' ∧ ∀ b, bLe b ≤ 200 → CB M s b → CB M' d b) := by
  unfold zX0_becomeLike
  have ne1 : (s = d) = False := eq_false (by omega)
  have nz1 : (d + 1 = 0) = False := eq_false (by omega)
  have nz2 : (d + 2 = 0) = False := eq_false (by omega)
  have nz3 : (s + 1 = 0) = False := eq_false (by omega)
  have nz4 : (s + 2 = 0) = False := eq_false (by omega)
  simp -dsimp (disch := first | assumption | omega) only [lit_0, lit_1, lit_2, lit_3, lit_4, lit_5, lit_6, lit_7, lit_8, lit_9, lit_10, lit_11, lit_12, lit_13, lit_14, lit_15, lit_16, lit_17, lit_18, lit_19, lit_20, lit_21, lit_22, lit_23, lit_24, lit_25, lit_26, lit_27, lit_28, lit_29, lit_30, lit_31, lit_32, lit_33, lit_34, lit_35, lit_36, lit_37, lit_38, lit_39, lit_40, lit_41, lit_42, lit_43, lit_44, lit_45, lit_46, lit_47, lit_48, lit_49, lit_50, lit_51, lit_52, lit_53, lit_54, lit_55, lit_56, lit_57, lit_58, lit_59, lit_60, lit_61, lit_62, lit_63, lit_64, lit_97, lit_99, lit_100, lit_122, lit_175, lit_176, lit_200, lit_255, lit_400, lit_700, lit_800, lit_999, lit_1000, lit_1400, lit_2000, lit_2033, lit_2038, lit_2100, lit_2124, lit_8000, lit_10000, lit_12345, lit_32767, lit_1000000, lit_1000000000, ↓bndX_h, ↓bndK_h, bxh_inl, bxh_inr, bkh_inl, bkh_inr, Nat.reduceEqDiff, ↓bnd_h, ↓lt_h, ↓ite_h, bh_some, lh_eq, ih_T, ih_F, ne_eq, not_false_eq_true, not_true_eq_false, eq_self, and_true, true_and, io_def, io_add, io_mul, io_sub, io_lt, io_le, io_eq, io_clamp, io_inbT, io_div, io_mod, io_m1, m1_io, m1_lt, m1_le, neg_1, gI_m1, false_and, and_false, if_false, if_true, and_self, mI_sI, mI_sL, mL_sI, mL_sL, mR_sI, mR_sL, hd, hs, d5, d6, s5, s6, ne1, nz1, nz2, nz3, nz4]
  refine Wp.seqh (c_copy hs1 hd1 (by omega) (by omega)) (fun _ M1 ⟨a1, a2⟩ => ?_)
  have e5 := a2.2.2 s rfl 6
  have e6 := a2.2.2 d rfl 6
  simp only [mR_sI] at e5 e6
  simp -dsimp (disch := first | assumption | omega) only [lit_0, lit_1, lit_2, lit_3, lit_4, lit_5, lit_6, lit_7, lit_8, lit_9, lit_10, lit_11, lit_12, lit_13, lit_14, lit_15, lit_16, lit_17, lit_18, lit_19, lit_20, lit_21, lit_22, lit_23, lit_24, lit_25, lit_26, lit_27, lit_28, lit_29, lit_30, lit_31, lit_32, lit_33, lit_34, lit_35, lit_36, lit_37, lit_38, lit_39, lit_40, lit_41, lit_42, lit_43, lit_44, lit_45, lit_46, lit_47, lit_48, lit_49, lit_50, lit_51, lit_52, lit_53, lit_54, lit_55, lit_56, lit_57, lit_58, lit_59, lit_60, lit_61, lit_62, lit_63, lit_64, lit_97, lit_99, lit_100, lit_122, lit_175, lit_176, lit_200, lit_255, lit_400, lit_700, lit_800, lit_999, lit_1000, lit_1400, lit_2000, lit_2033, lit_2038, lit_2100, lit_2124, lit_8000, lit_10000, lit_12345, lit_32767, lit_1000000, lit_1000000000, ↓bndX_h, ↓bndK_h, bxh_inl, bxh_inr, bkh_inl, bkh_inr, Nat.reduceEqDiff, ↓bnd_h, ↓lt_h, ↓ite_h, bh_some, lh_eq, ih_T, ih_F, ne_eq, not_false_eq_true, not_true_eq_false, eq_self, and_true, true_and, io_def, io_add, io_mul, io_sub, io_lt, io_le, io_eq, io_clamp, io_inbT, io_div, io_mod, io_m1, m1_io, m1_lt, m1_le, neg_1, gI_m1, false_and, and_false, if_false, if_true, and_self, mI_sI, mI_sL, mL_sI, mL_sL, mR_sI, mR_sL, e5, e6, s6, d6, nz1, nz2, nz3, nz4]
  refine Wp.seqh (c_copy hs2 hd2 (by omega) (by omega)) (fun _ M2 ⟨b1, b2⟩ => ?_)
  refine Wp.ret ⟨?_, fun b hb h => ?_⟩
  · have o0 : ob [(d, d + 2)] d = false := by simp [ob]
    have f1 : Fg [(d, d + 2)] [] M (sI (sI (sI (sI (sI M d 0 (mI M s 0)) d 1 (mI M s 1)) d 2 (mI M s 2)) d 3 (mI M s 3)) d 4 (mI M s 4)) := (((((Fg.refl.sI o0).sI o0).sI o0).sI o0).sI o0)
    refine (f1.trans (a2.sub (fun o ho => ?_) (fun _ h => h))).trans (b2.sub (fun o ho => ?_) (fun _ h => h))
    · simp only [ob, Bool.and_true, Bool.and_eq_true, Bool.or_eq_true, decide_eq_true_eq] at ho ⊢; omega
    · simp only [ob, Bool.and_true, Bool.and_eq_true, Bool.or_eq_true, decide_eq_true_eq] at ho ⊢; omega
  · obtain ⟨h0, h1, h2, h3, h4, h5, h6⟩ := h
    have k0 : ∀ k, mI M2 d k = mI (sI (sI (sI (sI (sI M d 0 (mI M s 0)) d 1 (mI M s 1)) d 2 (mI M s 2)) d 3 (mI M s 3)) d 4 (mI M s 4)) d k := fun k => by
      rw [b2.I (by simp [ob]), a2.I (by simp [ob])]
    refine ⟨?_, ?_, ?_, ?_, ?_, fun i hi => ?_, fun j hj => ?_⟩
    · rw [k0]; simp [mI_sI]; exact h0
    · rw [k0]; simp [mI_sI]; exact h1
    · rw [k0]; simp [mI_sI]; exact h2
    · rw [k0]; simp [mI_sI]; exact h3
    · rw [k0]; simp [mI_sI]; exact h4
    · rw [b2.I (by simp [ob]), a1 i (by omega)]
      rw [mI_sI, if_neg (by omega), mI_sI, if_neg (by omega), mI_sI, if_neg (by omega), mI_sI, if_neg (by omega), mI_sI, if_neg (by omega)]
      exact h5 i hi
    · rw [b1 j hj, a2.I (by simp [ob]; omega)]
      rw [mI_sI, if_neg (by omega), mI_sI, if_neg (by omega), mI_sI, if_neg (by omega), mI_sI, if_neg (by omega), mI_sI, if_neg (by omega)]
      exact h6 j hj
