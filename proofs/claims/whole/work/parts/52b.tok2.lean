/-! ===== LEVEL 2: gate: the reference's TOKENS ===== -/
theorem imin_n {w : Nat} (hw : w < 2147483648) : imin (io 10000) (io w) = io (min 10000 w) := by
  have e : (io w < io 10000) = (w < 10000) := io_lt hw (by omega)
  unfold imin
  by_cases c : w < 10000
  · rw [if_pos (e.symm ▸ c : io w < io 10000), Nat.min_eq_right (by omega)]
  · rw [if_neg (fun z => c (e ▸ z)), Nat.min_eq_left (by omega)]
theorem mk_ge {b : Nat} (h : mkB b = true) : 40 ≤ b := by
  unfold mkB at h
  simp only [Bool.or_eq_true, decide_eq_true_eq] at h
  omega
theorem m_byteAny {N : Mem} {P : Nat → Nat} {n k : Nat} (h : MSt N P n) (hn : n ≤ 700) (hk : k ≤ n) : zX12_byteAt 72 (io k) N = some (if k < n then io (P k) else m1, N) := by
  by_cases c : k < n
  · rw [if_pos c]; exact m_byteIn h hn c
  · rw [if_neg c, show k = n by omega]; exact m_byteEnd h hn
theorem m_adv {N : Mem} {P : Nat → Nat} {n e s q : Nat} (hn : n ≤ 700) (hPb : ∀ k, k < n → P k < 256) (h : MSt N P n) (h21 : mI N 72 21 = io e) (hes : e ≤ s) (hs : s ≤ n) (hbl : ∀ j, e ≤ j → j < s → blB (P j) = true) (hse : s = n ∨ (s < n ∧ blB (P s) = false))
    (hq : s < n → s < q ∧ q ≤ n ∧ (ltB (P s) = true → (∀ j, s ≤ j → j < q → ltB (P j) = true) ∧ (q = n ∨ (q < n ∧ ltB (P q) = false))) ∧ (ltB (P s) = false → dgB (P s) = true → (∀ j, s ≤ j → j < q → dgB (P j) = true) ∧ (q = n ∨ (q < n ∧ dgB (P q) = false))) ∧ (ltB (P s) = false → dgB (P s) = false → q = s + 1)) (hq0 : s = n → q = n) :
    Wp (zX12_stepOn 72 N) (fun _ N' => TkM N' s q (if s = n then 0 else kdS (P s)) (dvS P s (q - s)) ∧ On 72 [21, 23, 24, 25, 26] N N') := by
  unfold zX12_stepOn
  simp -dsimp (disch := first | assumption | omega) only [lit_0, lit_1, lit_2, lit_3, lit_4, lit_5, lit_6, lit_7, lit_8, lit_9, lit_10, lit_11, lit_12, lit_13, lit_14, lit_15, lit_16, lit_17, lit_18, lit_19, lit_20, lit_21, lit_22, lit_23, lit_24, lit_25, lit_26, lit_27, lit_28, lit_29, lit_30, lit_31, lit_32, lit_33, lit_34, lit_35, lit_36, lit_37, lit_38, lit_39, lit_40, lit_41, lit_42, lit_43, lit_44, lit_45, lit_46, lit_47, lit_48, lit_49, lit_50, lit_51, lit_52, lit_53, lit_54, lit_55, lit_56, lit_57, lit_58, lit_59, lit_60, lit_61, lit_62, lit_63, lit_64, lit_97, lit_99, lit_100, lit_122, lit_175, lit_176, lit_200, lit_255, lit_400, lit_700, lit_800, lit_999, lit_1000, lit_1400, lit_2000, lit_2033, lit_2038, lit_2100, lit_2124, lit_8000, lit_10000, lit_12345, lit_32767, lit_1000000, lit_1000000000, ↓bndX_h, ↓bndK_h, bxh_inl, bxh_inr, bkh_inl, bkh_inr, Nat.reduceEqDiff, ↓bnd_h, ↓lt_h, ↓ite_h, bh_some, lh_eq, ih_T, ih_F, ne_eq, not_false_eq_true, not_true_eq_false, eq_self, and_true, true_and, io_def, K0_72]
  generalize hFU : FU = fu
  rw [FU_val] at hFU
  have hFF : FU = fu := by rw [FU_val]; exact hFU
  refine loopW (L := fun f (j : Nat) U => zX12_stepOn_L0 f 72 U) (J := fun j U => e ≤ j ∧ j ≤ s ∧ mI U 72 21 = io j ∧ On 72 [21, 23, 24, 25, 26] N U) (fun j _ => s - j) ?_ fu e N ⟨Nat.le_refl _, hes, h21, On.refl⟩ (by omega)
  clear h21
  intro f j U ⟨hj1, hj2, e21, hF⟩ rec
  show Wp (zX12_stepOn_B0 (zX12_stepOn_L0 f) 72 U) _
  have hU := h.keep hF (by simp)
  have eb := m_byteAny (k := j) hU hn (by omega)
  unfold zX12_stepOn_B0 zX12_stepOn_B26
  simp -dsimp (disch := first | assumption | omega) only [lit_0, lit_1, lit_2, lit_3, lit_4, lit_5, lit_6, lit_7, lit_8, lit_9, lit_10, lit_11, lit_12, lit_13, lit_14, lit_15, lit_16, lit_17, lit_18, lit_19, lit_20, lit_21, lit_22, lit_23, lit_24, lit_25, lit_26, lit_27, lit_28, lit_29, lit_30, lit_31, lit_32, lit_33, lit_34, lit_35, lit_36, lit_37, lit_38, lit_39, lit_40, lit_41, lit_42, lit_43, lit_44, lit_45, lit_46, lit_47, lit_48, lit_49, lit_50, lit_51, lit_52, lit_53, lit_54, lit_55, lit_56, lit_57, lit_58, lit_59, lit_60, lit_61, lit_62, lit_63, lit_64, lit_97, lit_99, lit_100, lit_122, lit_175, lit_176, lit_200, lit_255, lit_400, lit_700, lit_800, lit_999, lit_1000, lit_1400, lit_2000, lit_2033, lit_2038, lit_2100, lit_2124, lit_8000, lit_10000, lit_12345, lit_32767, lit_1000000, lit_1000000000, ↓bndX_h, ↓bndK_h, bxh_inl, bxh_inr, bkh_inl, bkh_inr, Nat.reduceEqDiff, ↓bnd_h, ↓lt_h, ↓ite_h, bh_some, lh_eq, ih_T, ih_F, ne_eq, not_false_eq_true, not_true_eq_false, eq_self, and_true, true_and, io_def, e21, eb]
  by_cases z : j = s
  rotate_left
  · -- a blank
    have hk : j < n := by omega
    have hb := hbl j hj1 (by omega)
    have hb2 := hPb _ hk
    have rr := rec (j + 1) (sI U 72 21 (io (j + 1))) ⟨by omega, by omega, mI_same, hF.sI (by simp)⟩ (by omega)
    rw [if_pos hk]
    unfold blB at hb
    simp only [Bool.or_eq_true, decide_eq_true_eq] at hb
    simp -dsimp (disch := first | assumption | omega) only [lit_0, lit_1, lit_2, lit_3, lit_4, lit_5, lit_6, lit_7, lit_8, lit_9, lit_10, lit_11, lit_12, lit_13, lit_14, lit_15, lit_16, lit_17, lit_18, lit_19, lit_20, lit_21, lit_22, lit_23, lit_24, lit_25, lit_26, lit_27, lit_28, lit_29, lit_30, lit_31, lit_32, lit_33, lit_34, lit_35, lit_36, lit_37, lit_38, lit_39, lit_40, lit_41, lit_42, lit_43, lit_44, lit_45, lit_46, lit_47, lit_48, lit_49, lit_50, lit_51, lit_52, lit_53, lit_54, lit_55, lit_56, lit_57, lit_58, lit_59, lit_60, lit_61, lit_62, lit_63, lit_64, lit_97, lit_99, lit_100, lit_122, lit_175, lit_176, lit_200, lit_255, lit_400, lit_700, lit_800, lit_999, lit_1000, lit_1400, lit_2000, lit_2033, lit_2038, lit_2100, lit_2124, lit_8000, lit_10000, lit_12345, lit_32767, lit_1000000, lit_1000000000, ↓bndX_h, ↓bndK_h, bxh_inl, bxh_inr, bkh_inl, bkh_inr, Nat.reduceEqDiff, ↓bnd_h, ↓lt_h, ↓ite_h, bh_some, lh_eq, ih_T, ih_F, ne_eq, not_false_eq_true, not_true_eq_false, eq_self, and_true, true_and, io_def, io_add, io_mul, io_sub, io_lt, io_le, io_eq, io_clamp, io_inbT, io_div, io_mod, io_m1, m1_io, m1_lt, m1_le, neg_1, gI_m1]
    refine Wp.csh (fun c => ?_) (fun c => ?_)
    · simp -dsimp (disch := first | assumption | omega) only [lit_0, lit_1, lit_2, lit_3, lit_4, lit_5, lit_6, lit_7, lit_8, lit_9, lit_10, lit_11, lit_12, lit_13, lit_14, lit_15, lit_16, lit_17, lit_18, lit_19, lit_20, lit_21, lit_22, lit_23, lit_24, lit_25, lit_26, lit_27, lit_28, lit_29, lit_30, lit_31, lit_32, lit_33, lit_34, lit_35, lit_36, lit_37, lit_38, lit_39, lit_40, lit_41, lit_42, lit_43, lit_44, lit_45, lit_46, lit_47, lit_48, lit_49, lit_50, lit_51, lit_52, lit_53, lit_54, lit_55, lit_56, lit_57, lit_58, lit_59, lit_60, lit_61, lit_62, lit_63, lit_64, lit_97, lit_99, lit_100, lit_122, lit_175, lit_176, lit_200, lit_255, lit_400, lit_700, lit_800, lit_999, lit_1000, lit_1400, lit_2000, lit_2033, lit_2038, lit_2100, lit_2124, lit_8000, lit_10000, lit_12345, lit_32767, lit_1000000, lit_1000000000, ↓bndX_h, ↓bndK_h, bxh_inl, bxh_inr, bkh_inl, bkh_inr, Nat.reduceEqDiff, ↓bnd_h, ↓lt_h, ↓ite_h, bh_some, lh_eq, ih_T, ih_F, ne_eq, not_false_eq_true, not_true_eq_false, eq_self, and_true, true_and, io_def, e21, io_add]
      exact rr
    · have hP10 : P j = 10 := by omega
      rw [if_pos hk] at eb
      simp -dsimp (disch := first | assumption | omega) only [lit_0, lit_1, lit_2, lit_3, lit_4, lit_5, lit_6, lit_7, lit_8, lit_9, lit_10, lit_11, lit_12, lit_13, lit_14, lit_15, lit_16, lit_17, lit_18, lit_19, lit_20, lit_21, lit_22, lit_23, lit_24, lit_25, lit_26, lit_27, lit_28, lit_29, lit_30, lit_31, lit_32, lit_33, lit_34, lit_35, lit_36, lit_37, lit_38, lit_39, lit_40, lit_41, lit_42, lit_43, lit_44, lit_45, lit_46, lit_47, lit_48, lit_49, lit_50, lit_51, lit_52, lit_53, lit_54, lit_55, lit_56, lit_57, lit_58, lit_59, lit_60, lit_61, lit_62, lit_63, lit_64, lit_97, lit_99, lit_100, lit_122, lit_175, lit_176, lit_200, lit_255, lit_400, lit_700, lit_800, lit_999, lit_1000, lit_1400, lit_2000, lit_2033, lit_2038, lit_2100, lit_2124, lit_8000, lit_10000, lit_12345, lit_32767, lit_1000000, lit_1000000000, ↓bndX_h, ↓bndK_h, bxh_inl, bxh_inr, bkh_inl, bkh_inr, Nat.reduceEqDiff, ↓bnd_h, ↓lt_h, ↓ite_h, bh_some, lh_eq, ih_T, ih_F, ne_eq, not_false_eq_true, not_true_eq_false, eq_self, and_true, true_and, io_def, io_add, io_mul, io_sub, io_lt, io_le, io_eq, io_clamp, io_inbT, io_div, io_mod, io_m1, m1_io, m1_lt, m1_le, neg_1, gI_m1, e21, eb, hP10, io_add]
      exact rr
  subst z
  -- behind the blanks
  have hno : ∀ b : Nat, (b = 32 ∨ b = 10) → (if j < n then io (P j) else m1) ≠ io b := fun b hb hx => by
    by_cases c : j < n
    · rw [if_pos c, io_eq (by have := hPb j c; omega) (by omega)] at hx
      rcases hse with q1 | q1
      · omega
      · have q2 := q1.2
        unfold blB at q2
        simp only [Bool.or_eq_false_iff, decide_eq_false_iff_not] at q2
        omega
    · rw [if_neg c, m1_io2 (by omega)] at hx
      exact hx
  have h32 := hno 32 (Or.inl rfl)
  have h10 := hno 10 (Or.inr rfl)
  have hF1 : On 72 [21, 23, 24, 25, 26] N (sI U 72 25 (io j)) := hF.sI (by simp)
  have hU1 := h.keep hF1 (by simp)
  have eb1 := m_byteAny (k := j) hU1 hn hs
  have f21 : mI (sI U 72 25 (io j)) 72 21 = io j := by rw [mI_diff (Or.inr (by omega))]; exact e21
  have f25 : mI (sI U 72 25 (io j)) 72 25 = io j := mI_same
  simp -dsimp (disch := first | assumption | omega) only [lit_0, lit_1, lit_2, lit_3, lit_4, lit_5, lit_6, lit_7, lit_8, lit_9, lit_10, lit_11, lit_12, lit_13, lit_14, lit_15, lit_16, lit_17, lit_18, lit_19, lit_20, lit_21, lit_22, lit_23, lit_24, lit_25, lit_26, lit_27, lit_28, lit_29, lit_30, lit_31, lit_32, lit_33, lit_34, lit_35, lit_36, lit_37, lit_38, lit_39, lit_40, lit_41, lit_42, lit_43, lit_44, lit_45, lit_46, lit_47, lit_48, lit_49, lit_50, lit_51, lit_52, lit_53, lit_54, lit_55, lit_56, lit_57, lit_58, lit_59, lit_60, lit_61, lit_62, lit_63, lit_64, lit_97, lit_99, lit_100, lit_122, lit_175, lit_176, lit_200, lit_255, lit_400, lit_700, lit_800, lit_999, lit_1000, lit_1400, lit_2000, lit_2033, lit_2038, lit_2100, lit_2124, lit_8000, lit_10000, lit_12345, lit_32767, lit_1000000, lit_1000000000, ↓bndX_h, ↓bndK_h, bxh_inl, bxh_inr, bkh_inl, bkh_inr, Nat.reduceEqDiff, ↓bnd_h, ↓lt_h, ↓ite_h, bh_some, lh_eq, ih_T, ih_F, ne_eq, not_false_eq_true, not_true_eq_false, eq_self, and_true, true_and, io_def, h32, e21, eb, h10]
  generalize sI U 72 25 (io j) = U1 at hF1 hU1 eb1 f21 f25 ⊢
  simp -dsimp (disch := first | assumption | omega) only [lit_0, lit_1, lit_2, lit_3, lit_4, lit_5, lit_6, lit_7, lit_8, lit_9, lit_10, lit_11, lit_12, lit_13, lit_14, lit_15, lit_16, lit_17, lit_18, lit_19, lit_20, lit_21, lit_22, lit_23, lit_24, lit_25, lit_26, lit_27, lit_28, lit_29, lit_30, lit_31, lit_32, lit_33, lit_34, lit_35, lit_36, lit_37, lit_38, lit_39, lit_40, lit_41, lit_42, lit_43, lit_44, lit_45, lit_46, lit_47, lit_48, lit_49, lit_50, lit_51, lit_52, lit_53, lit_54, lit_55, lit_56, lit_57, lit_58, lit_59, lit_60, lit_61, lit_62, lit_63, lit_64, lit_97, lit_99, lit_100, lit_122, lit_175, lit_176, lit_200, lit_255, lit_400, lit_700, lit_800, lit_999, lit_1000, lit_1400, lit_2000, lit_2033, lit_2038, lit_2100, lit_2124, lit_8000, lit_10000, lit_12345, lit_32767, lit_1000000, lit_1000000000, ↓bndX_h, ↓bndK_h, bxh_inl, bxh_inr, bkh_inl, bkh_inr, Nat.reduceEqDiff, ↓bnd_h, ↓lt_h, ↓ite_h, bh_some, lh_eq, ih_T, ih_F, ne_eq, not_false_eq_true, not_true_eq_false, eq_self, and_true, true_and, io_def, f21, eb1, neg_1]
  clear rec hno h32 h10 hF hU eb e21
  -- the end of a token
  have fin : ∀ Y k, mI Y 72 21 = io q → mI Y 72 25 = io j → mI Y 72 23 = io (rkS k) → (k = 2 → q - j ≤ 3 → mI Y 72 24 = io (dvS P j (q - j))) → On 72 [21, 23, 24, 25, 26] N Y → k = (if j = n then 0 else kdS (P j)) → Wp (zX12_stepOn_B213 72 Y) (fun _ N' => TkM N' j q (if j = n then 0 else kdS (P j)) (dvS P j (q - j)) ∧ On 72 [21, 23, 24, 25, 26] N N') := fun Y k y1 y2 y3 y4 y5 y6 => by
    unfold zX12_stepOn_B213
    simp -dsimp (disch := first | assumption | omega) only [lit_0, lit_1, lit_2, lit_3, lit_4, lit_5, lit_6, lit_7, lit_8, lit_9, lit_10, lit_11, lit_12, lit_13, lit_14, lit_15, lit_16, lit_17, lit_18, lit_19, lit_20, lit_21, lit_22, lit_23, lit_24, lit_25, lit_26, lit_27, lit_28, lit_29, lit_30, lit_31, lit_32, lit_33, lit_34, lit_35, lit_36, lit_37, lit_38, lit_39, lit_40, lit_41, lit_42, lit_43, lit_44, lit_45, lit_46, lit_47, lit_48, lit_49, lit_50, lit_51, lit_52, lit_53, lit_54, lit_55, lit_56, lit_57, lit_58, lit_59, lit_60, lit_61, lit_62, lit_63, lit_64, lit_97, lit_99, lit_100, lit_122, lit_175, lit_176, lit_200, lit_255, lit_400, lit_700, lit_800, lit_999, lit_1000, lit_1400, lit_2000, lit_2033, lit_2038, lit_2100, lit_2124, lit_8000, lit_10000, lit_12345, lit_32767, lit_1000000, lit_1000000000, ↓bndX_h, ↓bndK_h, bxh_inl, bxh_inr, bkh_inl, bkh_inr, Nat.reduceEqDiff, ↓bnd_h, ↓lt_h, ↓ite_h, bh_some, lh_eq, ih_T, ih_F, ne_eq, not_false_eq_true, not_true_eq_false, eq_self, and_true, true_and, io_def, y1]
    rw [← y6]
    refine Wp.ret ⟨⟨?_, mI_same, ?_, ?_, fun z1 z2 => ?_⟩, y5.sI (by simp)⟩
    · rw [mI_diff (Or.inr (by omega))]; exact y2
    · rw [mI_diff (Or.inr (by omega))]; exact y1
    · rw [mI_diff (Or.inr (by omega))]; exact y3
    · rw [mI_diff (Or.inr (by omega))]; exact y4 z1 z2
  by_cases c : j < n
  rotate_left
  · have hjn : j = n := by omega
    have hq1 := hq0 hjn
    rw [if_neg c]
    simp -dsimp (disch := first | assumption | omega) only [lit_0, lit_1, lit_2, lit_3, lit_4, lit_5, lit_6, lit_7, lit_8, lit_9, lit_10, lit_11, lit_12, lit_13, lit_14, lit_15, lit_16, lit_17, lit_18, lit_19, lit_20, lit_21, lit_22, lit_23, lit_24, lit_25, lit_26, lit_27, lit_28, lit_29, lit_30, lit_31, lit_32, lit_33, lit_34, lit_35, lit_36, lit_37, lit_38, lit_39, lit_40, lit_41, lit_42, lit_43, lit_44, lit_45, lit_46, lit_47, lit_48, lit_49, lit_50, lit_51, lit_52, lit_53, lit_54, lit_55, lit_56, lit_57, lit_58, lit_59, lit_60, lit_61, lit_62, lit_63, lit_64, lit_97, lit_99, lit_100, lit_122, lit_175, lit_176, lit_200, lit_255, lit_400, lit_700, lit_800, lit_999, lit_1000, lit_1400, lit_2000, lit_2033, lit_2038, lit_2100, lit_2124, lit_8000, lit_10000, lit_12345, lit_32767, lit_1000000, lit_1000000000, ↓bndX_h, ↓bndK_h, bxh_inl, bxh_inr, bkh_inl, bkh_inr, Nat.reduceEqDiff, ↓bnd_h, ↓lt_h, ↓ite_h, bh_some, lh_eq, ih_T, ih_F, ne_eq, not_false_eq_true, not_true_eq_false, eq_self, and_true, true_and, io_def]
    refine fin _ 0 ?_ ?_ mI_same (fun z => absurd z (by decide)) (hF1.sI (by simp)) (by rw [if_pos hjn])
    · rw [mI_diff (Or.inr (by omega)), f21, hjn, hq1]
    · rw [mI_diff (Or.inr (by omega))]; exact f25
  obtain ⟨q1, q2, q3, q4, q5⟩ := hq c
  have hb := hPb j c
  rw [if_pos c]
  rw [if_neg (show ¬ j = n by omega)] at fin
  rw [if_neg (show ¬ j = n by omega)]
  simp -dsimp (disch := first | assumption | omega) only [lit_0, lit_1, lit_2, lit_3, lit_4, lit_5, lit_6, lit_7, lit_8, lit_9, lit_10, lit_11, lit_12, lit_13, lit_14, lit_15, lit_16, lit_17, lit_18, lit_19, lit_20, lit_21, lit_22, lit_23, lit_24, lit_25, lit_26, lit_27, lit_28, lit_29, lit_30, lit_31, lit_32, lit_33, lit_34, lit_35, lit_36, lit_37, lit_38, lit_39, lit_40, lit_41, lit_42, lit_43, lit_44, lit_45, lit_46, lit_47, lit_48, lit_49, lit_50, lit_51, lit_52, lit_53, lit_54, lit_55, lit_56, lit_57, lit_58, lit_59, lit_60, lit_61, lit_62, lit_63, lit_64, lit_97, lit_99, lit_100, lit_122, lit_175, lit_176, lit_200, lit_255, lit_400, lit_700, lit_800, lit_999, lit_1000, lit_1400, lit_2000, lit_2033, lit_2038, lit_2100, lit_2124, lit_8000, lit_10000, lit_12345, lit_32767, lit_1000000, lit_1000000000, ↓bndX_h, ↓bndK_h, bxh_inl, bxh_inr, bkh_inl, bkh_inr, Nat.reduceEqDiff, ↓bnd_h, ↓lt_h, ↓ite_h, bh_some, lh_eq, ih_T, ih_F, ne_eq, not_false_eq_true, not_true_eq_false, eq_self, and_true, true_and, io_def, io_add, io_mul, io_sub, io_lt, io_le, io_eq, io_clamp, io_inbT, io_div, io_mod, io_m1, m1_io, m1_lt, m1_le, neg_1, gI_m1, m_isLetter hb]
  cases hl : ltB (P j) with
  | true =>
    have hkd : kdS (P j) = 1 := by unfold kdS; rw [if_pos hl]
    rw [bI_t]
    simp -dsimp (disch := first | assumption | omega) only [lit_0, lit_1, lit_2, lit_3, lit_4, lit_5, lit_6, lit_7, lit_8, lit_9, lit_10, lit_11, lit_12, lit_13, lit_14, lit_15, lit_16, lit_17, lit_18, lit_19, lit_20, lit_21, lit_22, lit_23, lit_24, lit_25, lit_26, lit_27, lit_28, lit_29, lit_30, lit_31, lit_32, lit_33, lit_34, lit_35, lit_36, lit_37, lit_38, lit_39, lit_40, lit_41, lit_42, lit_43, lit_44, lit_45, lit_46, lit_47, lit_48, lit_49, lit_50, lit_51, lit_52, lit_53, lit_54, lit_55, lit_56, lit_57, lit_58, lit_59, lit_60, lit_61, lit_62, lit_63, lit_64, lit_97, lit_99, lit_100, lit_122, lit_175, lit_176, lit_200, lit_255, lit_400, lit_700, lit_800, lit_999, lit_1000, lit_1400, lit_2000, lit_2033, lit_2038, lit_2100, lit_2124, lit_8000, lit_10000, lit_12345, lit_32767, lit_1000000, lit_1000000000, ↓bndX_h, ↓bndK_h, bxh_inl, bxh_inr, bkh_inl, bkh_inr, Nat.reduceEqDiff, ↓bnd_h, ↓lt_h, ↓ite_h, bh_some, lh_eq, ih_T, ih_F, ne_eq, not_false_eq_true, not_true_eq_false, eq_self, and_true, true_and, io_def, io_add, io_mul, io_sub, io_lt, io_le, io_eq, io_clamp, io_inbT, io_div, io_mod, io_m1, m1_io, m1_lt, m1_le, neg_1, gI_m1, hFF]
    obtain ⟨r1, r2⟩ := q3 hl
    refine loopW (L := fun f (i : Nat) Y => zX12_stepOn_L76 f 72 Y) (J := fun i Y => j ≤ i ∧ i ≤ q ∧ mI Y 72 21 = io i ∧ mI Y 72 25 = io j ∧ On 72 [21, 23, 24, 25, 26] N Y) (fun i _ => q - i) ?_ fu j U1 ⟨Nat.le_refl _, by omega, f21, f25, hF1⟩ (by omega)
    intro f i Y ⟨hi1, hi2, y21, y25, hFY⟩ rec
    show Wp (zX12_stepOn_B76 (zX12_stepOn_L76 f) 72 Y) _
    have hY := h.keep hFY (by simp)
    have ey := m_byteAny (k := i) hY hn (by omega)
    have fin2 : i = q → Wp (zX12_stepOn_B213 72 (sI Y 72 23 (io 1))) (fun _ N' => TkM N' j q (kdS (P j)) (dvS P j (q - j)) ∧ On 72 [21, 23, 24, 25, 26] N N') := fun z => by
      refine fin _ 1 ?_ ?_ mI_same (fun z => absurd z (by decide)) (hFY.sI (by simp)) hkd.symm
      · rw [mI_diff (Or.inr (by omega)), y21, z]
      · rw [mI_diff (Or.inr (by omega))]; exact y25
    unfold zX12_stepOn_B76
    simp -dsimp (disch := first | assumption | omega) only [lit_0, lit_1, lit_2, lit_3, lit_4, lit_5, lit_6, lit_7, lit_8, lit_9, lit_10, lit_11, lit_12, lit_13, lit_14, lit_15, lit_16, lit_17, lit_18, lit_19, lit_20, lit_21, lit_22, lit_23, lit_24, lit_25, lit_26, lit_27, lit_28, lit_29, lit_30, lit_31, lit_32, lit_33, lit_34, lit_35, lit_36, lit_37, lit_38, lit_39, lit_40, lit_41, lit_42, lit_43, lit_44, lit_45, lit_46, lit_47, lit_48, lit_49, lit_50, lit_51, lit_52, lit_53, lit_54, lit_55, lit_56, lit_57, lit_58, lit_59, lit_60, lit_61, lit_62, lit_63, lit_64, lit_97, lit_99, lit_100, lit_122, lit_175, lit_176, lit_200, lit_255, lit_400, lit_700, lit_800, lit_999, lit_1000, lit_1400, lit_2000, lit_2033, lit_2038, lit_2100, lit_2124, lit_8000, lit_10000, lit_12345, lit_32767, lit_1000000, lit_1000000000, ↓bndX_h, ↓bndK_h, bxh_inl, bxh_inr, bkh_inl, bkh_inr, Nat.reduceEqDiff, ↓bnd_h, ↓lt_h, ↓ite_h, bh_some, lh_eq, ih_T, ih_F, ne_eq, not_false_eq_true, not_true_eq_false, eq_self, and_true, true_and, io_def, y21, ey]
    by_cases c2 : i < n
    · have hb2 := hPb i c2
      rw [if_pos c2]
      simp -dsimp (disch := first | assumption | omega) only [lit_0, lit_1, lit_2, lit_3, lit_4, lit_5, lit_6, lit_7, lit_8, lit_9, lit_10, lit_11, lit_12, lit_13, lit_14, lit_15, lit_16, lit_17, lit_18, lit_19, lit_20, lit_21, lit_22, lit_23, lit_24, lit_25, lit_26, lit_27, lit_28, lit_29, lit_30, lit_31, lit_32, lit_33, lit_34, lit_35, lit_36, lit_37, lit_38, lit_39, lit_40, lit_41, lit_42, lit_43, lit_44, lit_45, lit_46, lit_47, lit_48, lit_49, lit_50, lit_51, lit_52, lit_53, lit_54, lit_55, lit_56, lit_57, lit_58, lit_59, lit_60, lit_61, lit_62, lit_63, lit_64, lit_97, lit_99, lit_100, lit_122, lit_175, lit_176, lit_200, lit_255, lit_400, lit_700, lit_800, lit_999, lit_1000, lit_1400, lit_2000, lit_2033, lit_2038, lit_2100, lit_2124, lit_8000, lit_10000, lit_12345, lit_32767, lit_1000000, lit_1000000000, ↓bndX_h, ↓bndK_h, bxh_inl, bxh_inr, bkh_inl, bkh_inr, Nat.reduceEqDiff, ↓bnd_h, ↓lt_h, ↓ite_h, bh_some, lh_eq, ih_T, ih_F, ne_eq, not_false_eq_true, not_true_eq_false, eq_self, and_true, true_and, io_def, m_isLetter hb2]
      by_cases z : i = q
      · have hf : ltB (P i) = false := by
          rcases r2 with r2 | r2
          · omega
          · rw [z]; exact r2.2
        rw [hf, bI_f]
        simp -dsimp (disch := first | assumption | omega) only [lit_0, lit_1, lit_2, lit_3, lit_4, lit_5, lit_6, lit_7, lit_8, lit_9, lit_10, lit_11, lit_12, lit_13, lit_14, lit_15, lit_16, lit_17, lit_18, lit_19, lit_20, lit_21, lit_22, lit_23, lit_24, lit_25, lit_26, lit_27, lit_28, lit_29, lit_30, lit_31, lit_32, lit_33, lit_34, lit_35, lit_36, lit_37, lit_38, lit_39, lit_40, lit_41, lit_42, lit_43, lit_44, lit_45, lit_46, lit_47, lit_48, lit_49, lit_50, lit_51, lit_52, lit_53, lit_54, lit_55, lit_56, lit_57, lit_58, lit_59, lit_60, lit_61, lit_62, lit_63, lit_64, lit_97, lit_99, lit_100, lit_122, lit_175, lit_176, lit_200, lit_255, lit_400, lit_700, lit_800, lit_999, lit_1000, lit_1400, lit_2000, lit_2033, lit_2038, lit_2100, lit_2124, lit_8000, lit_10000, lit_12345, lit_32767, lit_1000000, lit_1000000000, ↓bndX_h, ↓bndK_h, bxh_inl, bxh_inr, bkh_inl, bkh_inr, Nat.reduceEqDiff, ↓bnd_h, ↓lt_h, ↓ite_h, bh_some, lh_eq, ih_T, ih_F, ne_eq, not_false_eq_true, not_true_eq_false, eq_self, and_true, true_and, io_def, io_add, io_mul, io_sub, io_lt, io_le, io_eq, io_clamp, io_inbT, io_div, io_mod, io_m1, m1_io, m1_lt, m1_le, neg_1, gI_m1]
        exact fin2 z
      · rw [r1 i hi1 (by omega), bI_t]
        simp -dsimp (disch := first | assumption | omega) only [lit_0, lit_1, lit_2, lit_3, lit_4, lit_5, lit_6, lit_7, lit_8, lit_9, lit_10, lit_11, lit_12, lit_13, lit_14, lit_15, lit_16, lit_17, lit_18, lit_19, lit_20, lit_21, lit_22, lit_23, lit_24, lit_25, lit_26, lit_27, lit_28, lit_29, lit_30, lit_31, lit_32, lit_33, lit_34, lit_35, lit_36, lit_37, lit_38, lit_39, lit_40, lit_41, lit_42, lit_43, lit_44, lit_45, lit_46, lit_47, lit_48, lit_49, lit_50, lit_51, lit_52, lit_53, lit_54, lit_55, lit_56, lit_57, lit_58, lit_59, lit_60, lit_61, lit_62, lit_63, lit_64, lit_97, lit_99, lit_100, lit_122, lit_175, lit_176, lit_200, lit_255, lit_400, lit_700, lit_800, lit_999, lit_1000, lit_1400, lit_2000, lit_2033, lit_2038, lit_2100, lit_2124, lit_8000, lit_10000, lit_12345, lit_32767, lit_1000000, lit_1000000000, ↓bndX_h, ↓bndK_h, bxh_inl, bxh_inr, bkh_inl, bkh_inr, Nat.reduceEqDiff, ↓bnd_h, ↓lt_h, ↓ite_h, bh_some, lh_eq, ih_T, ih_F, ne_eq, not_false_eq_true, not_true_eq_false, eq_self, and_true, true_and, io_def, io_add, io_mul, io_sub, io_lt, io_le, io_eq, io_clamp, io_inbT, io_div, io_mod, io_m1, m1_io, m1_lt, m1_le, neg_1, gI_m1, y21]
        exact rec (i + 1) _ ⟨by omega, by omega, mI_same, by rw [mI_diff (Or.inr (by omega))]; exact y25, hFY.sI (by simp)⟩ (by omega)
    · rw [if_neg c2]
      simp -dsimp (disch := first | assumption | omega) only [lit_0, lit_1, lit_2, lit_3, lit_4, lit_5, lit_6, lit_7, lit_8, lit_9, lit_10, lit_11, lit_12, lit_13, lit_14, lit_15, lit_16, lit_17, lit_18, lit_19, lit_20, lit_21, lit_22, lit_23, lit_24, lit_25, lit_26, lit_27, lit_28, lit_29, lit_30, lit_31, lit_32, lit_33, lit_34, lit_35, lit_36, lit_37, lit_38, lit_39, lit_40, lit_41, lit_42, lit_43, lit_44, lit_45, lit_46, lit_47, lit_48, lit_49, lit_50, lit_51, lit_52, lit_53, lit_54, lit_55, lit_56, lit_57, lit_58, lit_59, lit_60, lit_61, lit_62, lit_63, lit_64, lit_97, lit_99, lit_100, lit_122, lit_175, lit_176, lit_200, lit_255, lit_400, lit_700, lit_800, lit_999, lit_1000, lit_1400, lit_2000, lit_2033, lit_2038, lit_2100, lit_2124, lit_8000, lit_10000, lit_12345, lit_32767, lit_1000000, lit_1000000000, ↓bndX_h, ↓bndK_h, bxh_inl, bxh_inr, bkh_inl, bkh_inr, Nat.reduceEqDiff, ↓bnd_h, ↓lt_h, ↓ite_h, bh_some, lh_eq, ih_T, ih_F, ne_eq, not_false_eq_true, not_true_eq_false, eq_self, and_true, true_and, io_def, m_isLetterN]
      exact fin2 (by omega)
  | false =>
    rw [bI_f]
    simp -dsimp (disch := first | assumption | omega) only [lit_0, lit_1, lit_2, lit_3, lit_4, lit_5, lit_6, lit_7, lit_8, lit_9, lit_10, lit_11, lit_12, lit_13, lit_14, lit_15, lit_16, lit_17, lit_18, lit_19, lit_20, lit_21, lit_22, lit_23, lit_24, lit_25, lit_26, lit_27, lit_28, lit_29, lit_30, lit_31, lit_32, lit_33, lit_34, lit_35, lit_36, lit_37, lit_38, lit_39, lit_40, lit_41, lit_42, lit_43, lit_44, lit_45, lit_46, lit_47, lit_48, lit_49, lit_50, lit_51, lit_52, lit_53, lit_54, lit_55, lit_56, lit_57, lit_58, lit_59, lit_60, lit_61, lit_62, lit_63, lit_64, lit_97, lit_99, lit_100, lit_122, lit_175, lit_176, lit_200, lit_255, lit_400, lit_700, lit_800, lit_999, lit_1000, lit_1400, lit_2000, lit_2033, lit_2038, lit_2100, lit_2124, lit_8000, lit_10000, lit_12345, lit_32767, lit_1000000, lit_1000000000, ↓bndX_h, ↓bndK_h, bxh_inl, bxh_inr, bkh_inl, bkh_inr, Nat.reduceEqDiff, ↓bnd_h, ↓lt_h, ↓ite_h, bh_some, lh_eq, ih_T, ih_F, ne_eq, not_false_eq_true, not_true_eq_false, eq_self, and_true, true_and, io_def, io_add, io_mul, io_sub, io_lt, io_le, io_eq, io_clamp, io_inbT, io_div, io_mod, io_m1, m1_io, m1_lt, m1_le, neg_1, gI_m1, m_isDigit hb]
    cases hd : dgB (P j) with
    | true =>
      have hkd : kdS (P j) = 2 := by unfold kdS; rw [hl, hd]; rfl
      rw [bI_t]
      simp -dsimp (disch := first | assumption | omega) only [lit_0, lit_1, lit_2, lit_3, lit_4, lit_5, lit_6, lit_7, lit_8, lit_9, lit_10, lit_11, lit_12, lit_13, lit_14, lit_15, lit_16, lit_17, lit_18, lit_19, lit_20, lit_21, lit_22, lit_23, lit_24, lit_25, lit_26, lit_27, lit_28, lit_29, lit_30, lit_31, lit_32, lit_33, lit_34, lit_35, lit_36, lit_37, lit_38, lit_39, lit_40, lit_41, lit_42, lit_43, lit_44, lit_45, lit_46, lit_47, lit_48, lit_49, lit_50, lit_51, lit_52, lit_53, lit_54, lit_55, lit_56, lit_57, lit_58, lit_59, lit_60, lit_61, lit_62, lit_63, lit_64, lit_97, lit_99, lit_100, lit_122, lit_175, lit_176, lit_200, lit_255, lit_400, lit_700, lit_800, lit_999, lit_1000, lit_1400, lit_2000, lit_2033, lit_2038, lit_2100, lit_2124, lit_8000, lit_10000, lit_12345, lit_32767, lit_1000000, lit_1000000000, ↓bndX_h, ↓bndK_h, bxh_inl, bxh_inr, bkh_inl, bkh_inr, Nat.reduceEqDiff, ↓bnd_h, ↓lt_h, ↓ite_h, bh_some, lh_eq, ih_T, ih_F, ne_eq, not_false_eq_true, not_true_eq_false, eq_self, and_true, true_and, io_def, io_add, io_mul, io_sub, io_lt, io_le, io_eq, io_clamp, io_inbT, io_div, io_mod, io_m1, m1_io, m1_lt, m1_le, neg_1, gI_m1, hFF]
      obtain ⟨r1, r2⟩ := q4 hl hd
      refine loopW (L := fun f (i : Nat) Y => zX12_stepOn_L123 f 72 Y) (J := fun i Y => j + i ≤ q ∧ mI Y 72 21 = io (j + i) ∧ mI Y 72 25 = io j ∧ (∃ v, v ≤ 10000 ∧ mI Y 72 24 = io v ∧ (i ≤ 3 → v = dvS P j i)) ∧ On 72 [21, 23, 24, 25, 26] N Y) (fun i _ => q - (j + i)) ?_ fu 0 (sI U1 72 24 (io 0)) ⟨by omega, by rw [mI_diff (Or.inr (by omega))]; exact f21, by rw [mI_diff (Or.inr (by omega))]; exact f25, ⟨0, by omega, mI_same, fun _ => rfl⟩, hF1.sI (by simp)⟩ (by omega)
      intro f i Y ⟨hi2, y21, y25, ⟨v, hv, y24, hvd⟩, hFY⟩ rec
      show Wp (zX12_stepOn_B123 (zX12_stepOn_L123 f) 72 Y) _
      have hY := h.keep hFY (by simp)
      have ey := m_byteAny (k := j + i) hY hn (by omega)
      have fin2 : j + i = q → Wp (zX12_stepOn_B213 72 (sI Y 72 23 (io 2))) (fun _ N' => TkM N' j q (kdS (P j)) (dvS P j (q - j)) ∧ On 72 [21, 23, 24, 25, 26] N N') := fun z => by
        refine fin _ 2 ?_ ?_ mI_same (fun _ z2 => ?_) (hFY.sI (by simp)) hkd.symm
        · rw [mI_diff (Or.inr (by omega)), y21, z]
        · rw [mI_diff (Or.inr (by omega))]; exact y25
        · rw [mI_diff (Or.inr (by omega)), y24, hvd (by omega)]
          congr 2
          omega
      unfold zX12_stepOn_B123
      simp -dsimp (disch := first | assumption | omega) only [lit_0, lit_1, lit_2, lit_3, lit_4, lit_5, lit_6, lit_7, lit_8, lit_9, lit_10, lit_11, lit_12, lit_13, lit_14, lit_15, lit_16, lit_17, lit_18, lit_19, lit_20, lit_21, lit_22, lit_23, lit_24, lit_25, lit_26, lit_27, lit_28, lit_29, lit_30, lit_31, lit_32, lit_33, lit_34, lit_35, lit_36, lit_37, lit_38, lit_39, lit_40, lit_41, lit_42, lit_43, lit_44, lit_45, lit_46, lit_47, lit_48, lit_49, lit_50, lit_51, lit_52, lit_53, lit_54, lit_55, lit_56, lit_57, lit_58, lit_59, lit_60, lit_61, lit_62, lit_63, lit_64, lit_97, lit_99, lit_100, lit_122, lit_175, lit_176, lit_200, lit_255, lit_400, lit_700, lit_800, lit_999, lit_1000, lit_1400, lit_2000, lit_2033, lit_2038, lit_2100, lit_2124, lit_8000, lit_10000, lit_12345, lit_32767, lit_1000000, lit_1000000000, ↓bndX_h, ↓bndK_h, bxh_inl, bxh_inr, bkh_inl, bkh_inr, Nat.reduceEqDiff, ↓bnd_h, ↓lt_h, ↓ite_h, bh_some, lh_eq, ih_T, ih_F, ne_eq, not_false_eq_true, not_true_eq_false, eq_self, and_true, true_and, io_def, y21, ey]
      by_cases c2 : j + i < n
      · have hb2 := hPb _ c2
        rw [if_pos c2]
        simp -dsimp (disch := first | assumption | omega) only [lit_0, lit_1, lit_2, lit_3, lit_4, lit_5, lit_6, lit_7, lit_8, lit_9, lit_10, lit_11, lit_12, lit_13, lit_14, lit_15, lit_16, lit_17, lit_18, lit_19, lit_20, lit_21, lit_22, lit_23, lit_24, lit_25, lit_26, lit_27, lit_28, lit_29, lit_30, lit_31, lit_32, lit_33, lit_34, lit_35, lit_36, lit_37, lit_38, lit_39, lit_40, lit_41, lit_42, lit_43, lit_44, lit_45, lit_46, lit_47, lit_48, lit_49, lit_50, lit_51, lit_52, lit_53, lit_54, lit_55, lit_56, lit_57, lit_58, lit_59, lit_60, lit_61, lit_62, lit_63, lit_64, lit_97, lit_99, lit_100, lit_122, lit_175, lit_176, lit_200, lit_255, lit_400, lit_700, lit_800, lit_999, lit_1000, lit_1400, lit_2000, lit_2033, lit_2038, lit_2100, lit_2124, lit_8000, lit_10000, lit_12345, lit_32767, lit_1000000, lit_1000000000, ↓bndX_h, ↓bndK_h, bxh_inl, bxh_inr, bkh_inl, bkh_inr, Nat.reduceEqDiff, ↓bnd_h, ↓lt_h, ↓ite_h, bh_some, lh_eq, ih_T, ih_F, ne_eq, not_false_eq_true, not_true_eq_false, eq_self, and_true, true_and, io_def, m_isDigit hb2]
        by_cases z : j + i = q
        · have hf : dgB (P (j + i)) = false := by
            rcases r2 with r2 | r2
            · omega
            · rw [z]; exact r2.2
          rw [hf, bI_f]
          simp -dsimp (disch := first | assumption | omega) only [lit_0, lit_1, lit_2, lit_3, lit_4, lit_5, lit_6, lit_7, lit_8, lit_9, lit_10, lit_11, lit_12, lit_13, lit_14, lit_15, lit_16, lit_17, lit_18, lit_19, lit_20, lit_21, lit_22, lit_23, lit_24, lit_25, lit_26, lit_27, lit_28, lit_29, lit_30, lit_31, lit_32, lit_33, lit_34, lit_35, lit_36, lit_37, lit_38, lit_39, lit_40, lit_41, lit_42, lit_43, lit_44, lit_45, lit_46, lit_47, lit_48, lit_49, lit_50, lit_51, lit_52, lit_53, lit_54, lit_55, lit_56, lit_57, lit_58, lit_59, lit_60, lit_61, lit_62, lit_63, lit_64, lit_97, lit_99, lit_100, lit_122, lit_175, lit_176, lit_200, lit_255, lit_400, lit_700, lit_800, lit_999, lit_1000, lit_1400, lit_2000, lit_2033, lit_2038, lit_2100, lit_2124, lit_8000, lit_10000, lit_12345, lit_32767, lit_1000000, lit_1000000000, ↓bndX_h, ↓bndK_h, bxh_inl, bxh_inr, bkh_inl, bkh_inr, Nat.reduceEqDiff, ↓bnd_h, ↓lt_h, ↓ite_h, bh_some, lh_eq, ih_T, ih_F, ne_eq, not_false_eq_true, not_true_eq_false, eq_self, and_true, true_and, io_def, io_add, io_mul, io_sub, io_lt, io_le, io_eq, io_clamp, io_inbT, io_div, io_mod, io_m1, m1_io, m1_lt, m1_le, neg_1, gI_m1]
          exact fin2 z
        · have ht := r1 (j + i) (by omega) (by omega)
          have hr := dg_range ht
          have hdv := dvS_le (P := P) (s := j) i (fun x hx => r1 (j + x) (by omega) (by omega))
          rw [if_pos c2] at ey
          rw [ht, bI_t]
          have hio : io 10 * io v + io (P (j + i)) - io 48 = io (10 * v + P (j + i) - 48) := by rw [io_mul, io_add, io_sub (by omega)]
          have him := imin_n (w := 10 * v + P (j + i) - 48) (by omega)
          have e21' : ∀ x, mI (sI Y 72 24 x) 72 21 = io (j + i) := fun x => by rw [mI_diff (Or.inr (by omega))]; exact y21
          have r := rec (i + 1) (sI (sI Y 72 24 (io (min 10000 (10 * v + P (j + i) - 48)))) 72 21 (io (j + (i + 1)))) ⟨by omega, mI_same, by rw [mI_diff (Or.inr (by omega)), mI_diff (Or.inr (by omega))]; exact y25, ⟨_, Nat.min_le_left _ _, by rw [mI_diff (Or.inr (by omega)), mI_same], fun hi3 => ?_⟩, (hFY.sI (by simp)).sI (by simp)⟩ (by omega)
          · rw [← Nat.add_assoc] at r
            simp -dsimp (disch := first | assumption | omega) only [lit_0, lit_1, lit_2, lit_3, lit_4, lit_5, lit_6, lit_7, lit_8, lit_9, lit_10, lit_11, lit_12, lit_13, lit_14, lit_15, lit_16, lit_17, lit_18, lit_19, lit_20, lit_21, lit_22, lit_23, lit_24, lit_25, lit_26, lit_27, lit_28, lit_29, lit_30, lit_31, lit_32, lit_33, lit_34, lit_35, lit_36, lit_37, lit_38, lit_39, lit_40, lit_41, lit_42, lit_43, lit_44, lit_45, lit_46, lit_47, lit_48, lit_49, lit_50, lit_51, lit_52, lit_53, lit_54, lit_55, lit_56, lit_57, lit_58, lit_59, lit_60, lit_61, lit_62, lit_63, lit_64, lit_97, lit_99, lit_100, lit_122, lit_175, lit_176, lit_200, lit_255, lit_400, lit_700, lit_800, lit_999, lit_1000, lit_1400, lit_2000, lit_2033, lit_2038, lit_2100, lit_2124, lit_8000, lit_10000, lit_12345, lit_32767, lit_1000000, lit_1000000000, ↓bndX_h, ↓bndK_h, bxh_inl, bxh_inr, bkh_inl, bkh_inr, Nat.reduceEqDiff, ↓bnd_h, ↓lt_h, ↓ite_h, bh_some, lh_eq, ih_T, ih_F, ne_eq, not_false_eq_true, not_true_eq_false, eq_self, and_true, true_and, io_def, y21, ey, y24, io_eq, hio, him, e21', io_add]
            exact r
          · have hve := hvd (by omega)
            have hw : 10 ^ i ≤ 10 ^ 2 := Nat.pow_le_pow_right (by decide) (by omega)
            have hdl : dvS P j i < 100 := Nat.lt_of_lt_of_le hdv hw
            show _ = dvS P j i * 10 + P (j + i) - 48
            rw [Nat.min_eq_right (by omega), hve, Nat.mul_comm]
      · rw [if_neg c2]
        simp -dsimp (disch := first | assumption | omega) only [lit_0, lit_1, lit_2, lit_3, lit_4, lit_5, lit_6, lit_7, lit_8, lit_9, lit_10, lit_11, lit_12, lit_13, lit_14, lit_15, lit_16, lit_17, lit_18, lit_19, lit_20, lit_21, lit_22, lit_23, lit_24, lit_25, lit_26, lit_27, lit_28, lit_29, lit_30, lit_31, lit_32, lit_33, lit_34, lit_35, lit_36, lit_37, lit_38, lit_39, lit_40, lit_41, lit_42, lit_43, lit_44, lit_45, lit_46, lit_47, lit_48, lit_49, lit_50, lit_51, lit_52, lit_53, lit_54, lit_55, lit_56, lit_57, lit_58, lit_59, lit_60, lit_61, lit_62, lit_63, lit_64, lit_97, lit_99, lit_100, lit_122, lit_175, lit_176, lit_200, lit_255, lit_400, lit_700, lit_800, lit_999, lit_1000, lit_1400, lit_2000, lit_2033, lit_2038, lit_2100, lit_2124, lit_8000, lit_10000, lit_12345, lit_32767, lit_1000000, lit_1000000000, ↓bndX_h, ↓bndK_h, bxh_inl, bxh_inr, bkh_inl, bkh_inr, Nat.reduceEqDiff, ↓bnd_h, ↓lt_h, ↓ite_h, bh_some, lh_eq, ih_T, ih_F, ne_eq, not_false_eq_true, not_true_eq_false, eq_self, and_true, true_and, io_def, m_isDigitN]
        exact fin2 (by omega)
    | false =>
      rw [bI_f]
      have hqs := q5 hl hd
      subst hqs
      have g25 : mI (sI U1 72 21 (io (j + 1))) 72 25 = io j := by rw [mI_diff (Or.inr (by omega))]; exact f25
      have g21 : mI (sI U1 72 21 (io (j + 1))) 72 21 = io (j + 1) := mI_same
      have gF : On 72 [21, 23, 24, 25, 26] N (sI U1 72 21 (io (j + 1))) := hF1.sI (by simp)
      simp -dsimp (disch := first | assumption | omega) only [lit_0, lit_1, lit_2, lit_3, lit_4, lit_5, lit_6, lit_7, lit_8, lit_9, lit_10, lit_11, lit_12, lit_13, lit_14, lit_15, lit_16, lit_17, lit_18, lit_19, lit_20, lit_21, lit_22, lit_23, lit_24, lit_25, lit_26, lit_27, lit_28, lit_29, lit_30, lit_31, lit_32, lit_33, lit_34, lit_35, lit_36, lit_37, lit_38, lit_39, lit_40, lit_41, lit_42, lit_43, lit_44, lit_45, lit_46, lit_47, lit_48, lit_49, lit_50, lit_51, lit_52, lit_53, lit_54, lit_55, lit_56, lit_57, lit_58, lit_59, lit_60, lit_61, lit_62, lit_63, lit_64, lit_97, lit_99, lit_100, lit_122, lit_175, lit_176, lit_200, lit_255, lit_400, lit_700, lit_800, lit_999, lit_1000, lit_1400, lit_2000, lit_2033, lit_2038, lit_2100, lit_2124, lit_8000, lit_10000, lit_12345, lit_32767, lit_1000000, lit_1000000000, ↓bndX_h, ↓bndK_h, bxh_inl, bxh_inr, bkh_inl, bkh_inr, Nat.reduceEqDiff, ↓bnd_h, ↓lt_h, ↓ite_h, bh_some, lh_eq, ih_T, ih_F, ne_eq, not_false_eq_true, not_true_eq_false, eq_self, and_true, true_and, io_def, io_add, io_mul, io_sub, io_lt, io_le, io_eq, io_clamp, io_inbT, io_div, io_mod, io_m1, m1_io, m1_lt, m1_le, neg_1, gI_m1, f21, m_isMark hb]
      generalize sI U1 72 21 (io (j + 1)) = U2 at g25 g21 gF ⊢
      unfold zX12_stepOn_B210
      cases hm : mkB (P j) with
      | true =>
        have hkd : kdS (P j) = P j := by unfold kdS; rw [hl, hd, hm]; rfl
        have hge := mk_ge hm
        rw [bI_t]
        simp -dsimp (disch := first | assumption | omega) only [lit_0, lit_1, lit_2, lit_3, lit_4, lit_5, lit_6, lit_7, lit_8, lit_9, lit_10, lit_11, lit_12, lit_13, lit_14, lit_15, lit_16, lit_17, lit_18, lit_19, lit_20, lit_21, lit_22, lit_23, lit_24, lit_25, lit_26, lit_27, lit_28, lit_29, lit_30, lit_31, lit_32, lit_33, lit_34, lit_35, lit_36, lit_37, lit_38, lit_39, lit_40, lit_41, lit_42, lit_43, lit_44, lit_45, lit_46, lit_47, lit_48, lit_49, lit_50, lit_51, lit_52, lit_53, lit_54, lit_55, lit_56, lit_57, lit_58, lit_59, lit_60, lit_61, lit_62, lit_63, lit_64, lit_97, lit_99, lit_100, lit_122, lit_175, lit_176, lit_200, lit_255, lit_400, lit_700, lit_800, lit_999, lit_1000, lit_1400, lit_2000, lit_2033, lit_2038, lit_2100, lit_2124, lit_8000, lit_10000, lit_12345, lit_32767, lit_1000000, lit_1000000000, ↓bndX_h, ↓bndK_h, bxh_inl, bxh_inr, bkh_inl, bkh_inr, Nat.reduceEqDiff, ↓bnd_h, ↓lt_h, ↓ite_h, bh_some, lh_eq, ih_T, ih_F, ne_eq, not_false_eq_true, not_true_eq_false, eq_self, and_true, true_and, io_def, io_add, io_mul, io_sub, io_lt, io_le, io_eq, io_clamp, io_inbT, io_div, io_mod, io_m1, m1_io, m1_lt, m1_le, neg_1, gI_m1, K0_72]
        refine fin _ (P j) ?_ ?_ ?_ (fun z => by omega) (gF.sI (by simp)) hkd.symm
        · rw [mI_diff (Or.inr (by omega))]; exact g21
        · rw [mI_diff (Or.inr (by omega))]; exact g25
        · rw [mI_same]
          unfold rkS
          rw [if_neg (by omega), if_neg (by omega)]
      | false =>
        have hkd : kdS (P j) = 3 := by unfold kdS; rw [hl, hd, hm]; rfl
        rw [bI_f]
        simp -dsimp (disch := first | assumption | omega) only [lit_0, lit_1, lit_2, lit_3, lit_4, lit_5, lit_6, lit_7, lit_8, lit_9, lit_10, lit_11, lit_12, lit_13, lit_14, lit_15, lit_16, lit_17, lit_18, lit_19, lit_20, lit_21, lit_22, lit_23, lit_24, lit_25, lit_26, lit_27, lit_28, lit_29, lit_30, lit_31, lit_32, lit_33, lit_34, lit_35, lit_36, lit_37, lit_38, lit_39, lit_40, lit_41, lit_42, lit_43, lit_44, lit_45, lit_46, lit_47, lit_48, lit_49, lit_50, lit_51, lit_52, lit_53, lit_54, lit_55, lit_56, lit_57, lit_58, lit_59, lit_60, lit_61, lit_62, lit_63, lit_64, lit_97, lit_99, lit_100, lit_122, lit_175, lit_176, lit_200, lit_255, lit_400, lit_700, lit_800, lit_999, lit_1000, lit_1400, lit_2000, lit_2033, lit_2038, lit_2100, lit_2124, lit_8000, lit_10000, lit_12345, lit_32767, lit_1000000, lit_1000000000, ↓bndX_h, ↓bndK_h, bxh_inl, bxh_inr, bkh_inl, bkh_inr, Nat.reduceEqDiff, ↓bnd_h, ↓lt_h, ↓ite_h, bh_some, lh_eq, ih_T, ih_F, ne_eq, not_false_eq_true, not_true_eq_false, eq_self, and_true, true_and, io_def, io_add, io_mul, io_sub, io_lt, io_le, io_eq, io_clamp, io_inbT, io_div, io_mod, io_m1, m1_io, m1_lt, m1_le, neg_1, gI_m1, K0_72]
        refine fin _ 3 ?_ ?_ ?_ (fun z => absurd z (by decide)) (gF.sI (by simp)) hkd.symm
        · rw [mI_diff (Or.inr (by omega))]; exact g21
        · rw [mI_diff (Or.inr (by omega))]; exact g25
        · rw [mI_same]; rfl
/-- both step on alike -/
theorem sim_adv {P : Nat → Nat} {n e : Nat} (hn : n ≤ 700) (hPb : ∀ k, k < n → P k < 256) (he : e ≤ n) : ∃ s q k m, VT P n s q k m ∧ e ≤ s ∧ (∀ M, CSt M P n → mI M 2 6 = io e → Wp (zX6_advance 2 M) (fun _ M' => TkC M' s q k m ∧ On 2 [5, 6, 7, 8] M M')) ∧ ∀ N, MSt N P n → mI N 72 21 = io e → Wp (zX12_stepOn 72 N) (fun _ N' => TkM N' s q k m ∧ On 72 [21, 23, 24, 25, 26] N N') := by
  obtain ⟨s, s1, s2, s3, s4⟩ := ex_until (fun j => blB (P j)) n (n - e) e (Nat.le_refl _) he
  have hex : ∃ q, (s < n → s < q ∧ q ≤ n ∧ (ltB (P s) = true → (∀ j, s ≤ j → j < q → ltB (P j) = true) ∧ (q = n ∨ (q < n ∧ ltB (P q) = false))) ∧ (ltB (P s) = false → dgB (P s) = true → (∀ j, s ≤ j → j < q → dgB (P j) = true) ∧ (q = n ∨ (q < n ∧ dgB (P q) = false))) ∧ (ltB (P s) = false → dgB (P s) = false → q = s + 1)) ∧ (s = n → q = n) := by
    by_cases c : s = n
    · exact ⟨n, fun h => by omega, fun _ => rfl⟩
    · cases hl : ltB (P s) with
      | true =>
        obtain ⟨q, q1, q2, q3, q4⟩ := ex_until (fun j => ltB (P j)) n (n - s) s (Nat.le_refl _) s2
        refine ⟨q, fun _ => ⟨?_, q2, fun _ => ⟨q3, q4⟩, fun z => absurd z (by decide), fun z => absurd z (by decide)⟩, fun z => absurd z c⟩
        rcases Nat.lt_or_ge s q with z | z
        · exact z
        · have : q = s := by omega
          subst this
          rcases q4 with q4 | q4
          · exact absurd q4 c
          · rw [hl] at q4; exact absurd q4.2 (by decide)
      | false =>
        cases hd : dgB (P s) with
        | true =>
          obtain ⟨q, q1, q2, q3, q4⟩ := ex_until (fun j => dgB (P j)) n (n - s) s (Nat.le_refl _) s2
          refine ⟨q, fun _ => ⟨?_, q2, fun z => absurd z (by decide), fun _ _ => ⟨q3, q4⟩, fun _ z => absurd z (by decide)⟩, fun z => absurd z c⟩
          rcases Nat.lt_or_ge s q with z | z
          · exact z
          · have : q = s := by omega
            subst this
            rcases q4 with q4 | q4
            · exact absurd q4 c
            · rw [hd] at q4; exact absurd q4.2 (by decide)
        | false => exact ⟨s + 1, fun _ => ⟨by omega, by omega, fun z => absurd z (by decide), fun _ z => absurd z (by decide), fun _ _ => rfl⟩, fun z => absurd z c⟩
  obtain ⟨q, h1, h2⟩ := hex
  refine ⟨s, q, (if s = n then 0 else kdS (P s)), dvS P s (q - s), ?_, s1, fun M hM h6 => c_adv hn hPb hM h6 s1 s2 s3 s4 h1 h2, fun N hN h21 => m_adv hn hPb hN h21 s1 s2 s3 s4 h1 h2⟩
  by_cases c : s = n
  · have := h2 c
    refine ⟨by omega, by omega, fun _ => c, fun z => ?_, fun z => ?_, fun z => ?_, ?_⟩
    · rw [if_pos c] at z; exact absurd rfl z
    · rw [if_pos c] at z; omega
    · rw [if_pos c] at z; omega
    · rw [if_pos c]; omega
  · have hc : s < n := by omega
    obtain ⟨q1, q2, q3, q4, q5⟩ := h1 hc
    have hb := hPb s hc
    rw [if_neg c]
    cases hl : ltB (P s) with
    | true =>
      have hkd : kdS (P s) = 1 := by unfold kdS; rw [hl]; rfl
      rw [hkd]
      exact ⟨by omega, q2, fun z => absurd z (by decide), fun _ => q1, fun z => absurd z (by decide), fun z => absurd z (by decide), by decide⟩
    | false =>
      cases hd : dgB (P s) with
      | true =>
        have hkd : kdS (P s) = 2 := by unfold kdS; rw [hl, hd]; rfl
        rw [hkd]
        refine ⟨by omega, q2, fun z => absurd z (by decide), fun _ => q1, fun z => absurd z (by decide), fun _ z => ?_, by decide⟩
        have hdv := dvS_le (P := P) (s := s) (q - s) (fun i hi => (q4 hl hd).1 (s + i) (by omega) (by omega))
        have hw : 10 ^ (q - s) ≤ 10 ^ 3 := Nat.pow_le_pow_right (by decide) z
        omega
      | false =>
        cases hm : mkB (P s) with
        | true =>
          have hge := mk_ge hm
          have hkd : kdS (P s) = P s := by unfold kdS; rw [hl, hd, hm]; rfl
          rw [hkd]
          exact ⟨by omega, q2, fun z => by omega, fun _ => q1, fun _ => rfl, fun z => by omega, hb⟩
        | false =>
          have hkd : kdS (P s) = 3 := by unfold kdS; rw [hl, hd, hm]; rfl
          rw [hkd]
          exact ⟨by omega, q2, fun z => absurd z (by decide), fun _ => q1, fun z => absurd z (by decide), fun z => absurd z (by decide), by decide⟩
