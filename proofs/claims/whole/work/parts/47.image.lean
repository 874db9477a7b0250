/-! ===== LEVEL 2: image, restore ===== -/
theorem c_copy {a b n : Nat} {M : Mem} (hKa : K0 a = (1, n)) (hKb : K0 b = (1, n)) (hn : n ≤ 100000) (hab : a ≠ b) :
    Wp (zX11_copy a b M) (fun _ M' => (∀ k, k < n → mI M' b k = mI M a k) ∧ Fg [(b, b)] [] M M') := by
  have hab2 : (a = b) = False := eq_false hab
  unfold zX11_copy
  refine loopW (L := fun f (i : Nat) U => zX11_copy_L2 f a b (io i) U) (J := fun i U => i ≤ n ∧ (∀ k, k < i → mI U b k = mI M a k) ∧ Fg [(b, b)] [] M U) (fun i _ => n - i) ?_ FU 0 M ⟨Nat.zero_le _, fun k hk => absurd hk (Nat.not_lt_zero _), Fg.refl⟩ (by rw [FU_val]; omega)
  intro f i U ⟨hi, hall, hF⟩ rec
  show Wp (zX11_copy_B2 (zX11_copy_L2 f) a b (io i) U) _
  unfold zX11_copy_B2
  have eI : ∀ j, Int32.ofNat j = io j := fun j => rfl
  simp -dsimp (disch := first | assumption | omega) only [lit_0, lit_1, lit_2, lit_3, lit_4, lit_5, lit_6, lit_7, lit_8, lit_9, lit_10, lit_11, lit_12, lit_13, lit_14, lit_15, lit_16, lit_17, lit_18, lit_19, lit_20, lit_21, lit_22, lit_23, lit_24, lit_25, lit_26, lit_27, lit_28, lit_29, lit_30, lit_31, lit_32, lit_33, lit_34, lit_35, lit_36, lit_37, lit_38, lit_39, lit_40, lit_41, lit_42, lit_43, lit_44, lit_45, lit_46, lit_47, lit_48, lit_49, lit_50, lit_51, lit_52, lit_53, lit_54, lit_55, lit_56, lit_57, lit_58, lit_59, lit_60, lit_61, lit_62, lit_63, lit_64, lit_97, lit_99, lit_100, lit_122, lit_175, lit_176, lit_200, lit_255, lit_400, lit_700, lit_800, lit_999, lit_1000, lit_1400, lit_2000, lit_2033, lit_2038, lit_2100, lit_2124, lit_8000, lit_10000, lit_12345, lit_32767, lit_1000000, lit_1000000000, ↓bndX_h, ↓bndK_h, bxh_inl, bxh_inr, bkh_inl, bkh_inr, Nat.reduceEqDiff, ↓bnd_h, ↓lt_h, ↓ite_h, bh_some, lh_eq, ih_T, ih_F, ne_eq, not_false_eq_true, not_true_eq_false, eq_self, and_true, true_and, io_def, io_add, io_mul, io_sub, io_lt, io_le, io_eq, io_clamp, io_inbT, io_div, io_mod, io_m1, m1_io, m1_lt, m1_le, neg_1, gI_m1, hKa, hKb, eI]
  refine Wp.csh (fun c => ?_) (fun c => ?_)
  · rw [show n = i by omega]
    exact Wp.ret ⟨hall, hF⟩
  · simp -dsimp (disch := first | assumption | omega) only [lit_0, lit_1, lit_2, lit_3, lit_4, lit_5, lit_6, lit_7, lit_8, lit_9, lit_10, lit_11, lit_12, lit_13, lit_14, lit_15, lit_16, lit_17, lit_18, lit_19, lit_20, lit_21, lit_22, lit_23, lit_24, lit_25, lit_26, lit_27, lit_28, lit_29, lit_30, lit_31, lit_32, lit_33, lit_34, lit_35, lit_36, lit_37, lit_38, lit_39, lit_40, lit_41, lit_42, lit_43, lit_44, lit_45, lit_46, lit_47, lit_48, lit_49, lit_50, lit_51, lit_52, lit_53, lit_54, lit_55, lit_56, lit_57, lit_58, lit_59, lit_60, lit_61, lit_62, lit_63, lit_64, lit_97, lit_99, lit_100, lit_122, lit_175, lit_176, lit_200, lit_255, lit_400, lit_700, lit_800, lit_999, lit_1000, lit_1400, lit_2000, lit_2033, lit_2038, lit_2100, lit_2124, lit_8000, lit_10000, lit_12345, lit_32767, lit_1000000, lit_1000000000, ↓bndX_h, ↓bndK_h, bxh_inl, bxh_inr, bkh_inl, bkh_inr, Nat.reduceEqDiff, ↓bnd_h, ↓lt_h, ↓ite_h, bh_some, lh_eq, ih_T, ih_F, ne_eq, not_false_eq_true, not_true_eq_false, eq_self, and_true, true_and, io_def, io_add, io_mul, io_sub, io_lt, io_le, io_eq, io_clamp, io_inbT, io_div, io_mod, io_m1, m1_io, m1_lt, m1_le, neg_1, gI_m1, hKa, hKb, eI, c]
    refine rec (i + 1) _ ⟨by omega, fun k hk => ?_, hF.sI (by simp [ob])⟩ (by omega)
    rw [mI_sI]
    by_cases q : k = i
    · subst q
      rw [if_pos ⟨rfl, rfl⟩]
      exact hF.I (by simp [ob]; omega)
    · rw [if_neg (fun z => q z.2)]
      exact hall k (by omega)
theorem m_be {a b n : Nat} {M : Mem} (hKa : K0 a = (1, n)) (hKb : K0 b = (1, n)) (hn : n ≤ 100000) (hab : a ≠ b) :
    Wp (zX12_be b a M) (fun _ M' => (∀ k, k < n → mI M' b k = mI M a k) ∧ Fg [(b, b)] [] M M') := by
  unfold zX12_be
  refine loopW (L := fun f (i : Nat) U => zX12_be_L2 f b a (io i) U) (J := fun i U => i ≤ n ∧ (∀ k, k < i → mI U b k = mI M a k) ∧ Fg [(b, b)] [] M U) (fun i _ => n - i) ?_ FU 0 M ⟨Nat.zero_le _, fun k hk => absurd hk (Nat.not_lt_zero _), Fg.refl⟩ (by rw [FU_val]; omega)
  intro f i U ⟨hi, hall, hF⟩ rec
  show Wp (zX12_be_B2 (zX12_be_L2 f) b a (io i) U) _
  unfold zX12_be_B2
  have eI : ∀ j, Int32.ofNat j = io j := fun j => rfl
  simp -dsimp (disch := first | assumption | omega) only [lit_0, lit_1, lit_2, lit_3, lit_4, lit_5, lit_6, lit_7, lit_8, lit_9, lit_10, lit_11, lit_12, lit_13, lit_14, lit_15, lit_16, lit_17, lit_18, lit_19, lit_20, lit_21, lit_22, lit_23, lit_24, lit_25, lit_26, lit_27, lit_28, lit_29, lit_30, lit_31, lit_32, lit_33, lit_34, lit_35, lit_36, lit_37, lit_38, lit_39, lit_40, lit_41, lit_42, lit_43, lit_44, lit_45, lit_46, lit_47, lit_48, lit_49, lit_50, lit_51, lit_52, lit_53, lit_54, lit_55, lit_56, lit_57, lit_58, lit_59, lit_60, lit_61, lit_62, lit_63, lit_64, lit_97, lit_99, lit_100, lit_122, lit_175, lit_176, lit_200, lit_255, lit_400, lit_700, lit_800, lit_999, lit_1000, lit_1400, lit_2000, lit_2033, lit_2038, lit_2100, lit_2124, lit_8000, lit_10000, lit_12345, lit_32767, lit_1000000, lit_1000000000, ↓bndX_h, ↓bndK_h, bxh_inl, bxh_inr, bkh_inl, bkh_inr, Nat.reduceEqDiff, ↓bnd_h, ↓lt_h, ↓ite_h, bh_some, lh_eq, ih_T, ih_F, ne_eq, not_false_eq_true, not_true_eq_false, eq_self, and_true, true_and, io_def, io_add, io_mul, io_sub, io_lt, io_le, io_eq, io_clamp, io_inbT, io_div, io_mod, io_m1, m1_io, m1_lt, m1_le, neg_1, gI_m1, hKa, hKb, eI]
  refine Wp.csh (fun c => ?_) (fun c => ?_)
  · rw [show n = i by omega]
    exact Wp.ret ⟨hall, hF⟩
  · simp -dsimp (disch := first | assumption | omega) only [lit_0, lit_1, lit_2, lit_3, lit_4, lit_5, lit_6, lit_7, lit_8, lit_9, lit_10, lit_11, lit_12, lit_13, lit_14, lit_15, lit_16, lit_17, lit_18, lit_19, lit_20, lit_21, lit_22, lit_23, lit_24, lit_25, lit_26, lit_27, lit_28, lit_29, lit_30, lit_31, lit_32, lit_33, lit_34, lit_35, lit_36, lit_37, lit_38, lit_39, lit_40, lit_41, lit_42, lit_43, lit_44, lit_45, lit_46, lit_47, lit_48, lit_49, lit_50, lit_51, lit_52, lit_53, lit_54, lit_55, lit_56, lit_57, lit_58, lit_59, lit_60, lit_61, lit_62, lit_63, lit_64, lit_97, lit_99, lit_100, lit_122, lit_175, lit_176, lit_200, lit_255, lit_400, lit_700, lit_800, lit_999, lit_1000, lit_1400, lit_2000, lit_2033, lit_2038, lit_2100, lit_2124, lit_8000, lit_10000, lit_12345, lit_32767, lit_1000000, lit_1000000000, ↓bndX_h, ↓bndK_h, bxh_inl, bxh_inr, bkh_inl, bkh_inr, Nat.reduceEqDiff, ↓bnd_h, ↓lt_h, ↓ite_h, bh_some, lh_eq, ih_T, ih_F, ne_eq, not_false_eq_true, not_true_eq_false, eq_self, and_true, true_and, io_def, io_add, io_mul, io_sub, io_lt, io_le, io_eq, io_clamp, io_inbT, io_div, io_mod, io_m1, m1_io, m1_lt, m1_le, neg_1, gI_m1, hKa, hKb, eI, c]
    refine rec (i + 1) _ ⟨by omega, fun k hk => ?_, hF.sI (by simp [ob])⟩ (by omega)
    rw [mI_sI]
    by_cases q : k = i
    · subst q
      rw [if_pos ⟨rfl, rfl⟩]
      exact hF.I (by simp [ob]; omega)
    · rw [if_neg (fun z => q z.2)]
      exact hall k (by omega)
theorem c_becomeLike {d s : Nat} {M : Mem} (hd : K0 d = (0, 0)) (hs : K0 s = (0, 0)) (hd1 : K0 (d + 1) = (1, 200)) (hs1 : K0 (s + 1) = (1, 200)) (hd2 : K0 (d + 2) = (1, 32)) (hs2 : K0 (s + 2) = (1, 32)) (hds : d + 2 < s ∨ s + 2 < d) (d5 : mR M d 5 = d + 1) (d6 : mR M d 6 = d + 2) (s5 : mR M s 5 = s + 1) (s6 : mR M s 6 = s + 2) :
    Wp (zX0_becomeLike d s M) (fun _ M' => Fg [(d, d + 2)] [] M M' ∧ ∀ b, bLe b ≤ 200 → CB M s b → CB M' d b) := by
  have o0 : ob [(d, d + 2)] d = false := by simp [ob]
  have hne : s ≠ d := by omega
  unfold zX0_becomeLike
  rw [if_pos hd, if_pos hs, lt_eq, lt_eq, lt_eq, lt_eq, lt_eq]
  have step : ∀ (N : Mem) (k : Nat) (v : Int32), (Fg [(d, d + 2)] [] M N) → Fg [(d, d + 2)] [] M (sI N d k v) := fun N k v h => h.sI o0
  have g0 : Fg [(d, d + 2)] [] M M := Fg.refl
  have w : ∀ (N : Mem) (k : Nat) (v : Int32), mI (sI N d k v) d k = v := fun N k v => by rw [mI_sI, if_pos ⟨rfl, rfl⟩]
  have w' : ∀ (N : Mem) (k j : Nat) (v : Int32), j ≠ k → mI (sI N d k v) d j = mI N d j := fun N k j v h => by rw [mI_sI, if_neg (fun z => h z.2)]
  have g1 := step _ 0 (mI M s 0) g0
  have a0 := w M 0 (mI M s 0)
  generalize sI M d 0 (mI M s 0) = M2 at g1 a0 ⊢
  have g2 := step _ 1 (mI M2 s 1) g1
  have b0 := w' M2 1 0 (mI M2 s 1) (by decide)
  rw [a0] at b0
  have q1 : mI M2 s 1 = mI M s 1 := g1.I (by simp [ob]; omega)
  have b1 := (w M2 1 (mI M2 s 1)).trans q1
  generalize sI M2 d 1 (mI M2 s 1) = M3 at g2 b1 b0 ⊢
  have g3 := step _ 2 (mI M3 s 2) g2
  have c1 := w' M3 2 1 (mI M3 s 2) (by decide)
  have c0 := w' M3 2 0 (mI M3 s 2) (by decide)
  have q2 : mI M3 s 2 = mI M s 2 := g2.I (by simp [ob]; omega)
  have c2 := (w M3 2 (mI M3 s 2)).trans q2
  rw [b0] at c0
  rw [b1] at c1
  generalize sI M3 d 2 (mI M3 s 2) = M4 at g3 c0 c1 c2 ⊢
  have g4 := step _ 3 (mI M4 s 3) g3
  have d2 := w' M4 3 2 (mI M4 s 3) (by decide)
  have d1 := w' M4 3 1 (mI M4 s 3) (by decide)
  have d0 := w' M4 3 0 (mI M4 s 3) (by decide)
  have q3 : mI M4 s 3 = mI M s 3 := g3.I (by simp [ob]; omega)
  have d3 := (w M4 3 (mI M4 s 3)).trans q3
  rw [c0] at d0
  rw [c1] at d1
  rw [c2] at d2
  generalize sI M4 d 3 (mI M4 s 3) = M5 at g4 d0 d1 d2 d3 ⊢
  have g5 := step _ 4 (mI M5 s 4) g4
  have e3 := w' M5 4 3 (mI M5 s 4) (by decide)
  have e2 := w' M5 4 2 (mI M5 s 4) (by decide)
  have e1 := w' M5 4 1 (mI M5 s 4) (by decide)
  have e0 := w' M5 4 0 (mI M5 s 4) (by decide)
  have q4 : mI M5 s 4 = mI M s 4 := g4.I (by simp [ob]; omega)
  have e4 := (w M5 4 (mI M5 s 4)).trans q4
  rw [d0] at e0
  rw [d1] at e1
  rw [d2] at e2
  rw [d3] at e3
  generalize sI M5 d 4 (mI M5 s 4) = M6 at g5 e0 e1 e2 e3 e4 ⊢
  have r5 : mR M6 s 5 = s + 1 := (g5.2.2 s rfl 5).trans s5
  have r6 : mR M6 d 5 = d + 1 := (g5.2.2 d rfl 5).trans d5
  rw [if_pos (by rw [r5]; exact Nat.succ_ne_zero _), if_pos (by rw [r6]; exact Nat.succ_ne_zero _), r5, r6]
  refine Wp.seq (c_copy hs1 hd1 (by omega) (by omega)) (fun _ M7 ⟨x1, x2⟩ => ?_)
  have t5 : mR M7 s 6 = s + 2 := (x2.2.2 s rfl 6).trans ((g5.2.2 s rfl 6).trans s6)
  have t6 : mR M7 d 6 = d + 2 := (x2.2.2 d rfl 6).trans ((g5.2.2 d rfl 6).trans d6)
  rw [if_pos (by rw [t5]; exact Nat.succ_ne_zero _), if_pos (by rw [t6]; exact Nat.succ_ne_zero _), t5, t6]
  refine Wp.seq (c_copy hs2 hd2 (by omega) (by omega)) (fun _ M8 ⟨y1, y2⟩ => ?_)
  have g6 : Fg [(d, d + 2)] [] M M7 := g5.trans (x2.sub (fun o ho => by simp only [ob, Bool.and_true, Bool.and_eq_true, Bool.or_eq_true, decide_eq_true_eq] at ho ⊢; omega) (fun _ h => h))
  have g7 : Fg [(d, d + 2)] [] M M8 := g6.trans (y2.sub (fun o ho => by simp only [ob, Bool.and_true, Bool.and_eq_true, Bool.or_eq_true, decide_eq_true_eq] at ho ⊢; omega) (fun _ h => h))
  have k0 : ∀ k, mI M8 d k = mI M6 d k := fun k => by rw [y2.I (by simp [ob]), x2.I (by simp [ob])]
  refine Wp.ret ⟨g7, fun b hb ⟨h0, h1, h2, h3, h4, h5, h6⟩ => ⟨?_, ?_, ?_, ?_, ?_, fun i hi => ?_, fun j hj => ?_⟩⟩
  · rw [k0, e0]; exact h0
  · rw [k0, e1]; exact h1
  · rw [k0, e2]; exact h2
  · rw [k0, e3]; exact h3
  · rw [k0, e4]; exact h4
  · rw [y2.I (by simp [ob]), x1 i (by omega), g5.I (by simp [ob]; omega)]
    exact h5 i hi
  · rw [y1 j hj, g6.I (by simp [ob]; omega)]
    exact h6 j hj
