/-! ===== LEVEL 2: credit ===== -/
/-- ODDS that the GUESS k has for the SORTS m, as bits -/
def oT (b : BV) (k m s : Nat) : Nat := if m.testBit s = true then bGu b (k * 8 + s) else 0
def oN (b : BV) (k m : Nat) : Nat := sumN 8 (oT b k m)
def ow (b : BV) (k : Nat) : Nat := oN b k 255
def wtN (a o : Nat) : Nat := if a = 0 then 1 else max 1 (1000 * o / a)
theorem oT_le {b : BV} {k m s : Nat} (hG : ∀ j, j < 32 → bGu b j ≤ 99) (hk : k < 4) (hs : s < 8) : oT b k m s ≤ 99 := by
  unfold oT
  split
  · exact hG _ (by omega)
  · omega
theorem oN_le {b : BV} {k m : Nat} (hG : ∀ j, j < 32 → bGu b j ≤ 99) (hk : k < 4) : oN b k m ≤ 792 := by
  have h := sumN_le (n := 8) (f := oT b k m) (g := fun _ => 99) (fun i hi => oT_le hG hk hi)
  have e : sumN 8 (fun _ => 99) = 792 := rfl
  unfold oN
  omega
theorem tb_255 {s : Nat} (hs : s < 8) : (255 : Nat).testBit s = true := by
  have h : ∀ s : Fin 8, (255 : Nat).testBit s.val = true := by decide
  exact h ⟨s, hs⟩
theorem oN_own {b : BV} {k m : Nat} : oN b k m ≤ ow b k := sumN_le (fun i hi => by
  unfold oT
  rw [if_pos (tb_255 hi)]
  split <;> omega)
theorem oN_all {b : BV} {k n : Nat} {v : GV} (hb : okB v b) (hn : gN v ≤ 8) (e : n = gN v) (hk : k < 4) : oN b k (2 ^ n - 1) = ow b k := sumN_congr (fun i hi => by
  subst e
  unfold oT
  rw [if_pos (tb_255 hi), Nat.testBit_two_pow_sub_one]
  by_cases q : i < gN v
  · rw [if_pos (decide_eq_true q)]
  · rw [if_neg (by simp [q]), hb.2.2.2.2.2 (k * 8 + i) (by omega) (by omega)])
theorem wtN_le {a o : Nat} (h : o ≤ a) : wtN a o ≤ 1000 := by
  unfold wtN
  by_cases q : a = 0
  · rw [if_pos q]; omega
  · rw [if_neg q]
    have h1 : 1000 * o / a ≤ 1000 := by
      refine Nat.div_le_of_le_mul ?_
      rw [Nat.mul_comm]
      exact Nat.mul_le_mul_right _ h
    exact Nat.max_le.mpr ⟨by omega, h1⟩
theorem wtN_pos {a o : Nat} : 1 ≤ wtN a o := by
  unfold wtN
  split
  · exact Nat.le_refl _
  · exact Nat.le_max_left _ _
/-- the credits behind i GIFTS -/
def crS (own : Nat → Nat) (w : Nat → Nat → Nat) (t : Nat) : Nat → Nat → Nat
  | 0 => fun k => if 0 < own k then 1000000 / t else 0
  | i + 1 => fun k => crS own w t i k * w i k * 1000000 / sumN 4 (fun j => crS own w t i j * w i j)
def okCr (own cr : Nat → Nat) : Prop := (∀ k, k < 4 → cr k ≤ 1000000) ∧ (∀ k, own k = 0 → cr k = 0) ∧ ∃ k, k < 4 ∧ 1 ≤ cr k
theorem sum4 (f : Nat → Nat) : sumN 4 f = 0 + f 0 + f 1 + f 2 + f 3 := rfl
theorem okCr.step {own cr w : Nat → Nat} (h : okCr own cr) (hw : ∀ k, 1 ≤ w k) : okCr own (fun k => cr k * w k * 1000000 / sumN 4 (fun j => cr j * w j)) ∧ 0 < sumN 4 (fun j => cr j * w j) := by
  obtain ⟨h1, h2, k0, hk0, h3⟩ := h
  have hS : 0 < sumN 4 (fun j => cr j * w j) := by
    have a1 := sumN_mem (n := 4) (j := k0) (f := fun j => cr j * w j) hk0
    have a2 : 1 * 1 ≤ cr k0 * w k0 := Nat.mul_le_mul h3 (hw k0)
    have a3 : cr k0 * w k0 ≤ sumN 4 (fun j => cr j * w j) := a1
    omega
  refine ⟨⟨fun k hk => ?_, fun k hk => ?_, ?_⟩, hS⟩
  · refine Nat.div_le_of_le_mul ?_
    rw [Nat.mul_comm]
    have a1 := sumN_mem (n := 4) (j := k) (f := fun j => cr j * w j) hk
    rw [Nat.mul_comm (sumN 4 _)]
    exact Nat.mul_le_mul_left _ a1
  · show cr k * w k * 1000000 / _ = 0
    rw [h2 k hk, Nat.zero_mul, Nat.zero_mul, Nat.zero_div]
  · have hex : ∃ k, k < 4 ∧ sumN 4 (fun j => cr j * w j) ≤ 4 * (cr k * w k) := by
      rw [sum4]
      by_cases c0 : 0 + cr 0 * w 0 + cr 1 * w 1 + cr 2 * w 2 + cr 3 * w 3 ≤ 4 * (cr 0 * w 0)
      · exact ⟨0, by omega, c0⟩
      · by_cases c1 : 0 + cr 0 * w 0 + cr 1 * w 1 + cr 2 * w 2 + cr 3 * w 3 ≤ 4 * (cr 1 * w 1)
        · exact ⟨1, by omega, c1⟩
        · by_cases c2 : 0 + cr 0 * w 0 + cr 1 * w 1 + cr 2 * w 2 + cr 3 * w 3 ≤ 4 * (cr 2 * w 2)
          · exact ⟨2, by omega, c2⟩
          · exact ⟨3, by omega, by omega⟩
    obtain ⟨k, hk, hx⟩ := hex
    refine ⟨k, hk, ?_⟩
    show 1 ≤ cr k * w k * 1000000 / _
    refine (Nat.le_div_iff_mul_le hS).mpr ?_
    omega
theorem crS_ok {own : Nat → Nat} {w : Nat → Nat → Nat} {t : Nat} (ht : 1 ≤ t) (ht4 : t ≤ 4) (hx : ∃ k, k < 4 ∧ 0 < own k) (hw : ∀ i k, 1 ≤ w i k) : ∀ i, okCr own (crS own w t i)
  | 0 => by
    have h1 : 1000000 / t ≤ 1000000 := Nat.div_le_self _ _
    have h2 : 1 ≤ 1000000 / t := (Nat.le_div_iff_mul_le (by omega)).mpr (by omega)
    refine ⟨fun k _ => ?_, fun k hk => ?_, ?_⟩
    · show (if 0 < own k then 1000000 / t else 0) ≤ _
      split
      · exact h1
      · omega
    · show (if 0 < own k then 1000000 / t else 0) = 0
      rw [if_neg (by omega)]
    · obtain ⟨k, hk, h⟩ := hx
      refine ⟨k, hk, ?_⟩
      show 1 ≤ (if 0 < own k then 1000000 / t else 0)
      rw [if_pos h]
      exact h2
  | i + 1 => ((crS_ok ht ht4 hx hw i).step (hw i)).1
/-! the class -/
theorem c_godds {M : Mem} {g k m : Nat} {b : BV} {x : Int32} (hP : PC1 M) (hB : CB M (bid g) b) (hk : k < 4) (hG : ∀ j, j < 32 → bGu b j ≤ 99) (hx : ∀ s, s < 8 → ((x >>> (io s &&& io 31)) &&& io 1) = io (if m.testBit s = true then 1 else 0)) : zX0_guessedOdds (bid g) (io k) x M = some (io (oN b k m), M) := by
  have p6 := GP.b6 (g := g) hP
  unfold zX0_guessedOdds
  rw [if_pos K0_bid]
  refine Wp.eq ?_
  refine loopW (L := fun f (s : Nat) U => zX0_guessedOdds_L5 f (bid g) (io k) x (io (sumN s (oT b k m))) (io s) U) (J := fun s U => U = M ∧ s ≤ 8) (fun s _ => 8 - s) ?_ FU 0 M ⟨rfl, Nat.zero_le _⟩ (by rw [FU_val]; omega)
  intro f s U ⟨hU, hs⟩ rec
  subst hU
  show Wp (zX0_guessedOdds_B5 _ _ _ _ _ _ _) _
  unfold zX0_guessedOdds_B5 zX0_guessedOdds_B39
  simp -dsimp (disch := first | assumption | omega) only [lit_0, lit_1, lit_2, lit_3, lit_4, lit_5, lit_6, lit_7, lit_8, lit_9, lit_10, lit_11, lit_12, lit_13, lit_14, lit_15, lit_16, lit_17, lit_18, lit_19, lit_20, lit_21, lit_22, lit_23, lit_24, lit_25, lit_26, lit_27, lit_28, lit_29, lit_30, lit_31, lit_32, lit_33, lit_34, lit_35, lit_36, lit_37, lit_38, lit_39, lit_40, lit_41, lit_42, lit_43, lit_44, lit_45, lit_46, lit_47, lit_48, lit_49, lit_50, lit_51, lit_52, lit_53, lit_54, lit_55, lit_56, lit_57, lit_58, lit_59, lit_60, lit_61, lit_62, lit_63, lit_64, lit_97, lit_99, lit_100, lit_122, lit_175, lit_176, lit_200, lit_255, lit_400, lit_700, lit_800, lit_999, lit_1000, lit_1400, lit_2000, lit_2033, lit_2038, lit_2100, lit_2124, lit_8000, lit_10000, lit_12345, lit_32767, lit_1000000, lit_1000000000, ↓bndX_h, ↓bndK_h, bxh_inl, bxh_inr, bkh_inl, bkh_inr, Nat.reduceEqDiff, ↓bnd_h, ↓lt_h, ↓ite_h, bh_some, lh_eq, ih_T, ih_F, ne_eq, not_false_eq_true, not_true_eq_false, eq_self, and_true, true_and, io_def, io_add, io_mul, io_sub, io_lt, io_le, io_eq, io_clamp, io_inbT, io_div, io_mod, io_m1, m1_io, m1_lt, m1_le, neg_1, gI_m1]
  refine Wp.csh (fun c => ?_) (fun c => ?_)
  · have : s = 8 := by omega
    subst this
    exact Wp.ret ⟨rfl, rfl⟩
  · have hs2 : s < 8 := by omega
    have e := hx s hs2
    have rr := rec (s + 1) U ⟨rfl, by omega⟩ (by omega)
    have hw : sumN (s + 1) (oT b k m) = sumN s (oT b k m) + oT b k m s := rfl
    rw [hw] at rr
    have ea := at_io (M := U) (K0_bid2 (g := g)) (show k * 8 + s < 32 by omega) (by omega)
    rw [hB.2.2.2.2.2.2 (k * 8 + s) (by omega)] at ea
    unfold oT at rr
    by_cases q : m.testBit s = true
    · rw [if_pos q] at e
      simp only [if_pos q] at rr
      simp -dsimp (disch := first | assumption | omega) only [lit_0, lit_1, lit_2, lit_3, lit_4, lit_5, lit_6, lit_7, lit_8, lit_9, lit_10, lit_11, lit_12, lit_13, lit_14, lit_15, lit_16, lit_17, lit_18, lit_19, lit_20, lit_21, lit_22, lit_23, lit_24, lit_25, lit_26, lit_27, lit_28, lit_29, lit_30, lit_31, lit_32, lit_33, lit_34, lit_35, lit_36, lit_37, lit_38, lit_39, lit_40, lit_41, lit_42, lit_43, lit_44, lit_45, lit_46, lit_47, lit_48, lit_49, lit_50, lit_51, lit_52, lit_53, lit_54, lit_55, lit_56, lit_57, lit_58, lit_59, lit_60, lit_61, lit_62, lit_63, lit_64, lit_97, lit_99, lit_100, lit_122, lit_175, lit_176, lit_200, lit_255, lit_400, lit_700, lit_800, lit_999, lit_1000, lit_1400, lit_2000, lit_2033, lit_2038, lit_2100, lit_2124, lit_8000, lit_10000, lit_12345, lit_32767, lit_1000000, lit_1000000000, ↓bndX_h, ↓bndK_h, bxh_inl, bxh_inr, bkh_inl, bkh_inr, Nat.reduceEqDiff, ↓bnd_h, ↓lt_h, ↓ite_h, bh_some, lh_eq, ih_T, ih_F, ne_eq, not_false_eq_true, not_true_eq_false, eq_self, and_true, true_and, io_def, io_add, io_mul, io_sub, io_lt, io_le, io_eq, io_clamp, io_inbT, io_div, io_mod, io_m1, m1_io, m1_lt, m1_le, neg_1, gI_m1, e, p6, succ_ne, ea]
      exact rr
    · rw [if_neg q] at e
      simp only [if_neg q] at rr
      simp -dsimp (disch := first | assumption | omega) only [lit_0, lit_1, lit_2, lit_3, lit_4, lit_5, lit_6, lit_7, lit_8, lit_9, lit_10, lit_11, lit_12, lit_13, lit_14, lit_15, lit_16, lit_17, lit_18, lit_19, lit_20, lit_21, lit_22, lit_23, lit_24, lit_25, lit_26, lit_27, lit_28, lit_29, lit_30, lit_31, lit_32, lit_33, lit_34, lit_35, lit_36, lit_37, lit_38, lit_39, lit_40, lit_41, lit_42, lit_43, lit_44, lit_45, lit_46, lit_47, lit_48, lit_49, lit_50, lit_51, lit_52, lit_53, lit_54, lit_55, lit_56, lit_57, lit_58, lit_59, lit_60, lit_61, lit_62, lit_63, lit_64, lit_97, lit_99, lit_100, lit_122, lit_175, lit_176, lit_200, lit_255, lit_400, lit_700, lit_800, lit_999, lit_1000, lit_1400, lit_2000, lit_2033, lit_2038, lit_2100, lit_2124, lit_8000, lit_10000, lit_12345, lit_32767, lit_1000000, lit_1000000000, ↓bndX_h, ↓bndK_h, bxh_inl, bxh_inr, bkh_inl, bkh_inr, Nat.reduceEqDiff, ↓bnd_h, ↓lt_h, ↓ite_h, bh_some, lh_eq, ih_T, ih_F, ne_eq, not_false_eq_true, not_true_eq_false, eq_self, and_true, true_and, io_def, io_add, io_mul, io_sub, io_lt, io_le, io_eq, io_clamp, io_inbT, io_div, io_mod, io_m1, m1_io, m1_lt, m1_le, neg_1, gI_m1, e]
      exact rr
theorem bit_in {m s : Nat} (hm : m < 256) (hs : s < 8) : ((io m >>> (io s &&& io 31)) &&& io 1) = io (if m.testBit s = true then 1 else 0) := bit_dec ⟨m, hm⟩ ⟨s, hs⟩
theorem bit_m1 {s : Nat} (hs : s < 8) : ((m1 >>> (io s &&& io 31)) &&& io 1) = io (if (255 : Nat).testBit s = true then 1 else 0) := by
  have h : ∀ s : Fin 8, ((m1 >>> (io s.val &&& io 31)) &&& io 1) = io (if (255 : Nat).testBit s.val = true then 1 else 0) := by decide
  exact h ⟨s, hs⟩
theorem c_own {M : Mem} {g k : Nat} {b : BV} (hP : PC1 M) (hB : CB M (bid g) b) (hk : k < 4) (hG : ∀ j, j < 32 → bGu b j ≤ 99) : zX0_guessedOdds (bid g) (io k) m1 M = some (io (ow b k), M) := c_godds hP hB hk hG (fun s hs => bit_m1 hs)
theorem c_weight {M : Mem} {g k m : Nat} {b : BV} (hP : PC1 M) (hB : CB M (bid g) b) (hk : k < 4) (hm : m < 256) (hG : ∀ j, j < 32 → bGu b j ≤ 99) : zX2_weight 66 (io k) (io m) (bid g) M = some (io (wtN (ow b k) (oN b k m)), M) := by
  have e1 := c_own hP hB hk hG
  have e2 := c_godds (m := m) hP hB hk hG (fun s hs => bit_in hm hs)
  have l1 := oN_le (b := b) (k := k) (m := m) hG hk
  have l2 : ow b k ≤ 792 := oN_le hG hk
  refine Wp.eq ?_
  unfold zX2_weight zX2_weight_B30
  simp -dsimp (disch := first | assumption | omega) only [lit_0, lit_1, lit_2, lit_3, lit_4, lit_5, lit_6, lit_7, lit_8, lit_9, lit_10, lit_11, lit_12, lit_13, lit_14, lit_15, lit_16, lit_17, lit_18, lit_19, lit_20, lit_21, lit_22, lit_23, lit_24, lit_25, lit_26, lit_27, lit_28, lit_29, lit_30, lit_31, lit_32, lit_33, lit_34, lit_35, lit_36, lit_37, lit_38, lit_39, lit_40, lit_41, lit_42, lit_43, lit_44, lit_45, lit_46, lit_47, lit_48, lit_49, lit_50, lit_51, lit_52, lit_53, lit_54, lit_55, lit_56, lit_57, lit_58, lit_59, lit_60, lit_61, lit_62, lit_63, lit_64, lit_97, lit_99, lit_100, lit_122, lit_175, lit_176, lit_200, lit_255, lit_400, lit_700, lit_800, lit_999, lit_1000, lit_1400, lit_2000, lit_2033, lit_2038, lit_2100, lit_2124, lit_8000, lit_10000, lit_12345, lit_32767, lit_1000000, lit_1000000000, ↓bndX_h, ↓bndK_h, bxh_inl, bxh_inr, bkh_inl, bkh_inr, Nat.reduceEqDiff, ↓bnd_h, ↓lt_h, ↓ite_h, bh_some, lh_eq, ih_T, ih_F, ne_eq, not_false_eq_true, not_true_eq_false, eq_self, and_true, true_and, io_def, io_add, io_mul, io_sub, io_lt, io_le, io_eq, io_clamp, io_inbT, io_div, io_mod, io_m1, m1_io, m1_lt, m1_le, neg_1, gI_m1, neg_1, K0_66, K0_bid, e1]
  unfold wtN
  refine Wp.csh (fun c => ?_) (fun c => ?_)
  · rw [if_pos (show ow b k = 0 by omega)]
    simp -dsimp (disch := first | assumption | omega) only [lit_0, lit_1, lit_2, lit_3, lit_4, lit_5, lit_6, lit_7, lit_8, lit_9, lit_10, lit_11, lit_12, lit_13, lit_14, lit_15, lit_16, lit_17, lit_18, lit_19, lit_20, lit_21, lit_22, lit_23, lit_24, lit_25, lit_26, lit_27, lit_28, lit_29, lit_30, lit_31, lit_32, lit_33, lit_34, lit_35, lit_36, lit_37, lit_38, lit_39, lit_40, lit_41, lit_42, lit_43, lit_44, lit_45, lit_46, lit_47, lit_48, lit_49, lit_50, lit_51, lit_52, lit_53, lit_54, lit_55, lit_56, lit_57, lit_58, lit_59, lit_60, lit_61, lit_62, lit_63, lit_64, lit_97, lit_99, lit_100, lit_122, lit_175, lit_176, lit_200, lit_255, lit_400, lit_700, lit_800, lit_999, lit_1000, lit_1400, lit_2000, lit_2033, lit_2038, lit_2100, lit_2124, lit_8000, lit_10000, lit_12345, lit_32767, lit_1000000, lit_1000000000, ↓bndX_h, ↓bndK_h, bxh_inl, bxh_inr, bkh_inl, bkh_inr, Nat.reduceEqDiff, ↓bnd_h, ↓lt_h, ↓ite_h, bh_some, lh_eq, ih_T, ih_F, ne_eq, not_false_eq_true, not_true_eq_false, eq_self, and_true, true_and, io_def, io_add, io_mul, io_sub, io_lt, io_le, io_eq, io_clamp, io_inbT, io_div, io_mod, io_m1, m1_io, m1_lt, m1_le, neg_1, gI_m1, Nat.reduceLeDiff]
    exact Wp.ret ⟨rfl, rfl⟩
  · rw [if_neg (show ¬ ow b k = 0 by omega)]
    have hd : 1000 * oN b k m / ow b k ≤ 1000 * oN b k m := Nat.div_le_self _ _
    have hne : ¬ ow b k = 0 := by omega
    simp -dsimp (disch := first | assumption | omega) only [lit_0, lit_1, lit_2, lit_3, lit_4, lit_5, lit_6, lit_7, lit_8, lit_9, lit_10, lit_11, lit_12, lit_13, lit_14, lit_15, lit_16, lit_17, lit_18, lit_19, lit_20, lit_21, lit_22, lit_23, lit_24, lit_25, lit_26, lit_27, lit_28, lit_29, lit_30, lit_31, lit_32, lit_33, lit_34, lit_35, lit_36, lit_37, lit_38, lit_39, lit_40, lit_41, lit_42, lit_43, lit_44, lit_45, lit_46, lit_47, lit_48, lit_49, lit_50, lit_51, lit_52, lit_53, lit_54, lit_55, lit_56, lit_57, lit_58, lit_59, lit_60, lit_61, lit_62, lit_63, lit_64, lit_97, lit_99, lit_100, lit_122, lit_175, lit_176, lit_200, lit_255, lit_400, lit_700, lit_800, lit_999, lit_1000, lit_1400, lit_2000, lit_2033, lit_2038, lit_2100, lit_2124, lit_8000, lit_10000, lit_12345, lit_32767, lit_1000000, lit_1000000000, ↓bndX_h, ↓bndK_h, bxh_inl, bxh_inr, bkh_inl, bkh_inr, Nat.reduceEqDiff, ↓bnd_h, ↓lt_h, ↓ite_h, bh_some, lh_eq, ih_T, ih_F, ne_eq, not_false_eq_true, not_true_eq_false, eq_self, and_true, true_and, io_def, io_add, io_mul, io_sub, io_lt, io_le, io_eq, io_clamp, io_inbT, io_div, io_mod, io_m1, m1_io, m1_lt, m1_le, neg_1, gI_m1, e2, hne]
    refine Wp.csh (fun q => ?_) (fun q => ?_)
    · simp -dsimp (disch := first | assumption | omega) only [lit_0, lit_1, lit_2, lit_3, lit_4, lit_5, lit_6, lit_7, lit_8, lit_9, lit_10, lit_11, lit_12, lit_13, lit_14, lit_15, lit_16, lit_17, lit_18, lit_19, lit_20, lit_21, lit_22, lit_23, lit_24, lit_25, lit_26, lit_27, lit_28, lit_29, lit_30, lit_31, lit_32, lit_33, lit_34, lit_35, lit_36, lit_37, lit_38, lit_39, lit_40, lit_41, lit_42, lit_43, lit_44, lit_45, lit_46, lit_47, lit_48, lit_49, lit_50, lit_51, lit_52, lit_53, lit_54, lit_55, lit_56, lit_57, lit_58, lit_59, lit_60, lit_61, lit_62, lit_63, lit_64, lit_97, lit_99, lit_100, lit_122, lit_175, lit_176, lit_200, lit_255, lit_400, lit_700, lit_800, lit_999, lit_1000, lit_1400, lit_2000, lit_2033, lit_2038, lit_2100, lit_2124, lit_8000, lit_10000, lit_12345, lit_32767, lit_1000000, lit_1000000000, ↓bndX_h, ↓bndK_h, bxh_inl, bxh_inr, bkh_inl, bkh_inr, Nat.reduceEqDiff, ↓bnd_h, ↓lt_h, ↓ite_h, bh_some, lh_eq, ih_T, ih_F, ne_eq, not_false_eq_true, not_true_eq_false, eq_self, and_true, true_and, io_def, io_add, io_mul, io_sub, io_lt, io_le, io_eq, io_clamp, io_inbT, io_div, io_mod, io_m1, m1_io, m1_lt, m1_le, neg_1, gI_m1]
      exact Wp.ret ⟨by rw [Nat.max_eq_right q], rfl⟩
    · simp -dsimp (disch := first | assumption | omega) only [lit_0, lit_1, lit_2, lit_3, lit_4, lit_5, lit_6, lit_7, lit_8, lit_9, lit_10, lit_11, lit_12, lit_13, lit_14, lit_15, lit_16, lit_17, lit_18, lit_19, lit_20, lit_21, lit_22, lit_23, lit_24, lit_25, lit_26, lit_27, lit_28, lit_29, lit_30, lit_31, lit_32, lit_33, lit_34, lit_35, lit_36, lit_37, lit_38, lit_39, lit_40, lit_41, lit_42, lit_43, lit_44, lit_45, lit_46, lit_47, lit_48, lit_49, lit_50, lit_51, lit_52, lit_53, lit_54, lit_55, lit_56, lit_57, lit_58, lit_59, lit_60, lit_61, lit_62, lit_63, lit_64, lit_97, lit_99, lit_100, lit_122, lit_175, lit_176, lit_200, lit_255, lit_400, lit_700, lit_800, lit_999, lit_1000, lit_1400, lit_2000, lit_2033, lit_2038, lit_2100, lit_2124, lit_8000, lit_10000, lit_12345, lit_32767, lit_1000000, lit_1000000000, ↓bndX_h, ↓bndK_h, bxh_inl, bxh_inr, bkh_inl, bkh_inr, Nat.reduceEqDiff, ↓bnd_h, ↓lt_h, ↓ite_h, bh_some, lh_eq, ih_T, ih_F, ne_eq, not_false_eq_true, not_true_eq_false, eq_self, and_true, true_and, io_def, io_add, io_mul, io_sub, io_lt, io_le, io_eq, io_clamp, io_inbT, io_div, io_mod, io_m1, m1_io, m1_lt, m1_le, neg_1, gI_m1]
      exact Wp.ret ⟨by rw [Nat.max_eq_left (by omega)], rfl⟩
theorem lg_lo {S : Nat} (hS : S < 9223372036854775808) (h : 0 < S) : ¬ lg_cmp (lo S) (lo 0) ≤ io 0 := by
  unfold lg_cmp
  rw [if_pos (by rw [gt_iff_lt, lo_lt (by omega) hS]; exact h)]
  decide
/-- the class's credits are cr -/
def C69 (M : Mem) (cr : Nat → Nat) : Prop := ∀ k, k < 4 → mI M 69 k = io (cr k)
theorem c_weigh {M : Mem} {g m : Nat} {b : BV} {cr : Nat → Nat} (hP : PC1 M) (hB : CB M (bid g) b) (p4 : mR M 66 4 = 69) (p5 : mR M 66 5 = 70) (hm : m < 256) (hG : ∀ j, j < 32 → bGu b j ≤ 99) (hC : C69 M cr) (hok : okCr (ow b) cr) :
    Wp (zX2_weigh 66 (io m) (bid g) M) (fun _ M' => C69 M' (fun k => cr k * wtN (ow b k) (oN b k m) * 1000000 / sumN 4 (fun j => cr j * wtN (ow b j) (oN b j m))) ∧ Fg [(69, 70)] [] M M') := by
  have hS := (hok.step (w := fun k => wtN (ow b k) (oN b k m)) (fun k => wtN_pos)).2
  have hl : ∀ k, k < 4 → cr k * wtN (ow b k) (oN b k m) ≤ 1000000000 := fun k hk => by
    have := Nat.mul_le_mul (hok.1 k hk) (wtN_le (oN_own (b := b) (k := k) (m := m)))
    omega
  have hL : ∀ j, j ≤ 4 → sumN j (fun j => cr j * wtN (ow b j) (oN b j m)) ≤ 4000000000 := fun j hj => by
    have h1 := sumN_mono (f := fun j => cr j * wtN (ow b j) (oN b j m)) hj
    have h2 := sumN_le (n := 4) (f := fun j => cr j * wtN (ow b j) (oN b j m)) (g := fun _ => 1000000000) (fun i hi => hl i hi)
    have e : sumN 4 (fun _ => 1000000000) = 4000000000 := rfl
    omega
  have hS4 := hL 4 (Nat.le_refl _)
  unfold zX2_weigh
  simp -dsimp (disch := first | assumption | omega) only [lit_0, lit_1, lit_2, lit_3, lit_4, lit_5, lit_6, lit_7, lit_8, lit_9, lit_10, lit_11, lit_12, lit_13, lit_14, lit_15, lit_16, lit_17, lit_18, lit_19, lit_20, lit_21, lit_22, lit_23, lit_24, lit_25, lit_26, lit_27, lit_28, lit_29, lit_30, lit_31, lit_32, lit_33, lit_34, lit_35, lit_36, lit_37, lit_38, lit_39, lit_40, lit_41, lit_42, lit_43, lit_44, lit_45, lit_46, lit_47, lit_48, lit_49, lit_50, lit_51, lit_52, lit_53, lit_54, lit_55, lit_56, lit_57, lit_58, lit_59, lit_60, lit_61, lit_62, lit_63, lit_64, lit_97, lit_99, lit_100, lit_122, lit_175, lit_176, lit_200, lit_255, lit_400, lit_700, lit_800, lit_999, lit_1000, lit_1400, lit_2000, lit_2033, lit_2038, lit_2100, lit_2124, lit_8000, lit_10000, lit_12345, lit_32767, lit_1000000, lit_1000000000, ↓bndX_h, ↓bndK_h, bxh_inl, bxh_inr, bkh_inl, bkh_inr, Nat.reduceEqDiff, ↓bnd_h, ↓lt_h, ↓ite_h, bh_some, lh_eq, ih_T, ih_F, ne_eq, not_false_eq_true, not_true_eq_false, eq_self, and_true, true_and, io_def, lit64_0, K0_66]
  refine loopW (L := fun f (j : Nat) U => zX2_weigh_L5 f 66 (io m) (bid g) (lo (sumN j (fun j => cr j * wtN (ow b j) (oN b j m)))) (io j) U) (J := fun j U => j ≤ 4 ∧ (∀ i, i < j → mI U 70 i = io (cr i * wtN (ow b i) (oN b i m))) ∧ Fg [(70, 70)] [] M U) (fun j _ => 4 - j) ?_ FU 0 M ⟨Nat.zero_le _, fun i hi => absurd hi (Nat.not_lt_zero _), Fg.refl⟩ (by rw [FU_val]; omega)
  intro f j U ⟨hj, hall, hF⟩ rec
  show Wp (zX2_weigh_B5 (zX2_weigh_L5 f) 66 (io m) (bid g) (lo _) (io j) U) _
  unfold zX2_weigh_B5
  have hR : ∀ o k, mR U o k = mR M o k := fun o k => hF.2.2 o rfl k
  simp -dsimp (disch := first | assumption | omega) only [lit_0, lit_1, lit_2, lit_3, lit_4, lit_5, lit_6, lit_7, lit_8, lit_9, lit_10, lit_11, lit_12, lit_13, lit_14, lit_15, lit_16, lit_17, lit_18, lit_19, lit_20, lit_21, lit_22, lit_23, lit_24, lit_25, lit_26, lit_27, lit_28, lit_29, lit_30, lit_31, lit_32, lit_33, lit_34, lit_35, lit_36, lit_37, lit_38, lit_39, lit_40, lit_41, lit_42, lit_43, lit_44, lit_45, lit_46, lit_47, lit_48, lit_49, lit_50, lit_51, lit_52, lit_53, lit_54, lit_55, lit_56, lit_57, lit_58, lit_59, lit_60, lit_61, lit_62, lit_63, lit_64, lit_97, lit_99, lit_100, lit_122, lit_175, lit_176, lit_200, lit_255, lit_400, lit_700, lit_800, lit_999, lit_1000, lit_1400, lit_2000, lit_2033, lit_2038, lit_2100, lit_2124, lit_8000, lit_10000, lit_12345, lit_32767, lit_1000000, lit_1000000000, ↓bndX_h, ↓bndK_h, bxh_inl, bxh_inr, bkh_inl, bkh_inr, Nat.reduceEqDiff, ↓bnd_h, ↓lt_h, ↓ite_h, bh_some, lh_eq, ih_T, ih_F, ne_eq, not_false_eq_true, not_true_eq_false, eq_self, and_true, true_and, io_def, io_add, io_mul, io_sub, io_lt, io_le, io_eq, io_clamp, io_inbT, io_div, io_mod, io_m1, m1_io, m1_lt, m1_le, neg_1, gI_m1]
  refine Wp.csh (fun c => ?_) (fun c => ?_)
  · have : j = 4 := by omega
    subst this
    refine loopW (L := fun f (j : Nat) Y => zX2_weigh_L57 f 66 (lo (sumN 4 (fun j => cr j * wtN (ow b j) (oN b j m)))) (io j) Y) (J := fun j Y => j ≤ 4 ∧ (∀ i, i < j → mI Y 69 i = io (cr i * wtN (ow b i) (oN b i m) * 1000000 / sumN 4 (fun j => cr j * wtN (ow b j) (oN b j m)))) ∧ Fg [(69, 69)] [] U Y) (fun j _ => 4 - j) ?_ FU 0 U ⟨Nat.zero_le _, fun i hi => absurd hi (Nat.not_lt_zero _), Fg.refl⟩ (by rw [FU_val]; omega)
    intro f j Y ⟨hj, hally, hFy⟩ rec
    show Wp (zX2_weigh_B57 (zX2_weigh_L57 f) 66 (lo _) (io j) Y) _
    unfold zX2_weigh_B57
    have hlg := lg_lo (S := sumN 4 (fun j => cr j * wtN (ow b j) (oN b j m))) (by omega) hS
    simp -dsimp (disch := first | assumption | omega) only [lit_0, lit_1, lit_2, lit_3, lit_4, lit_5, lit_6, lit_7, lit_8, lit_9, lit_10, lit_11, lit_12, lit_13, lit_14, lit_15, lit_16, lit_17, lit_18, lit_19, lit_20, lit_21, lit_22, lit_23, lit_24, lit_25, lit_26, lit_27, lit_28, lit_29, lit_30, lit_31, lit_32, lit_33, lit_34, lit_35, lit_36, lit_37, lit_38, lit_39, lit_40, lit_41, lit_42, lit_43, lit_44, lit_45, lit_46, lit_47, lit_48, lit_49, lit_50, lit_51, lit_52, lit_53, lit_54, lit_55, lit_56, lit_57, lit_58, lit_59, lit_60, lit_61, lit_62, lit_63, lit_64, lit_97, lit_99, lit_100, lit_122, lit_175, lit_176, lit_200, lit_255, lit_400, lit_700, lit_800, lit_999, lit_1000, lit_1400, lit_2000, lit_2033, lit_2038, lit_2100, lit_2124, lit_8000, lit_10000, lit_12345, lit_32767, lit_1000000, lit_1000000000, ↓bndX_h, ↓bndK_h, bxh_inl, bxh_inr, bkh_inl, bkh_inr, Nat.reduceEqDiff, ↓bnd_h, ↓lt_h, ↓ite_h, bh_some, lh_eq, ih_T, ih_F, ne_eq, not_false_eq_true, not_true_eq_false, eq_self, and_true, true_and, io_def, io_add, io_mul, io_sub, io_lt, io_le, io_eq, io_clamp, io_inbT, io_div, io_mod, io_m1, m1_io, m1_lt, m1_le, neg_1, gI_m1, lit64_0, hlg]
    refine Wp.csh (fun c2 => ?_) (fun c2 => ?_)
    · have : j = 4 := by omega
      subst this
      refine Wp.ret ⟨fun k hk => hally k hk, (hF.sub (fun o ho => ?_) (fun _ q => q)).trans (hFy.sub (fun o ho => ?_) (fun _ q => q))⟩
      · simp only [ob, Bool.and_true, Bool.or_eq_true, decide_eq_true_eq] at ho ⊢; omega
      · simp only [ob, Bool.and_true, Bool.or_eq_true, decide_eq_true_eq] at ho ⊢; omega
    · have hj2 : j < 4 := by omega
      have p4' : mR Y 66 4 = 69 := (hFy.2.2 _ rfl _).trans ((hR _ _).trans p4)
      have p5' : mR Y 66 5 = 70 := (hFy.2.2 _ rfl _).trans ((hR _ _).trans p5)
      have ea := at_io (M := Y) K0_70 (show j < 4 by omega) (by omega)
      rw [hFy.I rfl, hall j hj2] at ea
      have hlj := hl j hj2
      have hne : ¬ sumN 4 (fun j => cr j * wtN (ow b j) (oN b j m)) = 0 := by omega
      generalize hS0 : sumN 4 (fun j => cr j * wtN (ow b j) (oN b j m)) = S0 at hne hS4 hlg rec hally ⊢
      generalize hs0 : cr j * wtN (ow b j) (oN b j m) = s0 at hlj ea ⊢
      have hdv : s0 * 1000000 / S0 ≤ s0 * 1000000 := Nat.div_le_self _ _
      have ep := put_io (M := Y) (x := io (s0 * 1000000 / S0)) K0_69 (show j < 4 by omega) (by omega)
      have hk2 := rec (j + 1) (sI Y 69 j (io (s0 * 1000000 / S0))) ⟨by omega, fun i hi => ?_, hFy.sI rfl⟩ (by omega)
      · simp -dsimp (disch := first | assumption | omega) only [lit_0, lit_1, lit_2, lit_3, lit_4, lit_5, lit_6, lit_7, lit_8, lit_9, lit_10, lit_11, lit_12, lit_13, lit_14, lit_15, lit_16, lit_17, lit_18, lit_19, lit_20, lit_21, lit_22, lit_23, lit_24, lit_25, lit_26, lit_27, lit_28, lit_29, lit_30, lit_31, lit_32, lit_33, lit_34, lit_35, lit_36, lit_37, lit_38, lit_39, lit_40, lit_41, lit_42, lit_43, lit_44, lit_45, lit_46, lit_47, lit_48, lit_49, lit_50, lit_51, lit_52, lit_53, lit_54, lit_55, lit_56, lit_57, lit_58, lit_59, lit_60, lit_61, lit_62, lit_63, lit_64, lit_97, lit_99, lit_100, lit_122, lit_175, lit_176, lit_200, lit_255, lit_400, lit_700, lit_800, lit_999, lit_1000, lit_1400, lit_2000, lit_2033, lit_2038, lit_2100, lit_2124, lit_8000, lit_10000, lit_12345, lit_32767, lit_1000000, lit_1000000000, ↓bndX_h, ↓bndK_h, bxh_inl, bxh_inr, bkh_inl, bkh_inr, Nat.reduceEqDiff, ↓bnd_h, ↓lt_h, ↓ite_h, bh_some, lh_eq, ih_T, ih_F, ne_eq, not_false_eq_true, not_true_eq_false, eq_self, and_true, true_and, io_def, io_add, io_mul, io_sub, io_lt, io_le, io_eq, io_clamp, io_inbT, io_div, io_mod, io_m1, m1_io, m1_lt, m1_le, neg_1, gI_m1, lit64_0, lit64_1, lit64_m, lit64_b, lo_add, lo_mul, lo_div, lo_lt, lo_le, lo_eq, io_lo, lo_io, hlg, p4', p5', ea, hne, ep]
        exact hk2
      · rw [mI_sI]
        by_cases q : i = j
        · subst q
          rw [if_pos ⟨rfl, rfl⟩, hs0]
        · rw [if_neg (fun z => q z.2)]
          exact hally i (by omega)
  · have hj2 : j < 4 := by omega
    have hP' : PC1 U := hP.keep (fun o k _ => hR o k)
    have hB' : CB U (bid g) b := hB.keep (fun i hi k => hF.I (ob_1of (by unfold bid; split <;> omega)))
    have p4' : mR U 66 4 = 69 := (hR _ _).trans p4
    have p5' : mR U 66 5 = 70 := (hR _ _).trans p5
    have ea := at_io (M := U) K0_69 (show j < 4 by omega) (by omega)
    rw [hF.I rfl, hC j hj2] at ea
    have ew := c_weight (m := m) hP' hB' hj2 hm hG
    have hlj := hl j hj2
    have hLj := hL j (by omega)
    have ep := put_io (M := U) (x := io (cr j * wtN (ow b j) (oN b j m))) K0_70 (show j < 4 by omega) (by omega)
    have hk2 := rec (j + 1) (sI U 70 j (io (cr j * wtN (ow b j) (oN b j m)))) ⟨by omega, fun i hi => ?_, hF.sI rfl⟩ (by omega)
    · have hw : sumN (j + 1) (fun j => cr j * wtN (ow b j) (oN b j m)) = sumN j (fun j => cr j * wtN (ow b j) (oN b j m)) + cr j * wtN (ow b j) (oN b j m) := rfl
      rw [hw] at hk2
      simp -dsimp (disch := first | assumption | omega) only [lit_0, lit_1, lit_2, lit_3, lit_4, lit_5, lit_6, lit_7, lit_8, lit_9, lit_10, lit_11, lit_12, lit_13, lit_14, lit_15, lit_16, lit_17, lit_18, lit_19, lit_20, lit_21, lit_22, lit_23, lit_24, lit_25, lit_26, lit_27, lit_28, lit_29, lit_30, lit_31, lit_32, lit_33, lit_34, lit_35, lit_36, lit_37, lit_38, lit_39, lit_40, lit_41, lit_42, lit_43, lit_44, lit_45, lit_46, lit_47, lit_48, lit_49, lit_50, lit_51, lit_52, lit_53, lit_54, lit_55, lit_56, lit_57, lit_58, lit_59, lit_60, lit_61, lit_62, lit_63, lit_64, lit_97, lit_99, lit_100, lit_122, lit_175, lit_176, lit_200, lit_255, lit_400, lit_700, lit_800, lit_999, lit_1000, lit_1400, lit_2000, lit_2033, lit_2038, lit_2100, lit_2124, lit_8000, lit_10000, lit_12345, lit_32767, lit_1000000, lit_1000000000, ↓bndX_h, ↓bndK_h, bxh_inl, bxh_inr, bkh_inl, bkh_inr, Nat.reduceEqDiff, ↓bnd_h, ↓lt_h, ↓ite_h, bh_some, lh_eq, ih_T, ih_F, ne_eq, not_false_eq_true, not_true_eq_false, eq_self, and_true, true_and, io_def, io_add, io_mul, io_sub, io_lt, io_le, io_eq, io_clamp, io_inbT, io_div, io_mod, io_m1, m1_io, m1_lt, m1_le, neg_1, gI_m1, p4', p5', ea, ew, ep, io_lo, lo_add]
      exact hk2
    · rw [mI_sI]
      by_cases q : i = j
      · subst q
        rw [if_pos ⟨rfl, rfl⟩]
      · rw [if_neg (fun z => q z.2)]
        exact hall i (by omega)
/-- how many GUESSES are told, of the first n -/
def tlN (own : Nat → Nat) (n : Nat) : Nat := sumN n (fun k => if 0 < own k then 1 else 0)
theorem tlN_le (own : Nat → Nat) : ∀ n, tlN own n ≤ n
  | 0 => Nat.le_refl _
  | n + 1 => by
    have := tlN_le own n
    show tlN own n + (if _ then _ else _) ≤ _
    split <;> omega
theorem tlN_pos {own : Nat → Nat} {k : Nat} (hk : k < 4) (h : 0 < own k) : 1 ≤ tlN own 4 := by
  have := sumN_mem (n := 4) (j := k) (f := fun k => if 0 < own k then 1 else 0) hk
  simp only [if_pos h] at this
  exact this
/-- the weights of the GIFTS of a BOOK -/
def wS (v : GV) (sv : SV) (b : BV) (i k : Nat) : Nat := wtN (ow b k) (oN b k (mskS v sv b i))
