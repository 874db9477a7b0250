/-! ===== LEVEL 2: gate: clauses, numbers words and signs ===== -/
def GdS (P : Nat → Nat) (n : Nat) (X : XV) (o : (Nat × Nat) ⊕ XV) : Prop := match o with
  | .inl q => 1 ≤ q.1 ∧ q.1 ≤ 4 ∧ q.2 ≤ n
  | .inr Y => VX P n Y ∧ xS X < xS Y ∧ xL Y = xL X ∧ xC Y = xC X
theorem sim_word {P : Nat → Nat} {n r q1 q2 : Nat} {ws : List Nat} {X : XV} (hr : isRu r) (hn : n ≤ 700) (hPb : ∀ k, k < n → P k < 256) (hV : VX P n X) (h1 : sid q1 ws) (h2 : sid q2 ws) : ∃ o, GdS P n X o ∧ (∀ M, CX M P n r X → Wp (zX6_word 2 q1 M) (fun x M' => oC P n r o x M' ∧ FrC r M M')) ∧ ∀ N, MX N P n X → Wp (zX12_word 72 q2 N) (fun _ N' => oM P n o N' ∧ FrM N N') := by
  have hsn : xS X ≤ n := by have := hV.1.1; have := hV.1.2.1; omega
  cases hw : wdB P (xS X) (xE X) (xK X) ws with
  | true =>
    have hk : xK X = 1 := by
      unfold wdB at hw
      simp only [Bool.and_eq_true, decide_eq_true_eq] at hw
      exact hw.1
    have hse := hV.1.2.2.2.1 (by omega)
    obtain ⟨X1, a1, a2, a3, a4, a5, a6, a7⟩ := sim_advX (r := r) hr hn hPb hV
    refine ⟨.inr X1, ⟨a1, by omega, a3, a4⟩, fun M hM => ?_, fun N hN => ?_⟩
    · have e := c_isWord hn hPb hM.1 hM.2.2.1 hV.1 h1
      rw [hw, bI_t] at e
      unfold zX6_word
      simp -dsimp (disch := first | assumption | omega) only [lit_0, lit_1, lit_2, lit_3, lit_4, lit_5, lit_6, lit_7, lit_8, lit_9, lit_10, lit_11, lit_12, lit_13, lit_14, lit_15, lit_16, lit_17, lit_18, lit_19, lit_20, lit_21, lit_22, lit_23, lit_24, lit_25, lit_26, lit_27, lit_28, lit_29, lit_30, lit_31, lit_32, lit_33, lit_34, lit_35, lit_36, lit_37, lit_38, lit_39, lit_40, lit_41, lit_42, lit_43, lit_44, lit_45, lit_46, lit_47, lit_48, lit_49, lit_50, lit_51, lit_52, lit_53, lit_54, lit_55, lit_56, lit_57, lit_58, lit_59, lit_60, lit_61, lit_62, lit_63, lit_64, lit_97, lit_99, lit_100, lit_122, lit_175, lit_176, lit_200, lit_255, lit_400, lit_700, lit_800, lit_999, lit_1000, lit_1400, lit_2000, lit_2033, lit_2038, lit_2100, lit_2124, lit_8000, lit_10000, lit_12345, lit_32767, lit_1000000, lit_1000000000, ↓bndX_h, ↓bndK_h, bxh_inl, bxh_inr, bkh_inl, bkh_inr, Nat.reduceEqDiff, ↓bnd_h, ↓lt_h, ↓ite_h, bh_some, lh_eq, ih_T, ih_F, ne_eq, not_false_eq_true, not_true_eq_false, eq_self, and_true, true_and, io_def, io_add, io_mul, io_sub, io_lt, io_le, io_eq, io_clamp, io_inbT, io_div, io_mod, io_m1, m1_io, m1_lt, m1_le, neg_1, gI_m1, K0_2, e]
      exact Wp.seqh (a6 M hM) (fun _ M' ⟨b1, b2⟩ => Wp.ret ⟨⟨rfl, b1⟩, b2⟩)
    · have e := m_is hn hPb hN.1 hN.2.2.1 hV.1 hN.2.1 h2
      rw [hw, bI_t] at e
      have e27 := hN.2.1
      unfold zX12_word zX12_word_B20
      simp -dsimp (disch := first | assumption | omega) only [lit_0, lit_1, lit_2, lit_3, lit_4, lit_5, lit_6, lit_7, lit_8, lit_9, lit_10, lit_11, lit_12, lit_13, lit_14, lit_15, lit_16, lit_17, lit_18, lit_19, lit_20, lit_21, lit_22, lit_23, lit_24, lit_25, lit_26, lit_27, lit_28, lit_29, lit_30, lit_31, lit_32, lit_33, lit_34, lit_35, lit_36, lit_37, lit_38, lit_39, lit_40, lit_41, lit_42, lit_43, lit_44, lit_45, lit_46, lit_47, lit_48, lit_49, lit_50, lit_51, lit_52, lit_53, lit_54, lit_55, lit_56, lit_57, lit_58, lit_59, lit_60, lit_61, lit_62, lit_63, lit_64, lit_97, lit_99, lit_100, lit_122, lit_175, lit_176, lit_200, lit_255, lit_400, lit_700, lit_800, lit_999, lit_1000, lit_1400, lit_2000, lit_2033, lit_2038, lit_2100, lit_2124, lit_8000, lit_10000, lit_12345, lit_32767, lit_1000000, lit_1000000000, ↓bndX_h, ↓bndK_h, bxh_inl, bxh_inr, bkh_inl, bkh_inr, Nat.reduceEqDiff, ↓bnd_h, ↓lt_h, ↓ite_h, bh_some, lh_eq, ih_T, ih_F, ne_eq, not_false_eq_true, not_true_eq_false, eq_self, and_true, true_and, io_def, io_add, io_mul, io_sub, io_lt, io_le, io_eq, io_clamp, io_inbT, io_div, io_mod, io_m1, m1_io, m1_lt, m1_le, neg_1, gI_m1, K0_72, e, e27]
      exact Wp.seqh (a7 N hN) (fun _ N' h => Wp.ret h)
  | false =>
    refine ⟨.inl (1, xS X), ⟨by show 1 ≤ 1; omega, by show 1 ≤ 4; omega, hsn⟩, fun M hM => ?_, fun N hN => ?_⟩
    · have e := c_isWord hn hPb hM.1 hM.2.2.1 hV.1 h1
      rw [hw, bI_f] at e
      unfold zX6_word
      simp -dsimp (disch := first | assumption | omega) only [lit_0, lit_1, lit_2, lit_3, lit_4, lit_5, lit_6, lit_7, lit_8, lit_9, lit_10, lit_11, lit_12, lit_13, lit_14, lit_15, lit_16, lit_17, lit_18, lit_19, lit_20, lit_21, lit_22, lit_23, lit_24, lit_25, lit_26, lit_27, lit_28, lit_29, lit_30, lit_31, lit_32, lit_33, lit_34, lit_35, lit_36, lit_37, lit_38, lit_39, lit_40, lit_41, lit_42, lit_43, lit_44, lit_45, lit_46, lit_47, lit_48, lit_49, lit_50, lit_51, lit_52, lit_53, lit_54, lit_55, lit_56, lit_57, lit_58, lit_59, lit_60, lit_61, lit_62, lit_63, lit_64, lit_97, lit_99, lit_100, lit_122, lit_175, lit_176, lit_200, lit_255, lit_400, lit_700, lit_800, lit_999, lit_1000, lit_1400, lit_2000, lit_2033, lit_2038, lit_2100, lit_2124, lit_8000, lit_10000, lit_12345, lit_32767, lit_1000000, lit_1000000000, ↓bndX_h, ↓bndK_h, bxh_inl, bxh_inr, bkh_inl, bkh_inr, Nat.reduceEqDiff, ↓bnd_h, ↓lt_h, ↓ite_h, bh_some, lh_eq, ih_T, ih_F, ne_eq, not_false_eq_true, not_true_eq_false, eq_self, and_true, true_and, io_def, io_add, io_mul, io_sub, io_lt, io_le, io_eq, io_clamp, io_inbT, io_div, io_mod, io_m1, m1_io, m1_lt, m1_le, neg_1, gI_m1, K0_2, e]
      refine Wp.seqh (c_refuseX hM) (fun v M' ⟨i1, i2⟩ => ?_)
      subst i1
      simp -dsimp (disch := first | assumption | omega) only [lit_0, lit_1, lit_2, lit_3, lit_4, lit_5, lit_6, lit_7, lit_8, lit_9, lit_10, lit_11, lit_12, lit_13, lit_14, lit_15, lit_16, lit_17, lit_18, lit_19, lit_20, lit_21, lit_22, lit_23, lit_24, lit_25, lit_26, lit_27, lit_28, lit_29, lit_30, lit_31, lit_32, lit_33, lit_34, lit_35, lit_36, lit_37, lit_38, lit_39, lit_40, lit_41, lit_42, lit_43, lit_44, lit_45, lit_46, lit_47, lit_48, lit_49, lit_50, lit_51, lit_52, lit_53, lit_54, lit_55, lit_56, lit_57, lit_58, lit_59, lit_60, lit_61, lit_62, lit_63, lit_64, lit_97, lit_99, lit_100, lit_122, lit_175, lit_176, lit_200, lit_255, lit_400, lit_700, lit_800, lit_999, lit_1000, lit_1400, lit_2000, lit_2033, lit_2038, lit_2100, lit_2124, lit_8000, lit_10000, lit_12345, lit_32767, lit_1000000, lit_1000000000, ↓bndX_h, ↓bndK_h, bxh_inl, bxh_inr, bkh_inl, bkh_inr, Nat.reduceEqDiff, ↓bnd_h, ↓lt_h, ↓ite_h, bh_some, lh_eq, ih_T, ih_F, ne_eq, not_false_eq_true, not_true_eq_false, eq_self, and_true, true_and, io_def, true_or]
      exact Wp.ret ⟨⟨rfl, i2.1⟩, i2.2⟩
    · have e := m_is hn hPb hN.1 hN.2.2.1 hV.1 hN.2.1 h2
      rw [hw, bI_f] at e
      have e27 := hN.2.1
      unfold zX12_word zX12_word_B20
      simp -dsimp (disch := first | assumption | omega) only [lit_0, lit_1, lit_2, lit_3, lit_4, lit_5, lit_6, lit_7, lit_8, lit_9, lit_10, lit_11, lit_12, lit_13, lit_14, lit_15, lit_16, lit_17, lit_18, lit_19, lit_20, lit_21, lit_22, lit_23, lit_24, lit_25, lit_26, lit_27, lit_28, lit_29, lit_30, lit_31, lit_32, lit_33, lit_34, lit_35, lit_36, lit_37, lit_38, lit_39, lit_40, lit_41, lit_42, lit_43, lit_44, lit_45, lit_46, lit_47, lit_48, lit_49, lit_50, lit_51, lit_52, lit_53, lit_54, lit_55, lit_56, lit_57, lit_58, lit_59, lit_60, lit_61, lit_62, lit_63, lit_64, lit_97, lit_99, lit_100, lit_122, lit_175, lit_176, lit_200, lit_255, lit_400, lit_700, lit_800, lit_999, lit_1000, lit_1400, lit_2000, lit_2033, lit_2038, lit_2100, lit_2124, lit_8000, lit_10000, lit_12345, lit_32767, lit_1000000, lit_1000000000, ↓bndX_h, ↓bndK_h, bxh_inl, bxh_inr, bkh_inl, bkh_inr, Nat.reduceEqDiff, ↓bnd_h, ↓lt_h, ↓ite_h, bh_some, lh_eq, ih_T, ih_F, ne_eq, not_false_eq_true, not_true_eq_false, eq_self, and_true, true_and, io_def, io_add, io_mul, io_sub, io_lt, io_le, io_eq, io_clamp, io_inbT, io_div, io_mod, io_m1, m1_io, m1_lt, m1_le, neg_1, gI_m1, K0_72, e, e27]
      refine Wp.seqh (m_wrongX hN) (fun _ N' ⟨i1, i2⟩ => ?_)
      have hbn := (bad_of (by omega) (by omega) i1).ne
      simp -dsimp (disch := first | assumption | omega) only [lit_0, lit_1, lit_2, lit_3, lit_4, lit_5, lit_6, lit_7, lit_8, lit_9, lit_10, lit_11, lit_12, lit_13, lit_14, lit_15, lit_16, lit_17, lit_18, lit_19, lit_20, lit_21, lit_22, lit_23, lit_24, lit_25, lit_26, lit_27, lit_28, lit_29, lit_30, lit_31, lit_32, lit_33, lit_34, lit_35, lit_36, lit_37, lit_38, lit_39, lit_40, lit_41, lit_42, lit_43, lit_44, lit_45, lit_46, lit_47, lit_48, lit_49, lit_50, lit_51, lit_52, lit_53, lit_54, lit_55, lit_56, lit_57, lit_58, lit_59, lit_60, lit_61, lit_62, lit_63, lit_64, lit_97, lit_99, lit_100, lit_122, lit_175, lit_176, lit_200, lit_255, lit_400, lit_700, lit_800, lit_999, lit_1000, lit_1400, lit_2000, lit_2033, lit_2038, lit_2100, lit_2124, lit_8000, lit_10000, lit_12345, lit_32767, lit_1000000, lit_1000000000, ↓bndX_h, ↓bndK_h, bxh_inl, bxh_inr, bkh_inl, bkh_inr, Nat.reduceEqDiff, ↓bnd_h, ↓lt_h, ↓ite_h, bh_some, lh_eq, ih_T, ih_F, ne_eq, not_false_eq_true, not_true_eq_false, eq_self, and_true, true_and, io_def, hbn]
      exact Wp.ret ⟨i1, i2⟩
theorem sim_sign {P : Nat → Nat} {n r c : Nat} {X : XV} (hr : isRu r) (hn : n ≤ 700) (hPb : ∀ k, k < n → P k < 256) (hV : VX P n X) (h1 : 40 ≤ c) (h2 : c < 256) : ∃ o, GdS P n X o ∧ (∀ M, CX M P n r X → Wp (zX6_sign 2 (io c) M) (fun x M' => oC P n r o x M' ∧ FrC r M M')) ∧ ∀ N, MX N P n X → Wp (zX12_mark 72 (io c) N) (fun _ N' => oM P n o N' ∧ FrM N N') := by
  have hsn : xS X ≤ n := by have := hV.1.1; have := hV.1.2.1; omega
  by_cases hk : xK X = c
  · have hse := hV.1.2.2.2.1 (by omega)
    obtain ⟨X1, a1, a2, a3, a4, a5, a6, a7⟩ := sim_advX (r := r) hr hn hPb hV
    refine ⟨.inr X1, ⟨a1, by omega, a3, a4⟩, fun M hM => ?_, fun N hN => ?_⟩
    · exact c_sign_ok hM h2 hk ((a6 M hM).mono (fun _ M' ⟨b1, b2⟩ => ⟨⟨rfl, b1⟩, b2⟩))
    · exact m_mark_ok hn hPb hV hN h1 hk (a7 N hN)
  · refine ⟨.inl (1, xS X), ⟨by show 1 ≤ 1; omega, by show 1 ≤ 4; omega, hsn⟩, fun M hM => ?_, fun N hN => ?_⟩
    · exact (c_sign_no hV hM h2 hk).mono (fun v M' ⟨i1, i2, i3⟩ => ⟨⟨i1, i2⟩, i3⟩)
    · exact m_mark_no hn hPb hV hN h1 h2 hk
theorem sim_num {P : Nat → Nat} {n r lo hi : Nat} {X : XV} (hr : isRu r) (hn : n ≤ 700) (hPb : ∀ k, k < n → P k < 256) (hV : VX P n X) (hh : hi ≤ 999) (hl : lo ≤ hi) : ∃ v o, lo ≤ v ∧ v ≤ hi ∧ GdS P n X o ∧ (∀ M, CX M P n r X → Wp (zX6_numberFrom 2 (io lo) (io hi) M) (fun x M' => oC P n r o x M' ∧ FrC r M M' ∧ (x = io 1 → mI M' 2 9 = io v))) ∧ ∀ N, MX N P n X → Wp (zX12_readNumber 72 (io lo) (io hi) N) (fun y N' => oM P n o N' ∧ FrM N N' ∧ ((∃ Y, o = .inr Y) → y = io v)) := by
  have hsn : xS X ≤ n := by have := hV.1.1; have := hV.1.2.1; omega
  have v7 : xK X < 256 := hV.1.2.2.2.2.2.2
  have hrl : rkS (xK X) < 5 := rkS_lt
  have hcF : ∀ x, ∀ M, CX M P n r X → Wp (zX6_refuse 2 (io x) M) (fun v M' => oC P n r (.inl (x, xS X)) v M' ∧ FrC r M M' ∧ (v = io 1 → mI M' 2 9 = io lo)) := fun x M hM =>
    (c_refuseX hM).mono (fun v M' ⟨i1, i2, i3⟩ => ⟨⟨i1, i2⟩, i3, fun z => by rw [i1, io_eq (by omega) (by omega)] at z; omega⟩)
  by_cases k2 : xK X = 2
  · have hse := hV.1.2.2.2.1 (by omega)
    by_cases c3 : xE X - xS X ≤ 3 ∧ lo ≤ xM X ∧ xM X ≤ hi
    · obtain ⟨c3, cl, ch⟩ := c3
      have cl' : ¬ xM X < lo := by omega
      obtain ⟨s, e, k, m, b1, b2, b3, b4⟩ := sim_advT (r := r) hr hn hPb hV.1.2.1
      refine ⟨xM X, .inr (xTo X s e k m), cl, ch, ⟨hV.to b1 (by omega), by show xS X < s; omega, rfl, rfl⟩, fun M hM => ?_, fun N hN => ?_⟩
      · have t7 := hM.2.2.1.2.2.1
        have t8 := hM.2.2.1.2.2.2 k2
        rw [k2] at t7
        rw [if_pos c3] at t8
        have hF9 : On 2 [9] M (sI M 2 9 (io (xM X))) := On.refl.sI (by simp)
        have hFc : FrC r M (sI M 2 9 (io (xM X))) := hF9.C (fun j hj => by simp only [fC, List.mem_cons, List.not_mem_nil, or_false] at hj ⊢; omega)
        have hM9 : CX (sI M 2 9 (io (xM X))) P n r X := by
          obtain ⟨c1, c2, ⟨u1, u2, u3, u4⟩, c4, c5, c6, c7⟩ := hM
          have h3 : r ≠ 2 ∧ r + 5 ≠ 2 := by rcases hr with rfl | rfl | rfl <;> omega
          exact ⟨c1.Fr hr hFc, c2, ⟨(mI_diff (Or.inr (by omega))).trans u1, (mI_diff (Or.inr (by omega))).trans u2, (mI_diff (Or.inr (by omega))).trans u3, fun z => (mI_diff (Or.inr (by omega))).trans (u4 z)⟩, (mI_diff (Or.inl h3.1)).trans c4, (mI_diff (Or.inl h3.1)).trans c5, fun i hi => (mI_diff (Or.inl h3.2)).trans (c6 i hi), (mI_diff (Or.inr (by omega))).trans c7⟩
        have e9 : mI (sI M 2 9 (io (xM X))) 2 9 = io (xM X) := mI_same
        unfold zX6_numberFrom
        simp -dsimp (disch := first | assumption | omega) only [lit_0, lit_1, lit_2, lit_3, lit_4, lit_5, lit_6, lit_7, lit_8, lit_9, lit_10, lit_11, lit_12, lit_13, lit_14, lit_15, lit_16, lit_17, lit_18, lit_19, lit_20, lit_21, lit_22, lit_23, lit_24, lit_25, lit_26, lit_27, lit_28, lit_29, lit_30, lit_31, lit_32, lit_33, lit_34, lit_35, lit_36, lit_37, lit_38, lit_39, lit_40, lit_41, lit_42, lit_43, lit_44, lit_45, lit_46, lit_47, lit_48, lit_49, lit_50, lit_51, lit_52, lit_53, lit_54, lit_55, lit_56, lit_57, lit_58, lit_59, lit_60, lit_61, lit_62, lit_63, lit_64, lit_97, lit_99, lit_100, lit_122, lit_175, lit_176, lit_200, lit_255, lit_400, lit_700, lit_800, lit_999, lit_1000, lit_1400, lit_2000, lit_2033, lit_2038, lit_2100, lit_2124, lit_8000, lit_10000, lit_12345, lit_32767, lit_1000000, lit_1000000000, ↓bndX_h, ↓bndK_h, bxh_inl, bxh_inr, bkh_inl, bkh_inr, Nat.reduceEqDiff, ↓bnd_h, ↓lt_h, ↓ite_h, bh_some, lh_eq, ih_T, ih_F, ne_eq, not_false_eq_true, not_true_eq_false, eq_self, and_true, true_and, io_def, io_add, io_mul, io_sub, io_lt, io_le, io_eq, io_clamp, io_inbT, io_div, io_mod, io_m1, m1_io, m1_lt, m1_le, neg_1, gI_m1, K0_2, t7, t8, cl', ch]
        generalize sI M 2 9 (io (xM X)) = M9 at hF9 hFc hM9 e9 ⊢
        refine Wp.seqh (b3 X M9 rfl hM9) (fun _ M2 ⟨j1, j2, j3⟩ => ?_)
        refine Wp.ret ⟨⟨rfl, j1⟩, hFc.trans j2, fun _ => ?_⟩
        rw [j3.1 _ _ (Or.inr (by simp)), e9]
      · have e27 := hN.2.1
        obtain ⟨e25, e26, e21, e23, e24⟩ := hN.2.2.1
        have e24 := e24 k2 c3
        rw [show rkS (xK X) = 2 by rw [k2]; rfl] at e23
        have hsub : io (xE X) - io (xS X) = io (xE X - xS X) := io_sub (by omega)
        have h3l : ¬ 3 < xE X - xS X := by omega
        have hEn := hV.1.2.1
        unfold zX12_readNumber zX12_readNumber_B59
        simp -dsimp (disch := first | assumption | omega) only [lit_0, lit_1, lit_2, lit_3, lit_4, lit_5, lit_6, lit_7, lit_8, lit_9, lit_10, lit_11, lit_12, lit_13, lit_14, lit_15, lit_16, lit_17, lit_18, lit_19, lit_20, lit_21, lit_22, lit_23, lit_24, lit_25, lit_26, lit_27, lit_28, lit_29, lit_30, lit_31, lit_32, lit_33, lit_34, lit_35, lit_36, lit_37, lit_38, lit_39, lit_40, lit_41, lit_42, lit_43, lit_44, lit_45, lit_46, lit_47, lit_48, lit_49, lit_50, lit_51, lit_52, lit_53, lit_54, lit_55, lit_56, lit_57, lit_58, lit_59, lit_60, lit_61, lit_62, lit_63, lit_64, lit_97, lit_99, lit_100, lit_122, lit_175, lit_176, lit_200, lit_255, lit_400, lit_700, lit_800, lit_999, lit_1000, lit_1400, lit_2000, lit_2033, lit_2038, lit_2100, lit_2124, lit_8000, lit_10000, lit_12345, lit_32767, lit_1000000, lit_1000000000, ↓bndX_h, ↓bndK_h, bxh_inl, bxh_inr, bkh_inl, bkh_inr, Nat.reduceEqDiff, ↓bnd_h, ↓lt_h, ↓ite_h, bh_some, lh_eq, ih_T, ih_F, ne_eq, not_false_eq_true, not_true_eq_false, eq_self, and_true, true_and, io_def, io_add, io_mul, io_sub, io_lt, io_le, io_eq, io_clamp, io_inbT, io_div, io_mod, io_m1, m1_io, m1_lt, m1_le, neg_1, gI_m1, PM.p0, PM.p1, PM.p3, PM.p4, PM.p5, PM.p6, PM.p7, PM.p8, PM.p9, PM.p10, PM.p11, PM.p12, PM.p13, PM.p14, PM.p15, PM.p16, PM.p17, PM.p18, PM.p19, PM.p31, PM.p32, PM.p33, PM.p34, PM.p38, PM.p39, PM.p40, PM.p41, PM.p42, PM.p46, PM.p47, PM.p50, PM.p51, PM.p52, PM.p53, PM.p54, PM.p55, PM.p56, PM.p57, K0_1, K0_2, K0_3, K0_4, K0_5, K0_6, K0_7, K0_8, K0_9, K0_10, K0_11, K0_12, K0_13, K0_14, K0_15, K0_16, K0_17, K0_18, K0_19, K0_20, K0_21, K0_22, K0_23, K0_24, K0_25, K0_26, K0_27, K0_28, K0_29, K0_30, K0_31, K0_32, K0_33, K0_34, K0_35, K0_36, K0_37, K0_38, K0_39, K0_40, K0_41, K0_42, K0_43, K0_44, K0_45, K0_46, K0_47, K0_48, K0_49, K0_50, K0_51, K0_52, K0_53, K0_54, K0_55, K0_56, K0_57, K0_58, K0_59, K0_60, K0_61, K0_62, K0_63, K0_64, K0_65, K0_66, K0_67, K0_68, K0_69, K0_70, K0_71, K0_72, K0_73, K0_74, K0_75, K0_76, K0_77, K0_78, K0_79, K0_80, K0_81, K0_82, K0_83, K0_84, K0_85, K0_86, K0_87, K0_88, K0_89, K0_90, K0_91, K0_92, K0_93, K0_94, K0_95, K0_96, K0_97, K0_98, K0_99, K0_100, K0_101, K0_102, K0_103, K0_104, K0_105, K0_106, K0_107, K0_108, K0_109, K0_110, K0_111, e27, e23, e25, e26, hsub, h3l, e24, cl', ch]
        exact Wp.seqh (b4 X N rfl hN) (fun _ N1 ⟨j1, j2⟩ => Wp.ret ⟨j1, j2, fun _ => rfl⟩)
    · refine ⟨lo, .inl (2, xS X), Nat.le_refl _, hl, ⟨by show 1 ≤ 2; omega, by show 2 ≤ 4; omega, hsn⟩, fun M hM => ?_, fun N hN => ?_⟩
      · have fin : Wp (zX6_numberFrom_B30 2 M) (fun v M' => oC P n r (.inl (2, xS X)) v M' ∧ FrC r M M' ∧ (v = io 1 → mI M' 2 9 = io lo)) := by
          unfold zX6_numberFrom_B30
          simp -dsimp (disch := first | assumption | omega) only [lit_0, lit_1, lit_2, lit_3, lit_4, lit_5, lit_6, lit_7, lit_8, lit_9, lit_10, lit_11, lit_12, lit_13, lit_14, lit_15, lit_16, lit_17, lit_18, lit_19, lit_20, lit_21, lit_22, lit_23, lit_24, lit_25, lit_26, lit_27, lit_28, lit_29, lit_30, lit_31, lit_32, lit_33, lit_34, lit_35, lit_36, lit_37, lit_38, lit_39, lit_40, lit_41, lit_42, lit_43, lit_44, lit_45, lit_46, lit_47, lit_48, lit_49, lit_50, lit_51, lit_52, lit_53, lit_54, lit_55, lit_56, lit_57, lit_58, lit_59, lit_60, lit_61, lit_62, lit_63, lit_64, lit_97, lit_99, lit_100, lit_122, lit_175, lit_176, lit_200, lit_255, lit_400, lit_700, lit_800, lit_999, lit_1000, lit_1400, lit_2000, lit_2033, lit_2038, lit_2100, lit_2124, lit_8000, lit_10000, lit_12345, lit_32767, lit_1000000, lit_1000000000, ↓bndX_h, ↓bndK_h, bxh_inl, bxh_inr, bkh_inl, bkh_inr, Nat.reduceEqDiff, ↓bnd_h, ↓lt_h, ↓ite_h, bh_some, lh_eq, ih_T, ih_F, ne_eq, not_false_eq_true, not_true_eq_false, eq_self, and_true, true_and, io_def]
          refine Wp.seqh (hcF 2 M hM) (fun v M' h => ?_)
          obtain ⟨⟨rfl, h1⟩, h2⟩ := h
          simp -dsimp (disch := first | assumption | omega) only [lit_0, lit_1, lit_2, lit_3, lit_4, lit_5, lit_6, lit_7, lit_8, lit_9, lit_10, lit_11, lit_12, lit_13, lit_14, lit_15, lit_16, lit_17, lit_18, lit_19, lit_20, lit_21, lit_22, lit_23, lit_24, lit_25, lit_26, lit_27, lit_28, lit_29, lit_30, lit_31, lit_32, lit_33, lit_34, lit_35, lit_36, lit_37, lit_38, lit_39, lit_40, lit_41, lit_42, lit_43, lit_44, lit_45, lit_46, lit_47, lit_48, lit_49, lit_50, lit_51, lit_52, lit_53, lit_54, lit_55, lit_56, lit_57, lit_58, lit_59, lit_60, lit_61, lit_62, lit_63, lit_64, lit_97, lit_99, lit_100, lit_122, lit_175, lit_176, lit_200, lit_255, lit_400, lit_700, lit_800, lit_999, lit_1000, lit_1400, lit_2000, lit_2033, lit_2038, lit_2100, lit_2124, lit_8000, lit_10000, lit_12345, lit_32767, lit_1000000, lit_1000000000, ↓bndX_h, ↓bndK_h, bxh_inl, bxh_inr, bkh_inl, bkh_inr, Nat.reduceEqDiff, ↓bnd_h, ↓lt_h, ↓ite_h, bh_some, lh_eq, ih_T, ih_F, ne_eq, not_false_eq_true, not_true_eq_false, eq_self, and_true, true_and, io_def, true_or]
          exact Wp.ret ⟨⟨rfl, h1⟩, h2⟩
        have t7 := hM.2.2.1.2.2.1
        have t8 := hM.2.2.1.2.2.2 k2
        rw [k2] at t7
        obtain ⟨w, hw, ew, hw2⟩ : ∃ w, w ≤ 1000 ∧ mI M 2 8 = io w ∧ (w < lo ∨ hi < w) := by
          by_cases d3 : xE X - xS X ≤ 3
          · rw [if_pos d3] at t8
            exact ⟨xM X, by have := hV.1.2.2.2.2.2.1 k2 d3; omega, t8, by omega⟩
          · rw [if_neg d3] at t8
            exact ⟨1000, Nat.le_refl _, t8, by omega⟩
        unfold zX6_numberFrom
        simp -dsimp (disch := first | assumption | omega) only [lit_0, lit_1, lit_2, lit_3, lit_4, lit_5, lit_6, lit_7, lit_8, lit_9, lit_10, lit_11, lit_12, lit_13, lit_14, lit_15, lit_16, lit_17, lit_18, lit_19, lit_20, lit_21, lit_22, lit_23, lit_24, lit_25, lit_26, lit_27, lit_28, lit_29, lit_30, lit_31, lit_32, lit_33, lit_34, lit_35, lit_36, lit_37, lit_38, lit_39, lit_40, lit_41, lit_42, lit_43, lit_44, lit_45, lit_46, lit_47, lit_48, lit_49, lit_50, lit_51, lit_52, lit_53, lit_54, lit_55, lit_56, lit_57, lit_58, lit_59, lit_60, lit_61, lit_62, lit_63, lit_64, lit_97, lit_99, lit_100, lit_122, lit_175, lit_176, lit_200, lit_255, lit_400, lit_700, lit_800, lit_999, lit_1000, lit_1400, lit_2000, lit_2033, lit_2038, lit_2100, lit_2124, lit_8000, lit_10000, lit_12345, lit_32767, lit_1000000, lit_1000000000, ↓bndX_h, ↓bndK_h, bxh_inl, bxh_inr, bkh_inl, bkh_inr, Nat.reduceEqDiff, ↓bnd_h, ↓lt_h, ↓ite_h, bh_some, lh_eq, ih_T, ih_F, ne_eq, not_false_eq_true, not_true_eq_false, eq_self, and_true, true_and, io_def, io_add, io_mul, io_sub, io_lt, io_le, io_eq, io_clamp, io_inbT, io_div, io_mod, io_m1, m1_io, m1_lt, m1_le, neg_1, gI_m1, K0_2, t7, ew]
        refine Wp.csh (fun c => fin) (fun c => ?_)
        have hw3 : ¬ w ≤ hi := by omega
        simp -dsimp (disch := first | assumption | omega) only [lit_0, lit_1, lit_2, lit_3, lit_4, lit_5, lit_6, lit_7, lit_8, lit_9, lit_10, lit_11, lit_12, lit_13, lit_14, lit_15, lit_16, lit_17, lit_18, lit_19, lit_20, lit_21, lit_22, lit_23, lit_24, lit_25, lit_26, lit_27, lit_28, lit_29, lit_30, lit_31, lit_32, lit_33, lit_34, lit_35, lit_36, lit_37, lit_38, lit_39, lit_40, lit_41, lit_42, lit_43, lit_44, lit_45, lit_46, lit_47, lit_48, lit_49, lit_50, lit_51, lit_52, lit_53, lit_54, lit_55, lit_56, lit_57, lit_58, lit_59, lit_60, lit_61, lit_62, lit_63, lit_64, lit_97, lit_99, lit_100, lit_122, lit_175, lit_176, lit_200, lit_255, lit_400, lit_700, lit_800, lit_999, lit_1000, lit_1400, lit_2000, lit_2033, lit_2038, lit_2100, lit_2124, lit_8000, lit_10000, lit_12345, lit_32767, lit_1000000, lit_1000000000, ↓bndX_h, ↓bndK_h, bxh_inl, bxh_inr, bkh_inl, bkh_inr, Nat.reduceEqDiff, ↓bnd_h, ↓lt_h, ↓ite_h, bh_some, lh_eq, ih_T, ih_F, ne_eq, not_false_eq_true, not_true_eq_false, eq_self, and_true, true_and, io_def, io_add, io_mul, io_sub, io_lt, io_le, io_eq, io_clamp, io_inbT, io_div, io_mod, io_m1, m1_io, m1_lt, m1_le, neg_1, gI_m1, ew, hw3]
        exact fin
      · have e27 := hN.2.1
        obtain ⟨e25, e26, e21, e23, e24⟩ := hN.2.2.1
        rw [show rkS (xK X) = 2 by rw [k2]; rfl] at e23
        have hsub : io (xE X) - io (xS X) = io (xE X - xS X) := io_sub (by omega)
        have hEn := hV.1.2.1
        have fin : Wp (zX12_readNumber_B54 72 N) (fun y N' => oM P n (.inl (2, xS X)) N' ∧ FrM N N' ∧ ((∃ Y, (.inl (2, xS X) : (Nat × Nat) ⊕ XV) = .inr Y) → y = io lo)) := by
          unfold zX12_readNumber_B54 zX12_readNumber_B59
          simp -dsimp (disch := first | assumption | omega) only [lit_0, lit_1, lit_2, lit_3, lit_4, lit_5, lit_6, lit_7, lit_8, lit_9, lit_10, lit_11, lit_12, lit_13, lit_14, lit_15, lit_16, lit_17, lit_18, lit_19, lit_20, lit_21, lit_22, lit_23, lit_24, lit_25, lit_26, lit_27, lit_28, lit_29, lit_30, lit_31, lit_32, lit_33, lit_34, lit_35, lit_36, lit_37, lit_38, lit_39, lit_40, lit_41, lit_42, lit_43, lit_44, lit_45, lit_46, lit_47, lit_48, lit_49, lit_50, lit_51, lit_52, lit_53, lit_54, lit_55, lit_56, lit_57, lit_58, lit_59, lit_60, lit_61, lit_62, lit_63, lit_64, lit_97, lit_99, lit_100, lit_122, lit_175, lit_176, lit_200, lit_255, lit_400, lit_700, lit_800, lit_999, lit_1000, lit_1400, lit_2000, lit_2033, lit_2038, lit_2100, lit_2124, lit_8000, lit_10000, lit_12345, lit_32767, lit_1000000, lit_1000000000, ↓bndX_h, ↓bndK_h, bxh_inl, bxh_inr, bkh_inl, bkh_inr, Nat.reduceEqDiff, ↓bnd_h, ↓lt_h, ↓ite_h, bh_some, lh_eq, ih_T, ih_F, ne_eq, not_false_eq_true, not_true_eq_false, eq_self, and_true, true_and, io_def]
          refine Wp.seqh (m_wrongX hN) (fun _ N1 ⟨i1, i2⟩ => ?_)
          have hbn := (bad_of (by omega) (by omega) i1).ne
          simp -dsimp (disch := first | assumption | omega) only [lit_0, lit_1, lit_2, lit_3, lit_4, lit_5, lit_6, lit_7, lit_8, lit_9, lit_10, lit_11, lit_12, lit_13, lit_14, lit_15, lit_16, lit_17, lit_18, lit_19, lit_20, lit_21, lit_22, lit_23, lit_24, lit_25, lit_26, lit_27, lit_28, lit_29, lit_30, lit_31, lit_32, lit_33, lit_34, lit_35, lit_36, lit_37, lit_38, lit_39, lit_40, lit_41, lit_42, lit_43, lit_44, lit_45, lit_46, lit_47, lit_48, lit_49, lit_50, lit_51, lit_52, lit_53, lit_54, lit_55, lit_56, lit_57, lit_58, lit_59, lit_60, lit_61, lit_62, lit_63, lit_64, lit_97, lit_99, lit_100, lit_122, lit_175, lit_176, lit_200, lit_255, lit_400, lit_700, lit_800, lit_999, lit_1000, lit_1400, lit_2000, lit_2033, lit_2038, lit_2100, lit_2124, lit_8000, lit_10000, lit_12345, lit_32767, lit_1000000, lit_1000000000, ↓bndX_h, ↓bndK_h, bxh_inl, bxh_inr, bkh_inl, bkh_inr, Nat.reduceEqDiff, ↓bnd_h, ↓lt_h, ↓ite_h, bh_some, lh_eq, ih_T, ih_F, ne_eq, not_false_eq_true, not_true_eq_false, eq_self, and_true, true_and, io_def, hbn]
          exact Wp.ret ⟨i1, i2, fun ⟨_, z⟩ => by cases z⟩
        unfold zX12_readNumber
        simp -dsimp (disch := first | assumption | omega) only [lit_0, lit_1, lit_2, lit_3, lit_4, lit_5, lit_6, lit_7, lit_8, lit_9, lit_10, lit_11, lit_12, lit_13, lit_14, lit_15, lit_16, lit_17, lit_18, lit_19, lit_20, lit_21, lit_22, lit_23, lit_24, lit_25, lit_26, lit_27, lit_28, lit_29, lit_30, lit_31, lit_32, lit_33, lit_34, lit_35, lit_36, lit_37, lit_38, lit_39, lit_40, lit_41, lit_42, lit_43, lit_44, lit_45, lit_46, lit_47, lit_48, lit_49, lit_50, lit_51, lit_52, lit_53, lit_54, lit_55, lit_56, lit_57, lit_58, lit_59, lit_60, lit_61, lit_62, lit_63, lit_64, lit_97, lit_99, lit_100, lit_122, lit_175, lit_176, lit_200, lit_255, lit_400, lit_700, lit_800, lit_999, lit_1000, lit_1400, lit_2000, lit_2033, lit_2038, lit_2100, lit_2124, lit_8000, lit_10000, lit_12345, lit_32767, lit_1000000, lit_1000000000, ↓bndX_h, ↓bndK_h, bxh_inl, bxh_inr, bkh_inl, bkh_inr, Nat.reduceEqDiff, ↓bnd_h, ↓lt_h, ↓ite_h, bh_some, lh_eq, ih_T, ih_F, ne_eq, not_false_eq_true, not_true_eq_false, eq_self, and_true, true_and, io_def, io_add, io_mul, io_sub, io_lt, io_le, io_eq, io_clamp, io_inbT, io_div, io_mod, io_m1, m1_io, m1_lt, m1_le, neg_1, gI_m1, PM.p0, PM.p1, PM.p3, PM.p4, PM.p5, PM.p6, PM.p7, PM.p8, PM.p9, PM.p10, PM.p11, PM.p12, PM.p13, PM.p14, PM.p15, PM.p16, PM.p17, PM.p18, PM.p19, PM.p31, PM.p32, PM.p33, PM.p34, PM.p38, PM.p39, PM.p40, PM.p41, PM.p42, PM.p46, PM.p47, PM.p50, PM.p51, PM.p52, PM.p53, PM.p54, PM.p55, PM.p56, PM.p57, K0_1, K0_2, K0_3, K0_4, K0_5, K0_6, K0_7, K0_8, K0_9, K0_10, K0_11, K0_12, K0_13, K0_14, K0_15, K0_16, K0_17, K0_18, K0_19, K0_20, K0_21, K0_22, K0_23, K0_24, K0_25, K0_26, K0_27, K0_28, K0_29, K0_30, K0_31, K0_32, K0_33, K0_34, K0_35, K0_36, K0_37, K0_38, K0_39, K0_40, K0_41, K0_42, K0_43, K0_44, K0_45, K0_46, K0_47, K0_48, K0_49, K0_50, K0_51, K0_52, K0_53, K0_54, K0_55, K0_56, K0_57, K0_58, K0_59, K0_60, K0_61, K0_62, K0_63, K0_64, K0_65, K0_66, K0_67, K0_68, K0_69, K0_70, K0_71, K0_72, K0_73, K0_74, K0_75, K0_76, K0_77, K0_78, K0_79, K0_80, K0_81, K0_82, K0_83, K0_84, K0_85, K0_86, K0_87, K0_88, K0_89, K0_90, K0_91, K0_92, K0_93, K0_94, K0_95, K0_96, K0_97, K0_98, K0_99, K0_100, K0_101, K0_102, K0_103, K0_104, K0_105, K0_106, K0_107, K0_108, K0_109, K0_110, K0_111, e27, e23, e25, e26, hsub]
        refine Wp.csh (fun c => fin) (fun c => ?_)
        have d3 : xE X - xS X ≤ 3 := by omega
        have e24 := e24 k2 d3
        have hm9 := hV.1.2.2.2.2.2.1 k2 d3
        simp -dsimp (disch := first | assumption | omega) only [lit_0, lit_1, lit_2, lit_3, lit_4, lit_5, lit_6, lit_7, lit_8, lit_9, lit_10, lit_11, lit_12, lit_13, lit_14, lit_15, lit_16, lit_17, lit_18, lit_19, lit_20, lit_21, lit_22, lit_23, lit_24, lit_25, lit_26, lit_27, lit_28, lit_29, lit_30, lit_31, lit_32, lit_33, lit_34, lit_35, lit_36, lit_37, lit_38, lit_39, lit_40, lit_41, lit_42, lit_43, lit_44, lit_45, lit_46, lit_47, lit_48, lit_49, lit_50, lit_51, lit_52, lit_53, lit_54, lit_55, lit_56, lit_57, lit_58, lit_59, lit_60, lit_61, lit_62, lit_63, lit_64, lit_97, lit_99, lit_100, lit_122, lit_175, lit_176, lit_200, lit_255, lit_400, lit_700, lit_800, lit_999, lit_1000, lit_1400, lit_2000, lit_2033, lit_2038, lit_2100, lit_2124, lit_8000, lit_10000, lit_12345, lit_32767, lit_1000000, lit_1000000000, ↓bndX_h, ↓bndK_h, bxh_inl, bxh_inr, bkh_inl, bkh_inr, Nat.reduceEqDiff, ↓bnd_h, ↓lt_h, ↓ite_h, bh_some, lh_eq, ih_T, ih_F, ne_eq, not_false_eq_true, not_true_eq_false, eq_self, and_true, true_and, io_def, io_add, io_mul, io_sub, io_lt, io_le, io_eq, io_clamp, io_inbT, io_div, io_mod, io_m1, m1_io, m1_lt, m1_le, neg_1, gI_m1, e24]
        refine Wp.csh (fun c => fin) (fun c => ?_)
        have hw3 : ¬ xM X ≤ hi := by omega
        simp -dsimp (disch := first | assumption | omega) only [lit_0, lit_1, lit_2, lit_3, lit_4, lit_5, lit_6, lit_7, lit_8, lit_9, lit_10, lit_11, lit_12, lit_13, lit_14, lit_15, lit_16, lit_17, lit_18, lit_19, lit_20, lit_21, lit_22, lit_23, lit_24, lit_25, lit_26, lit_27, lit_28, lit_29, lit_30, lit_31, lit_32, lit_33, lit_34, lit_35, lit_36, lit_37, lit_38, lit_39, lit_40, lit_41, lit_42, lit_43, lit_44, lit_45, lit_46, lit_47, lit_48, lit_49, lit_50, lit_51, lit_52, lit_53, lit_54, lit_55, lit_56, lit_57, lit_58, lit_59, lit_60, lit_61, lit_62, lit_63, lit_64, lit_97, lit_99, lit_100, lit_122, lit_175, lit_176, lit_200, lit_255, lit_400, lit_700, lit_800, lit_999, lit_1000, lit_1400, lit_2000, lit_2033, lit_2038, lit_2100, lit_2124, lit_8000, lit_10000, lit_12345, lit_32767, lit_1000000, lit_1000000000, ↓bndX_h, ↓bndK_h, bxh_inl, bxh_inr, bkh_inl, bkh_inr, Nat.reduceEqDiff, ↓bnd_h, ↓lt_h, ↓ite_h, bh_some, lh_eq, ih_T, ih_F, ne_eq, not_false_eq_true, not_true_eq_false, eq_self, and_true, true_and, io_def, io_add, io_mul, io_sub, io_lt, io_le, io_eq, io_clamp, io_inbT, io_div, io_mod, io_m1, m1_io, m1_lt, m1_le, neg_1, gI_m1, e24, hw3]
        exact fin
  · refine ⟨lo, .inl (1, xS X), Nat.le_refl _, hl, ⟨by show 1 ≤ 1; omega, by show 1 ≤ 4; omega, hsn⟩, fun M hM => ?_, fun N hN => ?_⟩
    · have t7 := hM.2.2.1.2.2.1
      unfold zX6_numberFrom
      simp -dsimp (disch := first | assumption | omega) only [lit_0, lit_1, lit_2, lit_3, lit_4, lit_5, lit_6, lit_7, lit_8, lit_9, lit_10, lit_11, lit_12, lit_13, lit_14, lit_15, lit_16, lit_17, lit_18, lit_19, lit_20, lit_21, lit_22, lit_23, lit_24, lit_25, lit_26, lit_27, lit_28, lit_29, lit_30, lit_31, lit_32, lit_33, lit_34, lit_35, lit_36, lit_37, lit_38, lit_39, lit_40, lit_41, lit_42, lit_43, lit_44, lit_45, lit_46, lit_47, lit_48, lit_49, lit_50, lit_51, lit_52, lit_53, lit_54, lit_55, lit_56, lit_57, lit_58, lit_59, lit_60, lit_61, lit_62, lit_63, lit_64, lit_97, lit_99, lit_100, lit_122, lit_175, lit_176, lit_200, lit_255, lit_400, lit_700, lit_800, lit_999, lit_1000, lit_1400, lit_2000, lit_2033, lit_2038, lit_2100, lit_2124, lit_8000, lit_10000, lit_12345, lit_32767, lit_1000000, lit_1000000000, ↓bndX_h, ↓bndK_h, bxh_inl, bxh_inr, bkh_inl, bkh_inr, Nat.reduceEqDiff, ↓bnd_h, ↓lt_h, ↓ite_h, bh_some, lh_eq, ih_T, ih_F, ne_eq, not_false_eq_true, not_true_eq_false, eq_self, and_true, true_and, io_def, io_add, io_mul, io_sub, io_lt, io_le, io_eq, io_clamp, io_inbT, io_div, io_mod, io_m1, m1_io, m1_lt, m1_le, neg_1, gI_m1, K0_2, t7, k2]
      refine Wp.seqh (hcF 1 M hM) (fun v M' h => ?_)
      obtain ⟨⟨rfl, h1⟩, h2⟩ := h
      simp -dsimp (disch := first | assumption | omega) only [lit_0, lit_1, lit_2, lit_3, lit_4, lit_5, lit_6, lit_7, lit_8, lit_9, lit_10, lit_11, lit_12, lit_13, lit_14, lit_15, lit_16, lit_17, lit_18, lit_19, lit_20, lit_21, lit_22, lit_23, lit_24, lit_25, lit_26, lit_27, lit_28, lit_29, lit_30, lit_31, lit_32, lit_33, lit_34, lit_35, lit_36, lit_37, lit_38, lit_39, lit_40, lit_41, lit_42, lit_43, lit_44, lit_45, lit_46, lit_47, lit_48, lit_49, lit_50, lit_51, lit_52, lit_53, lit_54, lit_55, lit_56, lit_57, lit_58, lit_59, lit_60, lit_61, lit_62, lit_63, lit_64, lit_97, lit_99, lit_100, lit_122, lit_175, lit_176, lit_200, lit_255, lit_400, lit_700, lit_800, lit_999, lit_1000, lit_1400, lit_2000, lit_2033, lit_2038, lit_2100, lit_2124, lit_8000, lit_10000, lit_12345, lit_32767, lit_1000000, lit_1000000000, ↓bndX_h, ↓bndK_h, bxh_inl, bxh_inr, bkh_inl, bkh_inr, Nat.reduceEqDiff, ↓bnd_h, ↓lt_h, ↓ite_h, bh_some, lh_eq, ih_T, ih_F, ne_eq, not_false_eq_true, not_true_eq_false, eq_self, and_true, true_and, io_def, true_or]
      exact Wp.ret ⟨⟨rfl, h1⟩, h2⟩
    · have e27 := hN.2.1
      have e23 := hN.2.2.1.2.2.2.1
      have r2 : ¬ rkS (xK X) = 2 := by rw [rkS_2]; exact k2
      unfold zX12_readNumber zX12_readNumber_B59
      simp -dsimp (disch := first | assumption | omega) only [lit_0, lit_1, lit_2, lit_3, lit_4, lit_5, lit_6, lit_7, lit_8, lit_9, lit_10, lit_11, lit_12, lit_13, lit_14, lit_15, lit_16, lit_17, lit_18, lit_19, lit_20, lit_21, lit_22, lit_23, lit_24, lit_25, lit_26, lit_27, lit_28, lit_29, lit_30, lit_31, lit_32, lit_33, lit_34, lit_35, lit_36, lit_37, lit_38, lit_39, lit_40, lit_41, lit_42, lit_43, lit_44, lit_45, lit_46, lit_47, lit_48, lit_49, lit_50, lit_51, lit_52, lit_53, lit_54, lit_55, lit_56, lit_57, lit_58, lit_59, lit_60, lit_61, lit_62, lit_63, lit_64, lit_97, lit_99, lit_100, lit_122, lit_175, lit_176, lit_200, lit_255, lit_400, lit_700, lit_800, lit_999, lit_1000, lit_1400, lit_2000, lit_2033, lit_2038, lit_2100, lit_2124, lit_8000, lit_10000, lit_12345, lit_32767, lit_1000000, lit_1000000000, ↓bndX_h, ↓bndK_h, bxh_inl, bxh_inr, bkh_inl, bkh_inr, Nat.reduceEqDiff, ↓bnd_h, ↓lt_h, ↓ite_h, bh_some, lh_eq, ih_T, ih_F, ne_eq, not_false_eq_true, not_true_eq_false, eq_self, and_true, true_and, io_def, io_add, io_mul, io_sub, io_lt, io_le, io_eq, io_clamp, io_inbT, io_div, io_mod, io_m1, m1_io, m1_lt, m1_le, neg_1, gI_m1, K0_72, e27, e23, r2]
      refine Wp.seqh (m_wrongX hN) (fun _ N1 ⟨i1, i2⟩ => ?_)
      have hbn := (bad_of (by omega) (by omega) i1).ne
      simp -dsimp (disch := first | assumption | omega) only [lit_0, lit_1, lit_2, lit_3, lit_4, lit_5, lit_6, lit_7, lit_8, lit_9, lit_10, lit_11, lit_12, lit_13, lit_14, lit_15, lit_16, lit_17, lit_18, lit_19, lit_20, lit_21, lit_22, lit_23, lit_24, lit_25, lit_26, lit_27, lit_28, lit_29, lit_30, lit_31, lit_32, lit_33, lit_34, lit_35, lit_36, lit_37, lit_38, lit_39, lit_40, lit_41, lit_42, lit_43, lit_44, lit_45, lit_46, lit_47, lit_48, lit_49, lit_50, lit_51, lit_52, lit_53, lit_54, lit_55, lit_56, lit_57, lit_58, lit_59, lit_60, lit_61, lit_62, lit_63, lit_64, lit_97, lit_99, lit_100, lit_122, lit_175, lit_176, lit_200, lit_255, lit_400, lit_700, lit_800, lit_999, lit_1000, lit_1400, lit_2000, lit_2033, lit_2038, lit_2100, lit_2124, lit_8000, lit_10000, lit_12345, lit_32767, lit_1000000, lit_1000000000, ↓bndX_h, ↓bndK_h, bxh_inl, bxh_inr, bkh_inl, bkh_inr, Nat.reduceEqDiff, ↓bnd_h, ↓lt_h, ↓ite_h, bh_some, lh_eq, ih_T, ih_F, ne_eq, not_false_eq_true, not_true_eq_false, eq_self, and_true, true_and, io_def, hbn]
      exact Wp.ret ⟨i1, i2, fun ⟨_, z⟩ => by cases z⟩
/-! ===== LEVEL 2: gate: clauses, what is being built ===== -/
abbrev ZV : Type := XV × GV × SV × Nat
def zX (Z : ZV) : XV := Z.1
def zV (Z : ZV) : GV := Z.2.1
def zS (Z : ZV) : SV := Z.2.2.1
def zT (Z : ZV) : Nat := Z.2.2.2
def fD : List Nat := [2, 5, 6, 7, 8, 9, 10, 11]
def FrD (r : Nat) (M M' : Mem) : Prop := (∀ o k, (o ≠ 2 ∨ k ∉ fD) → (o < r ∨ r + 6 < o ∨ (o = r + 4 ∧ k = 0)) → mI M' o k = mI M o k) ∧ (∀ o k, mR M' o k = mR M o k) ∧ ∀ o k, mL M' o k = mL M o k
def FrN (N N' : Mem) : Prop := (∀ o k, (o ≠ 72 ∨ k ∉ fM) → (o ≠ 82 ∨ k < 1400) → (o ≠ 75 ∨ k ≠ 2) → (o ≠ 76 ∨ k < 14 ∨ 20 < k) → (o < 77 ∨ 81 < o ∨ k < 16 ∨ 23 < k) → mI N' o k = mI N o k) ∧ (∀ o k, mR N' o k = mR N o k) ∧ ∀ o k, mL N' o k = mL N o k
theorem FrD.refl {r : Nat} {M : Mem} : FrD r M M := ⟨fun _ _ _ _ => rfl, fun _ _ => rfl, fun _ _ => rfl⟩
theorem FrN.refl {N : Mem} : FrN N N := ⟨fun _ _ _ _ _ _ _ => rfl, fun _ _ => rfl, fun _ _ => rfl⟩
theorem FrD.trans {r : Nat} {M M1 M2 : Mem} (h : FrD r M M1) (h' : FrD r M1 M2) : FrD r M M2 :=
  ⟨fun o k a b => (h'.1 o k a b).trans (h.1 o k a b), fun o k => (h'.2.1 o k).trans (h.2.1 o k), fun o k => (h'.2.2 o k).trans (h.2.2 o k)⟩
theorem FrN.trans {M M1 M2 : Mem} (h : FrN M M1) (h' : FrN M1 M2) : FrN M M2 :=
  ⟨fun o k a b c d e => (h'.1 o k a b c d e).trans (h.1 o k a b c d e), fun o k => (h'.2.1 o k).trans (h.2.1 o k), fun o k => (h'.2.2 o k).trans (h.2.2 o k)⟩
theorem FrC.D {r : Nat} {M M' : Mem} (h : FrC r M M') : FrD r M M' :=
  ⟨fun o k a b => h.1 o k (a.elim Or.inl (fun q => Or.inr (fun z => q (by simp only [fC, fD, List.mem_cons, List.not_mem_nil, or_false] at z ⊢; omega)))) (Or.inl (by omega)) (by omega), h.2.1, h.2.2⟩
theorem FrM.N {N N' : Mem} (h : FrM N N') : FrN N N' := ⟨fun o k a b _ _ _ => h.1 o k a b, h.2.1, h.2.2⟩
/-- where the built things lie -/
def ownC (r o k : Nat) : Prop := (o = r ∧ k ≤ 4) ∨ (r + 1 ≤ o ∧ o ≤ r + 3) ∨ (o = r + 4 ∧ 1 ≤ k) ∨ o = r + 6
def ownM (o k : Nat) : Prop := (o = 75 ∧ k = 2) ∨ (o = 76 ∧ 14 ≤ k ∧ k ≤ 20) ∨ (77 ≤ o ∧ o ≤ 81 ∧ 16 ≤ k ∧ k ≤ 23)
theorem FrD.put {r o k : Nat} {M M' : Mem} {x : Int32} (h : FrD r M M') (ho : ownC r o k) : FrD r M (sI M' o k x) :=
  ⟨fun p j a b => by rw [mI_diff (by unfold ownC at ho; omega)]; exact h.1 p j a b, h.2.1, h.2.2⟩
theorem FrN.put {o k : Nat} {N N' : Mem} {x : Int32} (h : FrN N N') (ho : ownM o k) : FrN N (sI N' o k x) :=
  ⟨fun p j a b c d e => by rw [mI_diff (by unfold ownM at ho; omega)]; exact h.1 p j a b c d e, h.2.1, h.2.2⟩
theorem CX.put {P : Nat → Nat} {n r o k : Nat} {M : Mem} {x : Int32} {X : XV} (hr : isRu r) (h : CX M P n r X) (ho : ownC r o k) : CX (sI M o k x) P n r X := by
  obtain ⟨c1, c2, ⟨u1, u2, u3, u4⟩, c4, c5, c6, c7⟩ := h
  have h3 : o ≠ 2 ∧ o ≠ 3 ∧ o ≠ r + 5 := by unfold ownC at ho; rcases hr with rfl | rfl | rfl <;> omega
  have h4 : o ≠ r ∨ k ≤ 4 := by unfold ownC at ho; omega
  exact ⟨⟨c1.1, (mI_diff (Or.inl (by omega))).trans c1.2.1, fun k hk => (mI_diff (Or.inl (by omega))).trans (c1.2.2 k hk)⟩, c2, ⟨(mI_diff (Or.inl (by omega))).trans u1, (mI_diff (Or.inl (by omega))).trans u2, (mI_diff (Or.inl (by omega))).trans u3, fun z => (mI_diff (Or.inl (by omega))).trans (u4 z)⟩, (mI_diff (by omega)).trans c4, (mI_diff (by omega)).trans c5, fun i hi => (mI_diff (Or.inl (by omega))).trans (c6 i hi), (mI_diff (Or.inl (by omega))).trans c7⟩
theorem MX.put {P : Nat → Nat} {n o k : Nat} {N : Mem} {x : Int32} {X : XV} (h : MX N P n X) (ho : ownM o k) : MX (sI N o k x) P n X := by
  obtain ⟨c1, c2, ⟨u1, u2, u3, u4, u5⟩, c4, c5⟩ := h
  have h3 : 75 ≤ o ∧ o ≤ 81 := by unfold ownM at ho; omega
  exact ⟨⟨c1.1, (mI_diff (Or.inl (by omega))).trans c1.2.1, fun k hk => (mI_diff (Or.inl (by omega))).trans (c1.2.2 k hk)⟩, (mI_diff (Or.inl (by omega))).trans c2, ⟨(mI_diff (Or.inl (by omega))).trans u1, (mI_diff (Or.inl (by omega))).trans u2, (mI_diff (Or.inl (by omega))).trans u3, (mI_diff (Or.inl (by omega))).trans u4, fun z1 z2 => (mI_diff (Or.inl (by omega))).trans (u5 z1 z2)⟩, (mI_diff (Or.inl (by omega))).trans c4, fun i hi => (mI_diff (Or.inl (by omega))).trans (c5 i hi)⟩
theorem bad.put {o k : Nat} {N : Mem} {x : Int32} (h : bad N) (ho : ownM o k) : bad (sI N o k x) := by
  obtain ⟨j, h1, h2, h3⟩ := h
  exact ⟨j, h1, h2, (mI_diff (Or.inl (by unfold ownM at ho; omega))).trans h3⟩
/-- what the class holds of it, the token aside; L: the code's length when the last sort was closed -/
def BC (M : Mem) (r : Nat) (v : GV) (s : SV) (T L : Nat) : Prop := mI M r 0 = io (gN v) ∧ mI M r 1 = io (allO v) ∧ mI M r 2 = io (gSi v) ∧ mI M r 3 = io (gCh v) ∧ mI M r 4 = io (gBo v)
  ∧ (∀ s, s < gN v → mI M (r + 1) s = io (gOd v s) ∧ mI M (r + 2) s = io (gWo v s) ∧ mI M (r + 3) s = io (gPu v s) ∧ mI M (r + 4) s = io (gB v s) ∧ mI M (r + 4) (s + 1) = io (gE v s))
  ∧ mI M (r + 4) (gN v) = io L ∧ CS M (r + 6) s ∧ mI M 2 10 = io T
def BM (N : Mem) (v : GV) (s : SV) : Prop := mI N 75 2 = io (gN v) ∧ mI N 76 14 = io (gSi v) ∧ mI N 76 19 = io (gCh v) ∧ mI N 76 20 = io (gBo v)
  ∧ (∀ s, s < gN v → mI N 77 (16 + s) = io (gOd v s) ∧ mI N 78 (16 + s) = io (gWo v s) ∧ mI N 79 (16 + s) = io (gPu v s) ∧ mI N 80 (16 + s) = io (gB v s) ∧ mI N 81 (16 + s) = io (gE v s))
  ∧ MS N 2 s
theorem BC.keep {M M' : Mem} {r T L : Nat} {v : GV} {s : SV} (hr : isRu r) (h : BC M r v s T L) (hF : FrC r M M') : BC M' r v s T L := by
  have h3 : r ≠ 2 := by rcases hr with rfl | rfl | rfl <;> omega
  have e0 : ∀ k, k ≠ 5 → k ≠ 6 → mI M' r k = mI M r k := fun k h5 h6 => hF.1 _ _ (Or.inl (by omega)) (Or.inr ⟨h5, h6⟩) (by omega)
  have e1 : ∀ j k, 1 ≤ j → j ≠ 5 → mI M' (r + j) k = mI M (r + j) k := fun j k h1 h2 => hF.1 _ _ (Or.inl (by rcases hr with rfl | rfl | rfl <;> omega)) (Or.inl (by omega)) (by omega)
  have e2 : mI M' 2 10 = mI M 2 10 := hF.1 _ _ (Or.inr (by simp [fC])) (Or.inl (by omega)) (by rcases hr with rfl | rfl | rfl <;> omega)
  obtain ⟨h1, h2, h3, h4, h5, h6, h7, ⟨s0, s1, s2, s3⟩, h9⟩ := h
  refine ⟨(e0 _ (by omega) (by omega)).trans h1, (e0 _ (by omega) (by omega)).trans h2, (e0 _ (by omega) (by omega)).trans h3, (e0 _ (by omega) (by omega)).trans h4, (e0 _ (by omega) (by omega)).trans h5, fun s hs => ?_, (e1 _ _ (by omega) (by omega)).trans h7, ⟨(e1 _ _ (by omega) (by omega)).trans s0, (e1 _ _ (by omega) (by omega)).trans s1, (e1 _ _ (by omega) (by omega)).trans s2, (e1 _ _ (by omega) (by omega)).trans s3⟩, e2.trans h9⟩
  obtain ⟨a1, a2, a3, a4, a5⟩ := h6 s hs
  exact ⟨(e1 _ _ (by omega) (by omega)).trans a1, (e1 _ _ (by omega) (by omega)).trans a2, (e1 _ _ (by omega) (by omega)).trans a3, (e1 _ _ (by omega) (by omega)).trans a4, (e1 _ _ (by omega) (by omega)).trans a5⟩
theorem BM.keep {N N' : Mem} {v : GV} {s : SV} (h : BM N v s) (hF : FrM N N') : BM N' v s := by
  have e1 : ∀ o k, 75 ≤ o → o ≤ 81 → mI N' o k = mI N o k := fun o k h1 h2 => hF.1 _ _ (Or.inl (by omega)) (Or.inl (by omega))
  obtain ⟨h1, h2, h3, h4, h5, ⟨s0, s1, s2, s3⟩⟩ := h
  refine ⟨(e1 _ _ (by omega) (by omega)).trans h1, (e1 _ _ (by omega) (by omega)).trans h2, (e1 _ _ (by omega) (by omega)).trans h3, (e1 _ _ (by omega) (by omega)).trans h4, fun s hs => ?_, ⟨(e1 _ _ (by omega) (by omega)).trans s0, (e1 _ _ (by omega) (by omega)).trans s1, (e1 _ _ (by omega) (by omega)).trans s2, (e1 _ _ (by omega) (by omega)).trans s3⟩⟩
  obtain ⟨a1, a2, a3, a4, a5⟩ := h5 s hs
  exact ⟨(e1 _ _ (by omega) (by omega)).trans a1, (e1 _ _ (by omega) (by omega)).trans a2, (e1 _ _ (by omega) (by omega)).trans a3, (e1 _ _ (by omega) (by omega)).trans a4, (e1 _ _ (by omega) (by omega)).trans a5⟩
def ZC (M : Mem) (P : Nat → Nat) (n r : Nat) (Z : ZV) : Prop := CX M P n r (zX Z) ∧ BC M r (zV Z) (zS Z) (zT Z) (xL (zX Z))
def ZM (N : Mem) (P : Nat → Nat) (n : Nat) (Z : ZV) : Prop := MX N P n (zX Z) ∧ BM N (zV Z) (zS Z)
def okZ (P : Nat → Nat) (n : Nat) (Z : ZV) : Prop := VX P n (zX Z) ∧ gN (zV Z) ≤ 8 ∧ gSi (zV Z) ≤ 2 ∧ gCh (zV Z) ≤ 100 ∧ 1 ≤ gBo (zV Z) ∧ gBo (zV Z) ≤ 999 ∧ okS (zS Z) ∧ zT Z < 64
  ∧ ∀ s, s < gN (zV Z) → 1 ≤ gOd (zV Z) s ∧ gOd (zV Z) s ≤ 99 ∧ gWo (zV Z) s ≤ 99 ∧ gPu (zV Z) s ≤ 9 ∧ gB (zV Z) s ≤ gE (zV Z) s ∧ gE (zV Z) s ≤ xL (zX Z) ∧ hgR (xC (zX Z)) (gB (zV Z) s) (gE (zV Z) s - gB (zV Z) s) 0 = some 1
def GdZ (P : Nat → Nat) (n : Nat) (X : XV) (o : (Nat × Nat) ⊕ ZV) : Prop := match o with
  | .inl q => 1 ≤ q.1 ∧ q.1 ≤ 4 ∧ q.2 ≤ n
  | .inr Z => okZ P n Z ∧ xS X < xS (zX Z)
def QC (P : Nat → Nat) (n r : Nat) (o : (Nat × Nat) ⊕ ZV) (M0 : Mem) (x : Int32) (M : Mem) : Prop := (match o with
  | .inl q => x = io 0 ∧ BdC M q.1 q.2
  | .inr Z => x = io 1 ∧ ZC M P n r Z) ∧ FrD r M0 M
def QM (P : Nat → Nat) (n : Nat) (o : (Nat × Nat) ⊕ ZV) (N0 : Mem) (N : Mem) : Prop := (match o with
  | .inl q => BdM N q.1 q.2
  | .inr Z => ZM N P n Z) ∧ FrN N0 N
/-- the class goes on only without a fault -/
def ifS (Q : Int32 → Mem → Prop) (K : Mem → Prop) (x : Int32) (M : Mem) : Prop := (x = io 0 ∧ Q (io 0) M) ∨ (x = io 1 ∧ K M)
theorem stage_step {α : Type} {P : Nat → Nat} {n r : Nat} {X : XV} {Gd : ((Nat × Nat) ⊕ ZV) → Prop} {F : Mem → Option (Int32 × Mem)} {G : Mem → Option (α × Mem)} {o1 : (Nat × Nat) ⊕ XV} {ec : Mem → Prop} {em : α → Prop} {kc1 : (Int32 → Mem → Prop) → Mem → Prop} {km1 : α → (Mem → Prop) → Mem → Prop} {Cp Mp : Mem → Prop} {Cp1 : XV → Mem → Prop} {Mp1 : XV → α → Mem → Prop}
    (hg : ∀ q, o1 = .inl q → Gd (.inl q) ∧ 1 ≤ q.1 ∧ q.1 ≤ 4)
    (hF : ∀ M, CX M P n r X → Wp (F M) (fun x M' => oC P n r o1 x M' ∧ FrC r M M' ∧ (x = io 1 → ec M')))
    (hG : ∀ N, MX N P n X → Wp (G N) (fun y N' => oM P n o1 N' ∧ FrM N N' ∧ ((∃ Y, o1 = .inr Y) → em y)))
    (hCp : ∀ M, Cp M → CX M P n r X) (hMp : ∀ N, Mp N → MX N P n X)
    (hnext : ∀ Y, o1 = .inr Y → ∃ o, Gd o ∧ (∀ M0 M, FrD r M0 M → Cp1 Y M → kc1 (QC P n r o M0) M) ∧ ∀ y N0 N, FrN N0 N → Mp1 Y y N → km1 y (QM P n o N0) N)
    (hC1 : ∀ Y M M', o1 = .inr Y → Cp M → CX M' P n r Y → FrC r M M' → ec M' → Cp1 Y M')
    (hM1 : ∀ Y y N N', o1 = .inr Y → Mp N → MX N' P n Y → FrM N N' → em y → Mp1 Y y N')
    (hbad : ∀ y N N' (Q : Mem → Prop), Mp N → FrM N N' → bad N' → (∀ N'', mI N'' 72 27 = mI N' 72 27 → mI N'' 72 28 = mI N' 72 28 → FrN N' N'' → Q N'') → km1 y Q N') :
    ∃ o, Gd o ∧ (∀ M0 M, FrD r M0 M → Cp M → Wp (F M) (ifS (QC P n r o M0) (kc1 (QC P n r o M0)))) ∧ ∀ N0 N, FrN N0 N → Mp N → Wp (G N) (fun y N' => km1 y (QM P n o N0) N') := by
  cases o1 with
  | inl q =>
    obtain ⟨g1, g2, g3⟩ := hg q rfl
    refine ⟨.inl q, g1, fun M0 M hFr hM => (hF M (hCp M hM)).mono (fun x M' ⟨a1, a2, _⟩ => Or.inl ⟨a1.1, ⟨rfl, a1.2⟩, hFr.trans a2.D⟩), fun N0 N hFr hN => (hG N (hMp N hN)).mono (fun y N' ⟨a1, a2, _⟩ => ?_)⟩
    exact hbad y N N' _ hN a2 (bad_of g2 g3 a1) (fun N'' e1 e2 e3 => ⟨⟨e1.trans a1.1, e2.trans a1.2⟩, hFr.trans (a2.N.trans e3)⟩)
  | inr Y =>
    obtain ⟨o, g1, g2, g3⟩ := hnext Y rfl
    refine ⟨o, g1, fun M0 M hFr hM => (hF M (hCp M hM)).mono (fun x M' ⟨a1, a2, a3⟩ => Or.inr ⟨a1.1, g2 M0 M' (hFr.trans a2.D) (hC1 Y M M' rfl hM a1.2 a2 (a3 a1.1))⟩), fun N0 N hFr hN => (hG N (hMp N hN)).mono (fun y N' ⟨a1, a2, a3⟩ => g3 y N0 N' (hFr.trans a2.N) (hM1 Y y N N' rfl hN a1 a2 (a3 ⟨Y, rfl⟩)))⟩
