/-! ===== LEVEL 2: near: the operation ===== -/
def nrV (V : VV) (n k : Nat) : Nat := nwS (gN (vG V 0)) (gOd (vG V 0)) (allO (vG V 0)) (ndS (vG V 0) (vS V 0) (vG V 1) (vS V 1)) (if k = 0 then nwF (vG V 0) (vS V 0) else if k = 1 then nwG (vG V 0) (vS V 0) (vG V 1) (vS V 1) else nwA (vG V 0) (vS V 0) (vG V 1) (vS V 1)) (bSe (vB V 0) * 100 + bSe (vB V 1)) n
theorem near_c {M : Mem} {R : Nat → Nat} {V : VV} {n k : Nat} (hV : okV V) (hIp : ICp M R V) (hIs : ICs M) (hn : n ≤ 60) (hk : k ≤ 2) :
    Wp (zX11_near 1 (io n) (io k) M) (fun x M1 => x = .inl (io (nrV V n k / 1000000)) ∧ ICp M1 R V ∧ ICs M1 ∧ Fg [(1, 71)] [(1, 71)] M M1) := by
  have hP1 := hIp.1
  obtain ⟨hv0, hs0, hb0, -⟩ := hV.1 0 (by omega)
  obtain ⟨hv1, hs1, hb1, -⟩ := hV.1 1 (by omega)
  obtain ⟨hC0, hS0, hB0, -⟩ := hIp.2.2.1 0 (by omega)
  obtain ⟨hC1, hS1, hB1, -⟩ := hIp.2.2.1 1 (by omega)
  have hr0 := hIp.2.1.ru (g := 0) (by omega)
  have hr1 := hIp.2.1.ru (g := 1) (by omega)
  have hp0 := isSe_of hr0
  have hp1 := isSe_of hr1
  have hPR0 := hP1.PR hr0
  have hPR1 := hP1.PR hr1
  have r0 : mR M 11 0 = R 0 := hIp.2.1.1
  have hst0 := stN_le (gSi (vG V 0))
  have hst1 := stN_le (gSi (vG V 1))
  have hsd0 := hb0.1
  have hsd1 := hb1.1
  have hc0 : okC (vG V 0) (vG V 1) (bSe (vB V 0) * 100 + bSe (vB V 1)) := by
    unfold okC
    constructor <;> omega
  have hcl : bSe (vB V 0) * 100 + bSe (vB V 1) < 10000 := by omega
  have hbnd : nrV V n k ≤ n * 9000000000 := by
    rcases Nat.eq_zero_or_pos (gN (vG V 0)) with h | h
    · unfold nrV
      rw [nw_none h]
      exact Nat.zero_le _
    · exact nwS_le (OK := okC (vG V 0) (vG V 1)) rfl (allO_pos hv0 h) hc0 (fun c s hc hs => nd_ok hv0 hv1 hc hs) (fun c s hc hs => by
        have := nw_le (sv0 := vS V 0) (sv1 := vS V 1) (c := c) hv0 hv1 hs
        split
        · exact this.1
        · split
          · exact this.2.1
          · exact this.2.2) n
  unfold zX11_near zX11_near_B114
  simp -dsimp (disch := first | assumption | omega) only [lit_0, lit_1, lit_2, lit_3, lit_4, lit_5, lit_6, lit_7, lit_8, lit_9, lit_10, lit_11, lit_12, lit_13, lit_14, lit_15, lit_16, lit_17, lit_18, lit_19, lit_20, lit_21, lit_22, lit_23, lit_24, lit_25, lit_26, lit_27, lit_28, lit_29, lit_30, lit_31, lit_32, lit_33, lit_34, lit_35, lit_36, lit_37, lit_38, lit_39, lit_40, lit_41, lit_42, lit_43, lit_44, lit_45, lit_46, lit_47, lit_48, lit_49, lit_50, lit_51, lit_52, lit_53, lit_54, lit_55, lit_56, lit_57, lit_58, lit_59, lit_60, lit_61, lit_62, lit_63, lit_64, lit_97, lit_99, lit_100, lit_122, lit_175, lit_176, lit_200, lit_255, lit_400, lit_700, lit_800, lit_999, lit_1000, lit_1400, lit_2000, lit_2033, lit_2038, lit_2100, lit_2124, lit_8000, lit_10000, lit_12345, lit_32767, lit_1000000, lit_1000000000, ↓bndX_h, ↓bndK_h, bxh_inl, bxh_inr, bkh_inl, bkh_inr, Nat.reduceEqDiff, ↓bnd_h, ↓lt_h, ↓ite_h, bh_some, lh_eq, ih_T, ih_F, ne_eq, not_false_eq_true, not_true_eq_false, eq_self, and_true, true_and, io_def, io_add, io_mul, io_sub, io_lt, io_le, io_eq, io_clamp, io_inbT, io_div, io_mod, io_m1, m1_io, m1_lt, m1_le, neg_1, gI_m1, K0_r, K0_r1, K0_r2, K0_r3, K0_r4, K0_r5, K0_r6, ru_ne, PR.p7, PR.p8, PR.p9, PR.p10, PR.p11, PR.p12, at_r1, at_r2, at_r3, at_r4, at_r5, succ_ne, K0_1, c_ask_in, c_range_in, PC1.p1_7, PC1.p1_1, K0_11, r0, K0_41]
  refine Wp.seqh (c_gbegin hIp hIs hr0 hp0 hC0 hS0) (fun _ M1 ⟨a1, a2, a3, a4⟩ => ?_)
  have hP2 := a2.1
  have r1 : mR M1 25 0 = R 1 := a2.2.1.2.1
  obtain ⟨hC1', hS1', hB1', -⟩ := a2.2.2.1 1 (by omega)
  obtain ⟨-, -, hB0', -⟩ := a2.2.2.1 0 (by omega)
  have s0 : mI M1 19 0 = io (bSe (vB V 0)) := hB0'.1
  have s1 : mI M1 33 0 = io (bSe (vB V 1)) := hB1'.1
  have hPG : PG M1 59 := ⟨a3.1.p59_2, a3.1.p59_3, a3.1.p59_4⟩
  have hNK : ∃ cn ct, NK M1 cn ct ∧ (∃ cs, CaI M1 cn 10000 cs) ∧ ∃ ds, CaI M1 ct 10000 ds := by
    have w0 := a3.1.p52_0
    have w1 := a3.1.p52_1
    have p53 : PCa M1 53 := ⟨a3.1.p53_0, a3.1.p53_1⟩
    have p56 : PCa M1 56 := ⟨a3.1.p56_0, a3.1.p56_1⟩
    obtain ⟨-, -, b3, -, -, b6, b7⟩ := a3
    rcases b3 with ⟨e1, e2⟩ | ⟨e1, e2⟩
    · exact ⟨53, 56, ⟨w0, w1, e1, e2, p53, p56, Or.inl ⟨rfl, rfl⟩⟩, b6, b7⟩
    · exact ⟨56, 53, ⟨w0, w1, e1, e2, p56, p53, Or.inr ⟨rfl, rfl⟩⟩, b7, b6⟩
  obtain ⟨cn, ct, hNK, hcn, hct⟩ := hNK
  simp -dsimp (disch := first | assumption | omega) only [lit_0, lit_1, lit_2, lit_3, lit_4, lit_5, lit_6, lit_7, lit_8, lit_9, lit_10, lit_11, lit_12, lit_13, lit_14, lit_15, lit_16, lit_17, lit_18, lit_19, lit_20, lit_21, lit_22, lit_23, lit_24, lit_25, lit_26, lit_27, lit_28, lit_29, lit_30, lit_31, lit_32, lit_33, lit_34, lit_35, lit_36, lit_37, lit_38, lit_39, lit_40, lit_41, lit_42, lit_43, lit_44, lit_45, lit_46, lit_47, lit_48, lit_49, lit_50, lit_51, lit_52, lit_53, lit_54, lit_55, lit_56, lit_57, lit_58, lit_59, lit_60, lit_61, lit_62, lit_63, lit_64, lit_97, lit_99, lit_100, lit_122, lit_175, lit_176, lit_200, lit_255, lit_400, lit_700, lit_800, lit_999, lit_1000, lit_1400, lit_2000, lit_2033, lit_2038, lit_2100, lit_2124, lit_8000, lit_10000, lit_12345, lit_32767, lit_1000000, lit_1000000000, ↓bndX_h, ↓bndK_h, bxh_inl, bxh_inr, bkh_inl, bkh_inr, Nat.reduceEqDiff, ↓bnd_h, ↓lt_h, ↓ite_h, bh_some, lh_eq, ih_T, ih_F, ne_eq, not_false_eq_true, not_true_eq_false, eq_self, and_true, true_and, io_def, io_add, io_mul, io_sub, io_lt, io_le, io_eq, io_clamp, io_inbT, io_div, io_mod, io_m1, m1_io, m1_lt, m1_le, neg_1, gI_m1, K0_r, K0_r1, K0_r2, K0_r3, K0_r4, K0_r5, K0_r6, ru_ne, PR.p7, PR.p8, PR.p9, PR.p10, PR.p11, PR.p12, at_r1, at_r2, at_r3, at_r4, at_r5, succ_ne, PC1.p1_9, PC1.p1_2, PC1.p1_1, PC1.p11_1, PC1.p25_1, K0_25, K0_11, K0_19, K0_33, K0_52, r1, s0, s1]
  refine Wp.seqh (c_nbegin (v0 := vG V 0) (sv0 := vS V 0) (v1 := vG V 1) (sv1 := vS V 1) hr0 hp0 hr1 hp1 rfl hPG (hP2.PR hr1) hC1' hS1' a1 hNK hcn hct hcl) (fun _ M2 ⟨b1, b2⟩ => ?_)
  have p9 : mR M2 1 9 = 52 := (b2.R rfl).trans hP2.p1_9
  simp -dsimp (disch := first | assumption | omega) only [lit_0, lit_1, lit_2, lit_3, lit_4, lit_5, lit_6, lit_7, lit_8, lit_9, lit_10, lit_11, lit_12, lit_13, lit_14, lit_15, lit_16, lit_17, lit_18, lit_19, lit_20, lit_21, lit_22, lit_23, lit_24, lit_25, lit_26, lit_27, lit_28, lit_29, lit_30, lit_31, lit_32, lit_33, lit_34, lit_35, lit_36, lit_37, lit_38, lit_39, lit_40, lit_41, lit_42, lit_43, lit_44, lit_45, lit_46, lit_47, lit_48, lit_49, lit_50, lit_51, lit_52, lit_53, lit_54, lit_55, lit_56, lit_57, lit_58, lit_59, lit_60, lit_61, lit_62, lit_63, lit_64, lit_97, lit_99, lit_100, lit_122, lit_175, lit_176, lit_200, lit_255, lit_400, lit_700, lit_800, lit_999, lit_1000, lit_1400, lit_2000, lit_2033, lit_2038, lit_2100, lit_2124, lit_8000, lit_10000, lit_12345, lit_32767, lit_1000000, lit_1000000000, ↓bndX_h, ↓bndK_h, bxh_inl, bxh_inr, bkh_inl, bkh_inr, Nat.reduceEqDiff, ↓bnd_h, ↓lt_h, ↓ite_h, bh_some, lh_eq, ih_T, ih_F, ne_eq, not_false_eq_true, not_true_eq_false, eq_self, and_true, true_and, io_def, io_add, io_mul, io_sub, io_lt, io_le, io_eq, io_clamp, io_inbT, io_div, io_mod, io_m1, m1_io, m1_lt, m1_le, neg_1, gI_m1, p9, K0_52]
  refine Wp.seqh (c_ngo hr0 hp0 hr1 hp1 hv0 hs0 hv1 hs1 hn hc0 ⟨cn, ct, b1⟩) (fun _ M3 ⟨⟨cn', ct', cs', F', S', A', d0⟩, d1, d2, d3, d4⟩ => ?_)
  have p9' : mR M3 1 9 = 52 := (d4.R rfl).trans p9
  have hF : FS M1 M3 := (FS.of b2 (fun o ho => obN (by omega) (by omega)) (fun o ho => ob_1of (by omega))).trans (FS.of d4 (fun o ho => obN (by omega) (by omega)) (fun o ho => ob_1of (by omega)))
  have hIp3 := a2.FS hF
  have hIs3 : ICs M3 := by
    obtain ⟨-, hY, hNK3, hcn3, hct3, -⟩ := d0
    obtain ⟨w0, w1, w2, w3, w4, w5, w6⟩ := hNK3
    have hR : ∀ o k, o ≠ 52 → o ≠ 59 → mR M3 o k = mR M1 o k := fun o k h1 h2 => by rw [d4.R (ob_1of (by omega)), b2.R (ob_1of (by omega))]
    have hI : ∀ o k, 63 ≤ o → mI M3 o k = mI M1 o k := fun o k h => by rw [d4.I (obN (by omega) (by omega)), b2.I (obN (by omega) (by omega))]
    have hI2 : ∀ o k, 46 ≤ o → o ≤ 51 → mI M3 o k = mI M1 o k := fun o k h h' => by rw [d4.I (obN (by omega) (by omega)), b2.I (obN (by omega) (by omega))]
    refine ⟨fun t ht => ?_, ?_, ?_, ?_, ?_, ?_, ?_⟩
    · have hd : ∀ t ∈ PTc2, (t.1 ≠ 52 ∨ t.2.1 = 0 ∨ t.2.1 = 1) ∧ (t.1 ≠ 59 ∨ t.2.1 = 2 ∨ t.2.1 = 3 ∨ t.2.1 = 4) := by decide
      have h0 := a3.1 t ht
      obtain ⟨q1, q2⟩ := hd t ht
      by_cases z : t.1 = 52
      · rcases q1 with q | q | q
        · exact absurd z q
        · rw [z, q] at h0 ⊢
          rw [w0, ← h0, a3.1.p52_0]
        · rw [z, q] at h0 ⊢
          rw [w1, ← h0, a3.1.p52_1]
      · by_cases y : t.1 = 59
        · have hg := hY.1.1
          rcases q2 with q | q | q | q
          · exact absurd y q
          · rw [y, q] at h0 ⊢
            rw [hg.1, ← h0, a3.1.p59_2]
          · rw [y, q] at h0 ⊢
            rw [hg.2.1, ← h0, a3.1.p59_3]
          · rw [y, q] at h0 ⊢
            rw [hg.2.2, ← h0, a3.1.p59_4]
        · rw [hR _ _ z y]; exact h0
    · rw [hR _ _ (by omega) (by omega), hR _ _ (by omega) (by omega)]; exact a3.2.1
    · rw [w2, w3]; exact w6
    · obtain ⟨cs, h⟩ := a3.2.2.2.1
      exact ⟨cs, by simpa only [CaI, hI2 46 _ (by omega) (by omega), Nat.reduceAdd, hI2 47 _ (by omega) (by omega), hI2 48 _ (by omega) (by omega)] using h⟩
    · obtain ⟨cs, h⟩ := a3.2.2.2.2.1
      exact ⟨cs, by simpa only [CaI, hI2 49 _ (by omega) (by omega), Nat.reduceAdd, hI2 50 _ (by omega) (by omega), hI2 51 _ (by omega) (by omega)] using h⟩
    · rcases w6 with ⟨rfl, rfl⟩ | ⟨rfl, rfl⟩
      · exact ⟨_, hcn3⟩
      · exact hct3
    · rcases w6 with ⟨rfl, rfl⟩ | ⟨rfl, rfl⟩
      · exact hct3
      · exact ⟨_, hcn3⟩
  have hT := (a4.trans hF).top
  unfold nrV at hbnd ⊢
  simp -dsimp (disch := first | assumption | omega) only [lit_0, lit_1, lit_2, lit_3, lit_4, lit_5, lit_6, lit_7, lit_8, lit_9, lit_10, lit_11, lit_12, lit_13, lit_14, lit_15, lit_16, lit_17, lit_18, lit_19, lit_20, lit_21, lit_22, lit_23, lit_24, lit_25, lit_26, lit_27, lit_28, lit_29, lit_30, lit_31, lit_32, lit_33, lit_34, lit_35, lit_36, lit_37, lit_38, lit_39, lit_40, lit_41, lit_42, lit_43, lit_44, lit_45, lit_46, lit_47, lit_48, lit_49, lit_50, lit_51, lit_52, lit_53, lit_54, lit_55, lit_56, lit_57, lit_58, lit_59, lit_60, lit_61, lit_62, lit_63, lit_64, lit_97, lit_99, lit_100, lit_122, lit_175, lit_176, lit_200, lit_255, lit_400, lit_700, lit_800, lit_999, lit_1000, lit_1400, lit_2000, lit_2033, lit_2038, lit_2100, lit_2124, lit_8000, lit_10000, lit_12345, lit_32767, lit_1000000, lit_1000000000, ↓bndX_h, ↓bndK_h, bxh_inl, bxh_inr, bkh_inl, bkh_inr, Nat.reduceEqDiff, ↓bnd_h, ↓lt_h, ↓ite_h, bh_some, lh_eq, ih_T, ih_F, ne_eq, not_false_eq_true, not_true_eq_false, eq_self, and_true, true_and, io_def, io_add, io_mul, io_sub, io_lt, io_le, io_eq, io_clamp, io_inbT, io_div, io_mod, io_m1, m1_io, m1_lt, m1_le, neg_1, gI_m1]
  refine Wp.csh (fun q => ?_) (fun q => ?_)
  · rw [if_pos q] at hbnd ⊢
    simp -dsimp (disch := first | assumption | omega) only [lit_0, lit_1, lit_2, lit_3, lit_4, lit_5, lit_6, lit_7, lit_8, lit_9, lit_10, lit_11, lit_12, lit_13, lit_14, lit_15, lit_16, lit_17, lit_18, lit_19, lit_20, lit_21, lit_22, lit_23, lit_24, lit_25, lit_26, lit_27, lit_28, lit_29, lit_30, lit_31, lit_32, lit_33, lit_34, lit_35, lit_36, lit_37, lit_38, lit_39, lit_40, lit_41, lit_42, lit_43, lit_44, lit_45, lit_46, lit_47, lit_48, lit_49, lit_50, lit_51, lit_52, lit_53, lit_54, lit_55, lit_56, lit_57, lit_58, lit_59, lit_60, lit_61, lit_62, lit_63, lit_64, lit_97, lit_99, lit_100, lit_122, lit_175, lit_176, lit_200, lit_255, lit_400, lit_700, lit_800, lit_999, lit_1000, lit_1400, lit_2000, lit_2033, lit_2038, lit_2100, lit_2124, lit_8000, lit_10000, lit_12345, lit_32767, lit_1000000, lit_1000000000, ↓bndX_h, ↓bndK_h, bxh_inl, bxh_inr, bkh_inl, bkh_inr, Nat.reduceEqDiff, ↓bnd_h, ↓lt_h, ↓ite_h, bh_some, lh_eq, ih_T, ih_F, ne_eq, not_false_eq_true, not_true_eq_false, eq_self, and_true, true_and, io_def, io_add, io_mul, io_sub, io_lt, io_le, io_eq, io_clamp, io_inbT, io_div, io_mod, io_m1, m1_io, m1_lt, m1_le, neg_1, gI_m1, p9', K0_52, d1, lit64_m, lo_div, lo_io]
    exact Wp.ret ⟨rfl, hIp3, hIs3, hT⟩
  · rw [if_neg q] at hbnd ⊢
    simp -dsimp (disch := first | assumption | omega) only [lit_0, lit_1, lit_2, lit_3, lit_4, lit_5, lit_6, lit_7, lit_8, lit_9, lit_10, lit_11, lit_12, lit_13, lit_14, lit_15, lit_16, lit_17, lit_18, lit_19, lit_20, lit_21, lit_22, lit_23, lit_24, lit_25, lit_26, lit_27, lit_28, lit_29, lit_30, lit_31, lit_32, lit_33, lit_34, lit_35, lit_36, lit_37, lit_38, lit_39, lit_40, lit_41, lit_42, lit_43, lit_44, lit_45, lit_46, lit_47, lit_48, lit_49, lit_50, lit_51, lit_52, lit_53, lit_54, lit_55, lit_56, lit_57, lit_58, lit_59, lit_60, lit_61, lit_62, lit_63, lit_64, lit_97, lit_99, lit_100, lit_122, lit_175, lit_176, lit_200, lit_255, lit_400, lit_700, lit_800, lit_999, lit_1000, lit_1400, lit_2000, lit_2033, lit_2038, lit_2100, lit_2124, lit_8000, lit_10000, lit_12345, lit_32767, lit_1000000, lit_1000000000, ↓bndX_h, ↓bndK_h, bxh_inl, bxh_inr, bkh_inl, bkh_inr, Nat.reduceEqDiff, ↓bnd_h, ↓lt_h, ↓ite_h, bh_some, lh_eq, ih_T, ih_F, ne_eq, not_false_eq_true, not_true_eq_false, eq_self, and_true, true_and, io_def, io_add, io_mul, io_sub, io_lt, io_le, io_eq, io_clamp, io_inbT, io_div, io_mod, io_m1, m1_io, m1_lt, m1_le, neg_1, gI_m1]
    refine Wp.csh (fun q2 => ?_) (fun q2 => ?_)
    · rw [if_pos q2] at hbnd ⊢
      simp -dsimp (disch := first | assumption | omega) only [lit_0, lit_1, lit_2, lit_3, lit_4, lit_5, lit_6, lit_7, lit_8, lit_9, lit_10, lit_11, lit_12, lit_13, lit_14, lit_15, lit_16, lit_17, lit_18, lit_19, lit_20, lit_21, lit_22, lit_23, lit_24, lit_25, lit_26, lit_27, lit_28, lit_29, lit_30, lit_31, lit_32, lit_33, lit_34, lit_35, lit_36, lit_37, lit_38, lit_39, lit_40, lit_41, lit_42, lit_43, lit_44, lit_45, lit_46, lit_47, lit_48, lit_49, lit_50, lit_51, lit_52, lit_53, lit_54, lit_55, lit_56, lit_57, lit_58, lit_59, lit_60, lit_61, lit_62, lit_63, lit_64, lit_97, lit_99, lit_100, lit_122, lit_175, lit_176, lit_200, lit_255, lit_400, lit_700, lit_800, lit_999, lit_1000, lit_1400, lit_2000, lit_2033, lit_2038, lit_2100, lit_2124, lit_8000, lit_10000, lit_12345, lit_32767, lit_1000000, lit_1000000000, ↓bndX_h, ↓bndK_h, bxh_inl, bxh_inr, bkh_inl, bkh_inr, Nat.reduceEqDiff, ↓bnd_h, ↓lt_h, ↓ite_h, bh_some, lh_eq, ih_T, ih_F, ne_eq, not_false_eq_true, not_true_eq_false, eq_self, and_true, true_and, io_def, io_add, io_mul, io_sub, io_lt, io_le, io_eq, io_clamp, io_inbT, io_div, io_mod, io_m1, m1_io, m1_lt, m1_le, neg_1, gI_m1, p9', K0_52, d2, lit64_m, lo_div, lo_io]
      exact Wp.ret ⟨rfl, hIp3, hIs3, hT⟩
    · rw [if_neg q2] at hbnd ⊢
      simp -dsimp (disch := first | assumption | omega) only [lit_0, lit_1, lit_2, lit_3, lit_4, lit_5, lit_6, lit_7, lit_8, lit_9, lit_10, lit_11, lit_12, lit_13, lit_14, lit_15, lit_16, lit_17, lit_18, lit_19, lit_20, lit_21, lit_22, lit_23, lit_24, lit_25, lit_26, lit_27, lit_28, lit_29, lit_30, lit_31, lit_32, lit_33, lit_34, lit_35, lit_36, lit_37, lit_38, lit_39, lit_40, lit_41, lit_42, lit_43, lit_44, lit_45, lit_46, lit_47, lit_48, lit_49, lit_50, lit_51, lit_52, lit_53, lit_54, lit_55, lit_56, lit_57, lit_58, lit_59, lit_60, lit_61, lit_62, lit_63, lit_64, lit_97, lit_99, lit_100, lit_122, lit_175, lit_176, lit_200, lit_255, lit_400, lit_700, lit_800, lit_999, lit_1000, lit_1400, lit_2000, lit_2033, lit_2038, lit_2100, lit_2124, lit_8000, lit_10000, lit_12345, lit_32767, lit_1000000, lit_1000000000, ↓bndX_h, ↓bndK_h, bxh_inl, bxh_inr, bkh_inl, bkh_inr, Nat.reduceEqDiff, ↓bnd_h, ↓lt_h, ↓ite_h, bh_some, lh_eq, ih_T, ih_F, ne_eq, not_false_eq_true, not_true_eq_false, eq_self, and_true, true_and, io_def, io_add, io_mul, io_sub, io_lt, io_le, io_eq, io_clamp, io_inbT, io_div, io_mod, io_m1, m1_io, m1_lt, m1_le, neg_1, gI_m1, p9', K0_52, d3, lit64_m, lo_div, lo_io]
      exact Wp.ret ⟨rfl, hIp3, hIs3, hT⟩
theorem op_near (a b : Int32) : OpR 1 (zX11_near 1 a b) (zX12_near 72 a b) := by
  intro M R V hV hIp hIs
  have hP1 := hIp.1
  rcases rg_le b 2 (by omega) with ⟨k, hk, rfl⟩ | hb
  · rcases rg_le a 60 (by omega) with ⟨n, hn, rfl⟩ | ha
    · refine ⟨R, V, .inl (io (nrV V n k / 1000000)), hV, trivial, near_c hV hIp hIs hn hk, fun N hN => ?_⟩
      obtain ⟨hv0, hs0, hb0, -⟩ := hV.1 0 (by omega)
      obtain ⟨hv1, hs1, hb1, -⟩ := hV.1 1 (by omega)
      have hP := hN.1
      have hN0 := hN.code (x := io 0)
      have hM0 := hN0.MV (g := 0) (by omega)
      have hM1 := hN0.MV (g := 1) (by omega)
      have e75 : mI N 75 0 = io (gN (vG V 0)) := (hN.2.1 0 (by omega)).1.1
      have hn8 := okG_n hv0
      have hst0 := stN_le (gSi (vG V 0))
      have hst1 := stN_le (gSi (vG V 1))
      have h1p := stN_pos (gSi (vG V 1))
      have hsd0 := hb0.1
      have hsd1 := hb1.1
      have hok : ∀ {p : List (Nat × Nat)} {N' : Mem} {x y : Int32}, Fg p [] (sI N 72 2 (io 0)) N' → (∀ o, (o < 92 ∨ 102 < o) → ob p o = true) → y = x → agree (.inl x) y (mI N' 72 2) ∧ IM N' V ∧ Fg [(72, 110)] [] N N' := fun h1 h2 h3 => m_okF hN h1 h2 h3
      unfold zX12_near
      simp -dsimp (disch := first | assumption | omega) only [lit_0, lit_1, lit_2, lit_3, lit_4, lit_5, lit_6, lit_7, lit_8, lit_9, lit_10, lit_11, lit_12, lit_13, lit_14, lit_15, lit_16, lit_17, lit_18, lit_19, lit_20, lit_21, lit_22, lit_23, lit_24, lit_25, lit_26, lit_27, lit_28, lit_29, lit_30, lit_31, lit_32, lit_33, lit_34, lit_35, lit_36, lit_37, lit_38, lit_39, lit_40, lit_41, lit_42, lit_43, lit_44, lit_45, lit_46, lit_47, lit_48, lit_49, lit_50, lit_51, lit_52, lit_53, lit_54, lit_55, lit_56, lit_57, lit_58, lit_59, lit_60, lit_61, lit_62, lit_63, lit_64, lit_97, lit_99, lit_100, lit_122, lit_175, lit_176, lit_200, lit_255, lit_400, lit_700, lit_800, lit_999, lit_1000, lit_1400, lit_2000, lit_2033, lit_2038, lit_2100, lit_2124, lit_8000, lit_10000, lit_12345, lit_32767, lit_1000000, lit_1000000000, ↓bndX_h, ↓bndK_h, bxh_inl, bxh_inr, bkh_inl, bkh_inr, Nat.reduceEqDiff, ↓bnd_h, ↓lt_h, ↓ite_h, bh_some, lh_eq, ih_T, ih_F, ne_eq, not_false_eq_true, not_true_eq_false, eq_self, and_true, true_and, io_def, io_add, io_mul, io_sub, io_lt, io_le, io_eq, io_clamp, io_inbT, io_div, io_mod, io_m1, m1_io, m1_lt, m1_le, neg_1, gI_m1, PM.p0, PM.p1, PM.p3, PM.p4, PM.p5, PM.p6, PM.p7, PM.p8, PM.p9, PM.p10, PM.p11, PM.p12, PM.p13, PM.p14, PM.p15, PM.p16, PM.p17, PM.p18, PM.p19, PM.p31, PM.p32, PM.p33, PM.p34, PM.p38, PM.p39, PM.p40, PM.p41, PM.p42, PM.p46, PM.p47, PM.p50, PM.p51, PM.p52, PM.p53, PM.p54, PM.p55, PM.p56, PM.p57, K0_1, K0_2, K0_3, K0_4, K0_5, K0_6, K0_7, K0_8, K0_9, K0_10, K0_11, K0_12, K0_13, K0_14, K0_15, K0_16, K0_17, K0_18, K0_19, K0_20, K0_21, K0_22, K0_23, K0_24, K0_25, K0_26, K0_27, K0_28, K0_29, K0_30, K0_31, K0_32, K0_33, K0_34, K0_35, K0_36, K0_37, K0_38, K0_39, K0_40, K0_41, K0_42, K0_43, K0_44, K0_45, K0_46, K0_47, K0_48, K0_49, K0_50, K0_51, K0_52, K0_53, K0_54, K0_55, K0_56, K0_57, K0_58, K0_59, K0_60, K0_61, K0_62, K0_63, K0_64, K0_65, K0_66, K0_67, K0_68, K0_69, K0_70, K0_71, K0_72, K0_73, K0_74, K0_75, K0_76, K0_77, K0_78, K0_79, K0_80, K0_81, K0_82, K0_83, K0_84, K0_85, K0_86, K0_87, K0_88, K0_89, K0_90, K0_91, K0_92, K0_93, K0_94, K0_95, K0_96, K0_97, K0_98, K0_99, K0_100, K0_101, K0_102, K0_103, K0_104, K0_105, K0_106, K0_107, K0_108, K0_109, K0_110, K0_111, m_isGate_in, m_isGate_out, m_isIn_in, m_isIn_out, m_isInn_in, m_isInn_out, m_fail, false_and, and_false, if_false, if_true, and_self, mI_sI, mI_sL, mL_sI, mL_sL, mR_sI, mR_sL, hP, e75]
      refine Wp.csh (fun c => ?_) (fun c => ?_)
      · refine Wp.ret (hok (p := []) Fg.refl (fun _ _ => rfl) ?_)
        unfold nrV
        rw [nw_none c]
        rfl
      have hgp : 0 < gN (vG V 0) := by omega
      have hap := allO_pos hv0 hgp
      have hc0 : okC (vG V 0) (vG V 1) (bSe (vB V 0) * 100 + bSe (vB V 1)) := by
        unfold okC
        constructor <;> omega
      have hmany : stN (gSi (vG V 0)) * stN (gSi (vG V 1)) ≤ 10000 := Nat.mul_le_mul hst0 hst1
      have hqc : qC (stN (gSi (vG V 1))) (stN (gSi (vG V 1)) * bSe (vB V 0) + bSe (vB V 1)) = bSe (vB V 0) * 100 + bSe (vB V 1) := qC_mk hsd1
      simp -dsimp (disch := first | assumption | omega) only [lit_0, lit_1, lit_2, lit_3, lit_4, lit_5, lit_6, lit_7, lit_8, lit_9, lit_10, lit_11, lit_12, lit_13, lit_14, lit_15, lit_16, lit_17, lit_18, lit_19, lit_20, lit_21, lit_22, lit_23, lit_24, lit_25, lit_26, lit_27, lit_28, lit_29, lit_30, lit_31, lit_32, lit_33, lit_34, lit_35, lit_36, lit_37, lit_38, lit_39, lit_40, lit_41, lit_42, lit_43, lit_44, lit_45, lit_46, lit_47, lit_48, lit_49, lit_50, lit_51, lit_52, lit_53, lit_54, lit_55, lit_56, lit_57, lit_58, lit_59, lit_60, lit_61, lit_62, lit_63, lit_64, lit_97, lit_99, lit_100, lit_122, lit_175, lit_176, lit_200, lit_255, lit_400, lit_700, lit_800, lit_999, lit_1000, lit_1400, lit_2000, lit_2033, lit_2038, lit_2100, lit_2124, lit_8000, lit_10000, lit_12345, lit_32767, lit_1000000, lit_1000000000, ↓bndX_h, ↓bndK_h, bxh_inl, bxh_inr, bkh_inl, bkh_inr, Nat.reduceEqDiff, ↓bnd_h, ↓lt_h, ↓ite_h, bh_some, lh_eq, ih_T, ih_F, ne_eq, not_false_eq_true, not_true_eq_false, eq_self, and_true, true_and, io_def, io_add, io_mul, io_sub, io_lt, io_le, io_eq, io_clamp, io_inbT, io_div, io_mod, io_m1, m1_io, m1_lt, m1_le, neg_1, gI_m1, PM.p0, PM.p1, PM.p3, PM.p4, PM.p5, PM.p6, PM.p7, PM.p8, PM.p9, PM.p10, PM.p11, PM.p12, PM.p13, PM.p14, PM.p15, PM.p16, PM.p17, PM.p18, PM.p19, PM.p31, PM.p32, PM.p33, PM.p34, PM.p38, PM.p39, PM.p40, PM.p41, PM.p42, PM.p46, PM.p47, PM.p50, PM.p51, PM.p52, PM.p53, PM.p54, PM.p55, PM.p56, PM.p57, K0_1, K0_2, K0_3, K0_4, K0_5, K0_6, K0_7, K0_8, K0_9, K0_10, K0_11, K0_12, K0_13, K0_14, K0_15, K0_16, K0_17, K0_18, K0_19, K0_20, K0_21, K0_22, K0_23, K0_24, K0_25, K0_26, K0_27, K0_28, K0_29, K0_30, K0_31, K0_32, K0_33, K0_34, K0_35, K0_36, K0_37, K0_38, K0_39, K0_40, K0_41, K0_42, K0_43, K0_44, K0_45, K0_46, K0_47, K0_48, K0_49, K0_50, K0_51, K0_52, K0_53, K0_54, K0_55, K0_56, K0_57, K0_58, K0_59, K0_60, K0_61, K0_62, K0_63, K0_64, K0_65, K0_66, K0_67, K0_68, K0_69, K0_70, K0_71, K0_72, K0_73, K0_74, K0_75, K0_76, K0_77, K0_78, K0_79, K0_80, K0_81, K0_82, K0_83, K0_84, K0_85, K0_86, K0_87, K0_88, K0_89, K0_90, K0_91, K0_92, K0_93, K0_94, K0_95, K0_96, K0_97, K0_98, K0_99, K0_100, K0_101, K0_102, K0_103, K0_104, K0_105, K0_106, K0_107, K0_108, K0_109, K0_110, K0_111, m_isGate_in, m_isGate_out, m_isIn_in, m_isIn_out, m_isInn_in, m_isInn_out, m_fail, false_and, and_false, if_false, if_true, and_self, mI_sI, mI_sL, mL_sI, mL_sL, mR_sI, mR_sL]
      refine Wp.seqh (m_tell (g := 0) (by omega) hv0 hs0 hM0) (fun _ N1 ⟨a1, a2⟩ => ?_)
      have hM1' : MV N1 1 (vG V 1) (vS V 1) := hM1.F a2 (fun o h => by simp only [ob, Bool.and_true, Bool.and_eq_true, Bool.or_eq_true, decide_eq_true_eq]; omega)
      have hM0' : MV N1 0 (vG V 0) (vS V 0) := hM0.F a2 (fun o h => by simp only [ob, Bool.and_true, Bool.and_eq_true, Bool.or_eq_true, decide_eq_true_eq]; omega)
      simp -dsimp (disch := first | assumption | omega) only [lit_0, lit_1, lit_2, lit_3, lit_4, lit_5, lit_6, lit_7, lit_8, lit_9, lit_10, lit_11, lit_12, lit_13, lit_14, lit_15, lit_16, lit_17, lit_18, lit_19, lit_20, lit_21, lit_22, lit_23, lit_24, lit_25, lit_26, lit_27, lit_28, lit_29, lit_30, lit_31, lit_32, lit_33, lit_34, lit_35, lit_36, lit_37, lit_38, lit_39, lit_40, lit_41, lit_42, lit_43, lit_44, lit_45, lit_46, lit_47, lit_48, lit_49, lit_50, lit_51, lit_52, lit_53, lit_54, lit_55, lit_56, lit_57, lit_58, lit_59, lit_60, lit_61, lit_62, lit_63, lit_64, lit_97, lit_99, lit_100, lit_122, lit_175, lit_176, lit_200, lit_255, lit_400, lit_700, lit_800, lit_999, lit_1000, lit_1400, lit_2000, lit_2033, lit_2038, lit_2100, lit_2124, lit_8000, lit_10000, lit_12345, lit_32767, lit_1000000, lit_1000000000, ↓bndX_h, ↓bndK_h, bxh_inl, bxh_inr, bkh_inl, bkh_inr, Nat.reduceEqDiff, ↓bnd_h, ↓lt_h, ↓ite_h, bh_some, lh_eq, ih_T, ih_F, ne_eq, not_false_eq_true, not_true_eq_false, eq_self, and_true, true_and, io_def]
      refine m_nearGifts hv1 hs1 hM1' (fun N2 b1 b2 => ?_)
      have b2' : ∀ o, o < 92 → ob [(92, 92), (100, 100)] o = true := fun o h => by simp only [ob, Bool.and_true, Bool.and_eq_true, Bool.or_eq_true, decide_eq_true_eq]; omega
      have hM1'' := hM1'.F b2 b2'
      have hM0'' := hM0'.F b2 b2'
      have hT2 : MT N2 (gN (vG V 0)) (gSi (vG V 0)) (gfS (vG V 0) (vS V 0)) := fun t s h1 h2 => (b2.I rfl).trans (a1 t s h1 h2)
      have e0 : mI N2 83 0 = io (bSe (vB V 0)) := by rw [b2.I rfl, a2.I rfl]; exact hN0.seed (by omega)
      have e1 : mI N2 83 1 = io (bSe (vB V 1)) := by rw [b2.I rfl, a2.I rfl]; exact hN0.seed (by omega)
      refine m_nearZero hv1 hM1'' e0 e1 (by omega) hsd1 (fun N3 c1 c2 c3 c4 c5 => ?_)
      have hNM : NM N3 (vG V 0) (vS V 0) (vG V 1) (vS V 1) := NM.keep ⟨hM0'', hM1'', hT2, b1⟩ (c5.sub (fun o ho => by simp only [ob, Bool.and_true, Bool.or_eq_true, decide_eq_true_eq] at ho ⊢; omega) (fun _ q => q))
      have hC0 : ∀ i, i < stN (gSi (vG V 0)) * stN (gSi (vG V 1)) → mL N3 98 i = lo (nrS (gN (vG V 0)) (gOd (vG V 0)) (allO (vG V 0)) (ndS (vG V 0) (vS V 0) (vG V 1) (vS V 1)) (bSe (vB V 0) * 100 + bSe (vB V 1)) 0 (qC (stN (gSi (vG V 1))) i)) := fun i hi => by
        rw [c1 i (by omega)]
        congr 1
        show _ = if qC (stN (gSi (vG V 1))) i = bSe (vB V 0) * 100 + bSe (vB V 1) then 1000000000 else 0
        by_cases q : i = stN (gSi (vG V 1)) * bSe (vB V 0) + bSe (vB V 1)
        · rw [if_pos q, if_pos (by rw [q]; exact hqc)]
        · rw [if_neg q, if_neg (fun z => q (qC_inj h1p hst1 (z.trans hqc.symm)))]
      have hF0 : Fg [(92, 92), (95, 95), (98, 100)] [] (sI N 72 2 (io 0)) N3 := ((a2.sub (fun o ho => by simp only [ob, Bool.and_true, Bool.and_eq_true, Bool.or_eq_true, decide_eq_true_eq] at ho ⊢; omega) (fun _ q => q)).trans (b2.sub (fun o ho => by simp only [ob, Bool.and_true, Bool.and_eq_true, Bool.or_eq_true, decide_eq_true_eq] at ho ⊢; omega) (fun _ q => q))).trans (c5.sub (fun o ho => by simp only [ob, Bool.and_true, Bool.and_eq_true, Bool.or_eq_true, decide_eq_true_eq] at ho ⊢; omega) (fun _ q => q))
      have hnr := nr_ok (n := gN (vG V 0)) (all := allO (vG V 0)) (od := gOd (vG V 0)) (d := ndS (vG V 0) (vS V 0) (vG V 1) (vS V 1)) (OK := okC (vG V 0) (vG V 1)) rfl hap hc0 (fun c s hc hs => nd_ok hv0 hv1 hc hs)
      have hbnd : ∀ k, nrV V n k ≤ n * 9000000000 := fun k => nwS_le (OK := okC (vG V 0) (vG V 1)) rfl hap hc0 (fun c s hc hs => nd_ok hv0 hv1 hc hs) (fun c s hc hs => by
        have := nw_le (sv0 := vS V 0) (sv1 := vS V 1) (c := c) hv0 hv1 hs
        split
        · exact this.1
        · split
          · exact this.2.1
          · exact this.2.2) n
      clear a1 a2 b1 b2 c1 c5 e0 e1 hT2 hM0'' hM1'' hM0' hM1'
      refine loopW (L := fun f (j : Nat) U => zX12_near_L214 f 72 (io n) (io k) (io j) U) (J := fun j U => j ≤ n ∧ NM U (vG V 0) (vS V 0) (vG V 1) (vS V 1) ∧ (∀ i, i < stN (gSi (vG V 0)) * stN (gSi (vG V 1)) → mL U 98 i = lo (nrS (gN (vG V 0)) (gOd (vG V 0)) (allO (vG V 0)) (ndS (vG V 0) (vS V 0) (vG V 1) (vS V 1)) (bSe (vB V 0) * 100 + bSe (vB V 1)) j (qC (stN (gSi (vG V 1))) i))) ∧ mL U 72 43 = lo (nrV V j 0) ∧ mL U 72 44 = lo (nrV V j 1) ∧ mL U 72 45 = lo (nrV V j 2) ∧ Fg [(92, 92), (95, 95), (98, 100)] [] (sI N 72 2 (io 0)) U) (fun j _ => n - j) ?_ FU 0 N3 ⟨Nat.zero_le _, hNM, hC0, c2, c3, c4, hF0⟩ (by rw [FU_val]; omega)
      intro f j U ⟨hj, hNM, hC, h43, h44, h45, hF⟩ rec
      show Wp (zX12_near_B214 (zX12_near_L214 f) 72 (io n) (io k) (io j) U) _
      have hp92 : ∀ o, (o < 92 ∨ 102 < o) → ob [(92, 92), (95, 95), (98, 100)] o = true := fun o h => by simp only [ob, Bool.and_true, Bool.and_eq_true, Bool.or_eq_true, decide_eq_true_eq]; omega
      unfold zX12_near_B214 zX12_near_B256
      simp -dsimp (disch := first | assumption | omega) only [lit_0, lit_1, lit_2, lit_3, lit_4, lit_5, lit_6, lit_7, lit_8, lit_9, lit_10, lit_11, lit_12, lit_13, lit_14, lit_15, lit_16, lit_17, lit_18, lit_19, lit_20, lit_21, lit_22, lit_23, lit_24, lit_25, lit_26, lit_27, lit_28, lit_29, lit_30, lit_31, lit_32, lit_33, lit_34, lit_35, lit_36, lit_37, lit_38, lit_39, lit_40, lit_41, lit_42, lit_43, lit_44, lit_45, lit_46, lit_47, lit_48, lit_49, lit_50, lit_51, lit_52, lit_53, lit_54, lit_55, lit_56, lit_57, lit_58, lit_59, lit_60, lit_61, lit_62, lit_63, lit_64, lit_97, lit_99, lit_100, lit_122, lit_175, lit_176, lit_200, lit_255, lit_400, lit_700, lit_800, lit_999, lit_1000, lit_1400, lit_2000, lit_2033, lit_2038, lit_2100, lit_2124, lit_8000, lit_10000, lit_12345, lit_32767, lit_1000000, lit_1000000000, ↓bndX_h, ↓bndK_h, bxh_inl, bxh_inr, bkh_inl, bkh_inr, Nat.reduceEqDiff, ↓bnd_h, ↓lt_h, ↓ite_h, bh_some, lh_eq, ih_T, ih_F, ne_eq, not_false_eq_true, not_true_eq_false, eq_self, and_true, true_and, io_def, io_add, io_mul, io_sub, io_lt, io_le, io_eq, io_clamp, io_inbT, io_div, io_mod, io_m1, m1_io, m1_lt, m1_le, neg_1, gI_m1]
      refine Wp.csh (fun c => ?_) (fun c => ?_)
      · have : j = n := by omega
        subst this
        have q0 := hbnd 0
        have q1 := hbnd 1
        have q2 := hbnd 2
        simp -dsimp (disch := first | assumption | omega) only [lit_0, lit_1, lit_2, lit_3, lit_4, lit_5, lit_6, lit_7, lit_8, lit_9, lit_10, lit_11, lit_12, lit_13, lit_14, lit_15, lit_16, lit_17, lit_18, lit_19, lit_20, lit_21, lit_22, lit_23, lit_24, lit_25, lit_26, lit_27, lit_28, lit_29, lit_30, lit_31, lit_32, lit_33, lit_34, lit_35, lit_36, lit_37, lit_38, lit_39, lit_40, lit_41, lit_42, lit_43, lit_44, lit_45, lit_46, lit_47, lit_48, lit_49, lit_50, lit_51, lit_52, lit_53, lit_54, lit_55, lit_56, lit_57, lit_58, lit_59, lit_60, lit_61, lit_62, lit_63, lit_64, lit_97, lit_99, lit_100, lit_122, lit_175, lit_176, lit_200, lit_255, lit_400, lit_700, lit_800, lit_999, lit_1000, lit_1400, lit_2000, lit_2033, lit_2038, lit_2100, lit_2124, lit_8000, lit_10000, lit_12345, lit_32767, lit_1000000, lit_1000000000, ↓bndX_h, ↓bndK_h, bxh_inl, bxh_inr, bkh_inl, bkh_inr, Nat.reduceEqDiff, ↓bnd_h, ↓lt_h, ↓ite_h, bh_some, lh_eq, ih_T, ih_F, ne_eq, not_false_eq_true, not_true_eq_false, eq_self, and_true, true_and, io_def, io_add, io_mul, io_sub, io_lt, io_le, io_eq, io_clamp, io_inbT, io_div, io_mod, io_m1, m1_io, m1_lt, m1_le, neg_1, gI_m1]
        refine Wp.csh (fun q => ?_) (fun q => ?_)
        · subst q
          rw [h43, lit64_m, lo_div (by omega) (by omega), lo_io]
          exact Wp.ret (hok hF hp92 rfl)
        · simp -dsimp (disch := first | assumption | omega) only [lit_0, lit_1, lit_2, lit_3, lit_4, lit_5, lit_6, lit_7, lit_8, lit_9, lit_10, lit_11, lit_12, lit_13, lit_14, lit_15, lit_16, lit_17, lit_18, lit_19, lit_20, lit_21, lit_22, lit_23, lit_24, lit_25, lit_26, lit_27, lit_28, lit_29, lit_30, lit_31, lit_32, lit_33, lit_34, lit_35, lit_36, lit_37, lit_38, lit_39, lit_40, lit_41, lit_42, lit_43, lit_44, lit_45, lit_46, lit_47, lit_48, lit_49, lit_50, lit_51, lit_52, lit_53, lit_54, lit_55, lit_56, lit_57, lit_58, lit_59, lit_60, lit_61, lit_62, lit_63, lit_64, lit_97, lit_99, lit_100, lit_122, lit_175, lit_176, lit_200, lit_255, lit_400, lit_700, lit_800, lit_999, lit_1000, lit_1400, lit_2000, lit_2033, lit_2038, lit_2100, lit_2124, lit_8000, lit_10000, lit_12345, lit_32767, lit_1000000, lit_1000000000, ↓bndX_h, ↓bndK_h, bxh_inl, bxh_inr, bkh_inl, bkh_inr, Nat.reduceEqDiff, ↓bnd_h, ↓lt_h, ↓ite_h, bh_some, lh_eq, ih_T, ih_F, ne_eq, not_false_eq_true, not_true_eq_false, eq_self, and_true, true_and, io_def, io_add, io_mul, io_sub, io_lt, io_le, io_eq, io_clamp, io_inbT, io_div, io_mod, io_m1, m1_io, m1_lt, m1_le, neg_1, gI_m1]
          refine Wp.csh (fun q3 => ?_) (fun q3 => ?_)
          · subst q3
            rw [h44, lit64_m, lo_div (by omega) (by omega), lo_io]
            exact Wp.ret (hok hF hp92 rfl)
          · have : k = 2 := by omega
            subst this
            rw [h45, lit64_m, lo_div (by omega) (by omega), lo_io]
            exact Wp.ret (hok hF hp92 rfl)
      · obtain ⟨hsum, hsu⟩ := hnr j
        have hle : ∀ c, nrS (gN (vG V 0)) (gOd (vG V 0)) (allO (vG V 0)) (ndS (vG V 0) (vS V 0) (vG V 1) (vS V 1)) (bSe (vB V 0) * 100 + bSe (vB V 1)) j c ≤ 1000000000 := fun c => by
          by_cases q : nrS (gN (vG V 0)) (gOd (vG V 0)) (allO (vG V 0)) (ndS (vG V 0) (vS V 0) (vG V 1) (vS V 1)) (bSe (vB V 0) * 100 + bSe (vB V 1)) j c = 0
          · omega
          · have hoc := hsu c q
            exact Nat.le_trans (sumN_mem (show c < 10000 by have := hoc.1; omega)) hsum
        simp -dsimp (disch := first | assumption | omega) only [lit_0, lit_1, lit_2, lit_3, lit_4, lit_5, lit_6, lit_7, lit_8, lit_9, lit_10, lit_11, lit_12, lit_13, lit_14, lit_15, lit_16, lit_17, lit_18, lit_19, lit_20, lit_21, lit_22, lit_23, lit_24, lit_25, lit_26, lit_27, lit_28, lit_29, lit_30, lit_31, lit_32, lit_33, lit_34, lit_35, lit_36, lit_37, lit_38, lit_39, lit_40, lit_41, lit_42, lit_43, lit_44, lit_45, lit_46, lit_47, lit_48, lit_49, lit_50, lit_51, lit_52, lit_53, lit_54, lit_55, lit_56, lit_57, lit_58, lit_59, lit_60, lit_61, lit_62, lit_63, lit_64, lit_97, lit_99, lit_100, lit_122, lit_175, lit_176, lit_200, lit_255, lit_400, lit_700, lit_800, lit_999, lit_1000, lit_1400, lit_2000, lit_2033, lit_2038, lit_2100, lit_2124, lit_8000, lit_10000, lit_12345, lit_32767, lit_1000000, lit_1000000000, ↓bndX_h, ↓bndK_h, bxh_inl, bxh_inr, bkh_inl, bkh_inr, Nat.reduceEqDiff, ↓bnd_h, ↓lt_h, ↓ite_h, bh_some, lh_eq, ih_T, ih_F, ne_eq, not_false_eq_true, not_true_eq_false, eq_self, and_true, true_and, io_def, io_add, io_mul, io_sub, io_lt, io_le, io_eq, io_clamp, io_inbT, io_div, io_mod, io_m1, m1_io, m1_lt, m1_le, neg_1, gI_m1]
        refine Wp.seqh (m_nearPerson hv0 hv1 hNM hgp hC hsu hle h43 h44 h45) (fun _ U2 ⟨d1, d2, d3, d4, d5⟩ => ?_)
        simp -dsimp (disch := first | assumption | omega) only [lit_0, lit_1, lit_2, lit_3, lit_4, lit_5, lit_6, lit_7, lit_8, lit_9, lit_10, lit_11, lit_12, lit_13, lit_14, lit_15, lit_16, lit_17, lit_18, lit_19, lit_20, lit_21, lit_22, lit_23, lit_24, lit_25, lit_26, lit_27, lit_28, lit_29, lit_30, lit_31, lit_32, lit_33, lit_34, lit_35, lit_36, lit_37, lit_38, lit_39, lit_40, lit_41, lit_42, lit_43, lit_44, lit_45, lit_46, lit_47, lit_48, lit_49, lit_50, lit_51, lit_52, lit_53, lit_54, lit_55, lit_56, lit_57, lit_58, lit_59, lit_60, lit_61, lit_62, lit_63, lit_64, lit_97, lit_99, lit_100, lit_122, lit_175, lit_176, lit_200, lit_255, lit_400, lit_700, lit_800, lit_999, lit_1000, lit_1400, lit_2000, lit_2033, lit_2038, lit_2100, lit_2124, lit_8000, lit_10000, lit_12345, lit_32767, lit_1000000, lit_1000000000, ↓bndX_h, ↓bndK_h, bxh_inl, bxh_inr, bkh_inl, bkh_inr, Nat.reduceEqDiff, ↓bnd_h, ↓lt_h, ↓ite_h, bh_some, lh_eq, ih_T, ih_F, ne_eq, not_false_eq_true, not_true_eq_false, eq_self, and_true, true_and, io_def, io_add, io_mul, io_sub, io_lt, io_le, io_eq, io_clamp, io_inbT, io_div, io_mod, io_m1, m1_io, m1_lt, m1_le, neg_1, gI_m1]
        exact rec (j + 1) U2 ⟨by omega, hNM.keep d5, d1, d2, d3, d4, hF.trans (d5.sub (fun o ho => by simp only [ob, Bool.and_true, Bool.and_eq_true, Bool.or_eq_true, decide_eq_true_eq] at ho ⊢; omega) (fun _ q => q))⟩ (by omega)
    · refine ⟨R, V, .inr 1, hV, Nat.le_refl _, ?_, fun N hN => ?_⟩
      · unfold zX11_near
        simp -dsimp (disch := first | assumption | omega) only [neg_1, lit_0, lit_1, lit_2, lit_3, lit_4, lit_5, lit_6, lit_7, lit_8, lit_9, lit_10, lit_11, lit_12, lit_13, lit_14, lit_15, lit_16, lit_17, lit_18, lit_19, lit_20, lit_21, lit_22, lit_23, lit_24, lit_25, lit_26, lit_27, lit_28, lit_29, lit_30, lit_31, lit_32, lit_33, lit_34, lit_35, lit_36, lit_37, lit_38, lit_39, lit_40, lit_41, lit_42, lit_43, lit_44, lit_45, lit_46, lit_47, lit_48, lit_49, lit_50, lit_51, lit_52, lit_53, lit_54, lit_55, lit_56, lit_57, lit_58, lit_59, lit_60, lit_61, lit_62, lit_63, lit_64, lit_97, lit_99, lit_100, lit_122, lit_175, lit_176, lit_200, lit_255, lit_400, lit_700, lit_800, lit_999, lit_1000, lit_1400, lit_2000, lit_2033, lit_2038, lit_2100, lit_2124, lit_8000, lit_10000, lit_12345, lit_32767, lit_1000000, lit_1000000000, ↓bndX_h, ↓bndK_h, bxh_inl, bxh_inr, bkh_inl, bkh_inr, Nat.reduceEqDiff, ↓bnd_h, ↓lt_h, ↓ite_h, bh_some, lh_eq, ih_T, ih_F, ne_eq, not_false_eq_true, not_true_eq_false, eq_self, and_true, true_and, io_def, io_add, io_mul, io_sub, io_lt, io_le, io_eq, io_clamp, io_inbT, io_div, io_mod, io_m1, m1_io, m1_lt, m1_le, neg_1, gI_m1, K0_1, PC1.p1_0, PC1.p1_1, PC1.p1_2, PC1.p1_3, PC1.p1_4, PC1.p1_7, PC1.p1_8, PC1.p1_9, PC1.p1_10, PC1.p1_11, PC1.p1_12, K0_2, K0_39, K0_40, K0_41, K0_45, K0_52, K0_63, K0_66, K0_71, K0_gid, gid_ne, K0_bid, bid_ne, K0_kid, kid_ne, K0_bid1, K0_bid2, K0_kid1, K0_kid2, GP.r1, GP.r2, GP.b5, GP.b6, GP.k5, GP.k6, c_gateOf, succ_ne, c_ask_in, c_ask_out, c_askn_in, c_askn_out, c_range_in, c_range_out, K0_r, K0_r1, K0_r2, K0_r3, K0_r4, K0_r5, K0_r6, ru_ne, PR.p7, PR.p8, PR.p9, PR.p10, PR.p11, PR.p12, at_r1, at_r2, at_r3, at_r4, at_r5, succ_ne, K0_se, se_ne, K0_r6]
        exact Wp.ret ⟨rfl, hIp, hIs, Fg.refl⟩
      · have e := m_isIn_out (M := sI N 72 2 (io 0)) ha
        unfold zX12_near
        simp -dsimp (disch := first | assumption | omega) only [lit_0, lit_1, lit_2, lit_3, lit_4, lit_5, lit_6, lit_7, lit_8, lit_9, lit_10, lit_11, lit_12, lit_13, lit_14, lit_15, lit_16, lit_17, lit_18, lit_19, lit_20, lit_21, lit_22, lit_23, lit_24, lit_25, lit_26, lit_27, lit_28, lit_29, lit_30, lit_31, lit_32, lit_33, lit_34, lit_35, lit_36, lit_37, lit_38, lit_39, lit_40, lit_41, lit_42, lit_43, lit_44, lit_45, lit_46, lit_47, lit_48, lit_49, lit_50, lit_51, lit_52, lit_53, lit_54, lit_55, lit_56, lit_57, lit_58, lit_59, lit_60, lit_61, lit_62, lit_63, lit_64, lit_97, lit_99, lit_100, lit_122, lit_175, lit_176, lit_200, lit_255, lit_400, lit_700, lit_800, lit_999, lit_1000, lit_1400, lit_2000, lit_2033, lit_2038, lit_2100, lit_2124, lit_8000, lit_10000, lit_12345, lit_32767, lit_1000000, lit_1000000000, ↓bndX_h, ↓bndK_h, bxh_inl, bxh_inr, bkh_inl, bkh_inr, Nat.reduceEqDiff, ↓bnd_h, ↓lt_h, ↓ite_h, bh_some, lh_eq, ih_T, ih_F, ne_eq, not_false_eq_true, not_true_eq_false, eq_self, and_true, true_and, io_def, io_add, io_mul, io_sub, io_lt, io_le, io_eq, io_clamp, io_inbT, io_div, io_mod, io_m1, m1_io, m1_lt, m1_le, neg_1, gI_m1, PM.p0, PM.p1, PM.p3, PM.p4, PM.p5, PM.p6, PM.p7, PM.p8, PM.p9, PM.p10, PM.p11, PM.p12, PM.p13, PM.p14, PM.p15, PM.p16, PM.p17, PM.p18, PM.p19, PM.p31, PM.p32, PM.p33, PM.p34, PM.p38, PM.p39, PM.p40, PM.p41, PM.p42, PM.p46, PM.p47, PM.p50, PM.p51, PM.p52, PM.p53, PM.p54, PM.p55, PM.p56, PM.p57, K0_1, K0_2, K0_3, K0_4, K0_5, K0_6, K0_7, K0_8, K0_9, K0_10, K0_11, K0_12, K0_13, K0_14, K0_15, K0_16, K0_17, K0_18, K0_19, K0_20, K0_21, K0_22, K0_23, K0_24, K0_25, K0_26, K0_27, K0_28, K0_29, K0_30, K0_31, K0_32, K0_33, K0_34, K0_35, K0_36, K0_37, K0_38, K0_39, K0_40, K0_41, K0_42, K0_43, K0_44, K0_45, K0_46, K0_47, K0_48, K0_49, K0_50, K0_51, K0_52, K0_53, K0_54, K0_55, K0_56, K0_57, K0_58, K0_59, K0_60, K0_61, K0_62, K0_63, K0_64, K0_65, K0_66, K0_67, K0_68, K0_69, K0_70, K0_71, K0_72, K0_73, K0_74, K0_75, K0_76, K0_77, K0_78, K0_79, K0_80, K0_81, K0_82, K0_83, K0_84, K0_85, K0_86, K0_87, K0_88, K0_89, K0_90, K0_91, K0_92, K0_93, K0_94, K0_95, K0_96, K0_97, K0_98, K0_99, K0_100, K0_101, K0_102, K0_103, K0_104, K0_105, K0_106, K0_107, K0_108, K0_109, K0_110, K0_111, m_isGate_in, m_isGate_out, m_isIn_in, m_isIn_out, m_isInn_in, m_isInn_out, m_fail, false_and, and_false, if_false, if_true, and_self, mI_sI, mI_sL, mL_sI, mL_sL, mR_sI, mR_sL, e]
        exact Wp.ret (m_err2 hN rfl)
  · refine ⟨R, V, .inr 0, hV, Nat.zero_le _, ?_, fun N hN => ?_⟩
    · unfold zX11_near
      simp -dsimp (disch := first | assumption | omega) only [neg_1, lit_0, lit_1, lit_2, lit_3, lit_4, lit_5, lit_6, lit_7, lit_8, lit_9, lit_10, lit_11, lit_12, lit_13, lit_14, lit_15, lit_16, lit_17, lit_18, lit_19, lit_20, lit_21, lit_22, lit_23, lit_24, lit_25, lit_26, lit_27, lit_28, lit_29, lit_30, lit_31, lit_32, lit_33, lit_34, lit_35, lit_36, lit_37, lit_38, lit_39, lit_40, lit_41, lit_42, lit_43, lit_44, lit_45, lit_46, lit_47, lit_48, lit_49, lit_50, lit_51, lit_52, lit_53, lit_54, lit_55, lit_56, lit_57, lit_58, lit_59, lit_60, lit_61, lit_62, lit_63, lit_64, lit_97, lit_99, lit_100, lit_122, lit_175, lit_176, lit_200, lit_255, lit_400, lit_700, lit_800, lit_999, lit_1000, lit_1400, lit_2000, lit_2033, lit_2038, lit_2100, lit_2124, lit_8000, lit_10000, lit_12345, lit_32767, lit_1000000, lit_1000000000, ↓bndX_h, ↓bndK_h, bxh_inl, bxh_inr, bkh_inl, bkh_inr, Nat.reduceEqDiff, ↓bnd_h, ↓lt_h, ↓ite_h, bh_some, lh_eq, ih_T, ih_F, ne_eq, not_false_eq_true, not_true_eq_false, eq_self, and_true, true_and, io_def, io_add, io_mul, io_sub, io_lt, io_le, io_eq, io_clamp, io_inbT, io_div, io_mod, io_m1, m1_io, m1_lt, m1_le, neg_1, gI_m1, K0_1, PC1.p1_0, PC1.p1_1, PC1.p1_2, PC1.p1_3, PC1.p1_4, PC1.p1_7, PC1.p1_8, PC1.p1_9, PC1.p1_10, PC1.p1_11, PC1.p1_12, K0_2, K0_39, K0_40, K0_41, K0_45, K0_52, K0_63, K0_66, K0_71, K0_gid, gid_ne, K0_bid, bid_ne, K0_kid, kid_ne, K0_bid1, K0_bid2, K0_kid1, K0_kid2, GP.r1, GP.r2, GP.b5, GP.b6, GP.k5, GP.k6, c_gateOf, succ_ne, c_ask_in, c_ask_out, c_askn_in, c_askn_out, c_range_in, c_range_out, K0_r, K0_r1, K0_r2, K0_r3, K0_r4, K0_r5, K0_r6, ru_ne, PR.p7, PR.p8, PR.p9, PR.p10, PR.p11, PR.p12, at_r1, at_r2, at_r3, at_r4, at_r5, succ_ne, K0_se, se_ne, K0_r6]
      exact Wp.ret ⟨rfl, hIp, hIs, Fg.refl⟩
    · unfold zX12_near
      simp -dsimp (disch := first | assumption | omega) only [lit_0, lit_1, lit_2, lit_3, lit_4, lit_5, lit_6, lit_7, lit_8, lit_9, lit_10, lit_11, lit_12, lit_13, lit_14, lit_15, lit_16, lit_17, lit_18, lit_19, lit_20, lit_21, lit_22, lit_23, lit_24, lit_25, lit_26, lit_27, lit_28, lit_29, lit_30, lit_31, lit_32, lit_33, lit_34, lit_35, lit_36, lit_37, lit_38, lit_39, lit_40, lit_41, lit_42, lit_43, lit_44, lit_45, lit_46, lit_47, lit_48, lit_49, lit_50, lit_51, lit_52, lit_53, lit_54, lit_55, lit_56, lit_57, lit_58, lit_59, lit_60, lit_61, lit_62, lit_63, lit_64, lit_97, lit_99, lit_100, lit_122, lit_175, lit_176, lit_200, lit_255, lit_400, lit_700, lit_800, lit_999, lit_1000, lit_1400, lit_2000, lit_2033, lit_2038, lit_2100, lit_2124, lit_8000, lit_10000, lit_12345, lit_32767, lit_1000000, lit_1000000000, ↓bndX_h, ↓bndK_h, bxh_inl, bxh_inr, bkh_inl, bkh_inr, Nat.reduceEqDiff, ↓bnd_h, ↓lt_h, ↓ite_h, bh_some, lh_eq, ih_T, ih_F, ne_eq, not_false_eq_true, not_true_eq_false, eq_self, and_true, true_and, io_def, io_add, io_mul, io_sub, io_lt, io_le, io_eq, io_clamp, io_inbT, io_div, io_mod, io_m1, m1_io, m1_lt, m1_le, neg_1, gI_m1, PM.p0, PM.p1, PM.p3, PM.p4, PM.p5, PM.p6, PM.p7, PM.p8, PM.p9, PM.p10, PM.p11, PM.p12, PM.p13, PM.p14, PM.p15, PM.p16, PM.p17, PM.p18, PM.p19, PM.p31, PM.p32, PM.p33, PM.p34, PM.p38, PM.p39, PM.p40, PM.p41, PM.p42, PM.p46, PM.p47, PM.p50, PM.p51, PM.p52, PM.p53, PM.p54, PM.p55, PM.p56, PM.p57, K0_1, K0_2, K0_3, K0_4, K0_5, K0_6, K0_7, K0_8, K0_9, K0_10, K0_11, K0_12, K0_13, K0_14, K0_15, K0_16, K0_17, K0_18, K0_19, K0_20, K0_21, K0_22, K0_23, K0_24, K0_25, K0_26, K0_27, K0_28, K0_29, K0_30, K0_31, K0_32, K0_33, K0_34, K0_35, K0_36, K0_37, K0_38, K0_39, K0_40, K0_41, K0_42, K0_43, K0_44, K0_45, K0_46, K0_47, K0_48, K0_49, K0_50, K0_51, K0_52, K0_53, K0_54, K0_55, K0_56, K0_57, K0_58, K0_59, K0_60, K0_61, K0_62, K0_63, K0_64, K0_65, K0_66, K0_67, K0_68, K0_69, K0_70, K0_71, K0_72, K0_73, K0_74, K0_75, K0_76, K0_77, K0_78, K0_79, K0_80, K0_81, K0_82, K0_83, K0_84, K0_85, K0_86, K0_87, K0_88, K0_89, K0_90, K0_91, K0_92, K0_93, K0_94, K0_95, K0_96, K0_97, K0_98, K0_99, K0_100, K0_101, K0_102, K0_103, K0_104, K0_105, K0_106, K0_107, K0_108, K0_109, K0_110, K0_111, m_isGate_in, m_isGate_out, m_isIn_in, m_isIn_out, m_isInn_in, m_isInn_out, m_fail, false_and, and_false, if_false, if_true, and_self, mI_sI, mI_sL, mL_sI, mL_sL, mR_sI, mR_sL]
      exact Wp.ret (m_err hN rfl)
