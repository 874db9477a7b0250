/-! ===== LEVEL 2: the class's walk ===== -/
theorem c_partOf {M : Mem} {r s a : Nat} {v : GV} (hr : isRu r) (hv : okG v) (hPR : PR M r) (hC : CG M r v) (hs : s < gN v) (ha : a ≤ 1000000000) : zX8_partOf r (io s) (io a) (io (a - sumN s (ptS (gN v) (gOd v) (allO v) a))) M = some (io (ptS (gN v) (gOd v) (allO v) a s), M) := by
  obtain ⟨c0, c1, c2, c3, c4, c6, cs, ck, ca⟩ := hC
  obtain ⟨d1, d2, d3, d4, d5⟩ := cs s hs
  have hn := okG_n hv
  have hal := allO_le hv
  have hap := allO_pos hv (by omega)
  have hod := okG_od hv hs
  have hsub : io (gN v) - io 1 = io (gN v - 1) := io_sub (by omega)
  refine Wp.eq ?_
  unfold zX8_partOf
  simp -dsimp (disch := first | assumption | omega) only [lit_0, lit_1, lit_2, lit_3, lit_4, lit_5, lit_6, lit_7, lit_8, lit_9, lit_10, lit_11, lit_12, lit_13, lit_14, lit_15, lit_16, lit_17, lit_18, lit_19, lit_20, lit_21, lit_22, lit_23, lit_24, lit_25, lit_26, lit_27, lit_28, lit_29, lit_30, lit_31, lit_32, lit_33, lit_34, lit_35, lit_36, lit_37, lit_38, lit_39, lit_40, lit_41, lit_42, lit_43, lit_44, lit_45, lit_46, lit_47, lit_48, lit_49, lit_50, lit_51, lit_52, lit_53, lit_54, lit_55, lit_56, lit_57, lit_58, lit_59, lit_60, lit_61, lit_62, lit_63, lit_64, lit_97, lit_99, lit_100, lit_122, lit_175, lit_176, lit_200, lit_255, lit_400, lit_700, lit_800, lit_999, lit_1000, lit_1400, lit_2000, lit_2033, lit_2038, lit_2100, lit_2124, lit_8000, lit_10000, lit_12345, lit_32767, lit_1000000, lit_1000000000, ↓bndX_h, ↓bndK_h, bxh_inl, bxh_inr, bkh_inl, bkh_inr, Nat.reduceEqDiff, ↓bnd_h, ↓lt_h, ↓ite_h, bh_some, lh_eq, ih_T, ih_F, ne_eq, not_false_eq_true, not_true_eq_false, eq_self, and_true, true_and, io_def, K0_r, K0_r1, K0_r2, K0_r3, K0_r4, K0_r5, K0_r6, ru_ne, PR.p7, PR.p8, PR.p9, PR.p10, PR.p11, PR.p12, at_r1, at_r2, at_r3, at_r4, at_r5, succ_ne, io_add, io_mul, io_sub, io_lt, io_le, io_eq, io_clamp, io_inbT, io_div, io_mod, io_m1, m1_io, m1_lt, m1_le, neg_1, gI_m1, c0, hsub]
  refine Wp.csh (fun c => ?_) (fun c => ?_)
  · refine Wp.ret ⟨?_, rfl⟩
    rw [pt_last (by omega)]
  · have hm : gOd v s * a ≤ 99000000000 := Nat.le_trans (Nat.mul_le_mul hod.2 ha) (by omega)
    simp -dsimp (disch := first | assumption | omega) only [lit_0, lit_1, lit_2, lit_3, lit_4, lit_5, lit_6, lit_7, lit_8, lit_9, lit_10, lit_11, lit_12, lit_13, lit_14, lit_15, lit_16, lit_17, lit_18, lit_19, lit_20, lit_21, lit_22, lit_23, lit_24, lit_25, lit_26, lit_27, lit_28, lit_29, lit_30, lit_31, lit_32, lit_33, lit_34, lit_35, lit_36, lit_37, lit_38, lit_39, lit_40, lit_41, lit_42, lit_43, lit_44, lit_45, lit_46, lit_47, lit_48, lit_49, lit_50, lit_51, lit_52, lit_53, lit_54, lit_55, lit_56, lit_57, lit_58, lit_59, lit_60, lit_61, lit_62, lit_63, lit_64, lit_97, lit_99, lit_100, lit_122, lit_175, lit_176, lit_200, lit_255, lit_400, lit_700, lit_800, lit_999, lit_1000, lit_1400, lit_2000, lit_2033, lit_2038, lit_2100, lit_2124, lit_8000, lit_10000, lit_12345, lit_32767, lit_1000000, lit_1000000000, ↓bndX_h, ↓bndK_h, bxh_inl, bxh_inr, bkh_inl, bkh_inr, Nat.reduceEqDiff, ↓bnd_h, ↓lt_h, ↓ite_h, bh_some, lh_eq, ih_T, ih_F, ne_eq, not_false_eq_true, not_true_eq_false, eq_self, and_true, true_and, io_def, K0_r, K0_r1, K0_r2, K0_r3, K0_r4, K0_r5, K0_r6, ru_ne, PR.p7, PR.p8, PR.p9, PR.p10, PR.p11, PR.p12, at_r1, at_r2, at_r3, at_r4, at_r5, succ_ne, io_add, io_mul, io_sub, io_lt, io_le, io_eq, io_clamp, io_inbT, io_div, io_mod, io_m1, m1_io, m1_lt, m1_le, neg_1, gI_m1, c1, hap, d1, lit64_0, lit64_1, lit64_m, lit64_b, lo_add, lo_mul, lo_div, lo_lt, lo_le, lo_eq, io_lo, lo_io, show ¬ allO v = 0 from by omega]
    refine Wp.ret ⟨?_, rfl⟩
    rw [pt_lt (by omega)]
theorem c_behind {M : Mem} {r st x : Nat} {v : GV} (hr : isRu r) (hv : okG v) (hC : CG M r v) (hst : st < 100) (hx : x ≤ 9) : zX8_stateBehind r (io st) (io x) M = some (io (behS (gSi v) st x), M) := by
  have c2 := hC.2.2.1
  have hsi := okG_si hv
  unfold zX8_stateBehind behS
  refine Wp.eq ?_
  simp -dsimp (disch := first | assumption | omega) only [lit_0, lit_1, lit_2, lit_3, lit_4, lit_5, lit_6, lit_7, lit_8, lit_9, lit_10, lit_11, lit_12, lit_13, lit_14, lit_15, lit_16, lit_17, lit_18, lit_19, lit_20, lit_21, lit_22, lit_23, lit_24, lit_25, lit_26, lit_27, lit_28, lit_29, lit_30, lit_31, lit_32, lit_33, lit_34, lit_35, lit_36, lit_37, lit_38, lit_39, lit_40, lit_41, lit_42, lit_43, lit_44, lit_45, lit_46, lit_47, lit_48, lit_49, lit_50, lit_51, lit_52, lit_53, lit_54, lit_55, lit_56, lit_57, lit_58, lit_59, lit_60, lit_61, lit_62, lit_63, lit_64, lit_97, lit_99, lit_100, lit_122, lit_175, lit_176, lit_200, lit_255, lit_400, lit_700, lit_800, lit_999, lit_1000, lit_1400, lit_2000, lit_2033, lit_2038, lit_2100, lit_2124, lit_8000, lit_10000, lit_12345, lit_32767, lit_1000000, lit_1000000000, ↓bndX_h, ↓bndK_h, bxh_inl, bxh_inr, bkh_inl, bkh_inr, Nat.reduceEqDiff, ↓bnd_h, ↓lt_h, ↓ite_h, bh_some, lh_eq, ih_T, ih_F, ne_eq, not_false_eq_true, not_true_eq_false, eq_self, and_true, true_and, io_def, K0_r, K0_r1, K0_r2, K0_r3, K0_r4, K0_r5, K0_r6, ru_ne, PR.p7, PR.p8, PR.p9, PR.p10, PR.p11, PR.p12, at_r1, at_r2, at_r3, at_r4, at_r5, succ_ne, io_add, io_mul, io_sub, io_lt, io_le, io_eq, io_clamp, io_inbT, io_div, io_mod, io_m1, m1_io, m1_lt, m1_le, neg_1, gI_m1, c2]
  refine Wp.csh (fun c => ?_) (fun c => ?_)
  · rw [if_pos c]; exact Wp.ret ⟨rfl, rfl⟩
  · simp -dsimp (disch := first | assumption | omega) only [lit_0, lit_1, lit_2, lit_3, lit_4, lit_5, lit_6, lit_7, lit_8, lit_9, lit_10, lit_11, lit_12, lit_13, lit_14, lit_15, lit_16, lit_17, lit_18, lit_19, lit_20, lit_21, lit_22, lit_23, lit_24, lit_25, lit_26, lit_27, lit_28, lit_29, lit_30, lit_31, lit_32, lit_33, lit_34, lit_35, lit_36, lit_37, lit_38, lit_39, lit_40, lit_41, lit_42, lit_43, lit_44, lit_45, lit_46, lit_47, lit_48, lit_49, lit_50, lit_51, lit_52, lit_53, lit_54, lit_55, lit_56, lit_57, lit_58, lit_59, lit_60, lit_61, lit_62, lit_63, lit_64, lit_97, lit_99, lit_100, lit_122, lit_175, lit_176, lit_200, lit_255, lit_400, lit_700, lit_800, lit_999, lit_1000, lit_1400, lit_2000, lit_2033, lit_2038, lit_2100, lit_2124, lit_8000, lit_10000, lit_12345, lit_32767, lit_1000000, lit_1000000000, ↓bndX_h, ↓bndK_h, bxh_inl, bxh_inr, bkh_inl, bkh_inr, Nat.reduceEqDiff, ↓bnd_h, ↓lt_h, ↓ite_h, bh_some, lh_eq, ih_T, ih_F, ne_eq, not_false_eq_true, not_true_eq_false, eq_self, and_true, true_and, io_def, K0_r, K0_r1, K0_r2, K0_r3, K0_r4, K0_r5, K0_r6, ru_ne, PR.p7, PR.p8, PR.p9, PR.p10, PR.p11, PR.p12, at_r1, at_r2, at_r3, at_r4, at_r5, succ_ne, io_add, io_mul, io_sub, io_lt, io_le, io_eq, io_clamp, io_inbT, io_div, io_mod, io_m1, m1_io, m1_lt, m1_le, neg_1, gI_m1, c2]
    refine Wp.csh (fun c4 => ?_) (fun c4 => ?_)
    · rw [if_neg c, if_pos c4]; exact Wp.ret ⟨rfl, rfl⟩
    · rw [if_neg c, if_neg c4]
      simp -dsimp (disch := first | assumption | omega) only [lit_0, lit_1, lit_2, lit_3, lit_4, lit_5, lit_6, lit_7, lit_8, lit_9, lit_10, lit_11, lit_12, lit_13, lit_14, lit_15, lit_16, lit_17, lit_18, lit_19, lit_20, lit_21, lit_22, lit_23, lit_24, lit_25, lit_26, lit_27, lit_28, lit_29, lit_30, lit_31, lit_32, lit_33, lit_34, lit_35, lit_36, lit_37, lit_38, lit_39, lit_40, lit_41, lit_42, lit_43, lit_44, lit_45, lit_46, lit_47, lit_48, lit_49, lit_50, lit_51, lit_52, lit_53, lit_54, lit_55, lit_56, lit_57, lit_58, lit_59, lit_60, lit_61, lit_62, lit_63, lit_64, lit_97, lit_99, lit_100, lit_122, lit_175, lit_176, lit_200, lit_255, lit_400, lit_700, lit_800, lit_999, lit_1000, lit_1400, lit_2000, lit_2033, lit_2038, lit_2100, lit_2124, lit_8000, lit_10000, lit_12345, lit_32767, lit_1000000, lit_1000000000, ↓bndX_h, ↓bndK_h, bxh_inl, bxh_inr, bkh_inl, bkh_inr, Nat.reduceEqDiff, ↓bnd_h, ↓lt_h, ↓ite_h, bh_some, lh_eq, ih_T, ih_F, ne_eq, not_false_eq_true, not_true_eq_false, eq_self, and_true, true_and, io_def, io_add, io_mul, io_sub, io_lt, io_le, io_eq, io_clamp, io_inbT, io_div, io_mod, io_m1, m1_io, m1_lt, m1_le, neg_1, gI_m1]
      refine Wp.ret ⟨?_, rfl⟩
      rw [Nat.mul_comm, Nat.add_comm]
def GX (M : Mem) (r p : Nat) (v : GV) (sv : SV) : Prop := GvI M 41 r p v sv ∧ KN M 41 v sv
def WK (M : Mem) (cn ct : Nat) : Prop := mR M 45 0 = 41 ∧ mR M 45 1 = cn ∧ mR M 45 2 = ct ∧ PCa M cn ∧ PCa M ct ∧ ((cn = 46 ∧ ct = 49) ∨ (cn = 49 ∧ ct = 46))
theorem GvI.keepW {M M' : Mem} {r p : Nat} {v : GV} {sv : SV} (hr : isRu r) (hp : isSe p) (h : GvI M 41 r p v sv) (hF : Fg [(42, 51)] [(45, 45)] M M') : GvI M' 41 r p v sv := by
  have hR : ∀ o k, o ≠ 45 → mR M' o k = mR M o k := fun o k ho => hF.R (by simp only [ob, Bool.and_true, Bool.or_eq_true, decide_eq_true_eq]; omega)
  have hr' : ∀ k, k ≤ 5 → ∀ j, mI M' (r + k) j = mI M (r + k) j := fun k hk j => hF.I (by simp only [ob, Bool.and_true, Bool.or_eq_true, decide_eq_true_eq]; rcases hr with rfl | rfl | rfl <;> omega)
  have hp' : ∀ j, mI M' p j = mI M p j := fun j => hF.I (by simp only [ob, Bool.and_true, Bool.or_eq_true, decide_eq_true_eq]; rcases hp with rfl | rfl | rfl | rfl <;> omega)
  have hr0 : ∀ j, mI M' r j = mI M r j := hr' 0 (by omega)
  have hr45 : r ≠ 45 := by rcases hr with rfl | rfl | rfl <;> omega
  obtain ⟨h1, h2, h3, h4, h5, h6⟩ := h
  refine ⟨?_, ?_, ?_, ?_, ?_, ?_⟩
  · simpa only [PG, hR 41 _ (by omega)] using h1
  · rw [hR 41 _ (by omega)]; exact h2
  · rw [hR 41 _ (by omega)]; exact h3
  · simpa only [PR, hR r _ hr45] using h4
  · simpa only [CG, hr0, hr' 1 (by omega), hr' 2 (by omega), hr' 3 (by omega), hr' 4 (by omega), hr' 5 (by omega)] using h5
  · simpa only [CS, hp'] using h6
theorem KN.keep {M M' : Mem} {v : GV} {sv : SV} {p : List (Nat × Nat)} {q : List (Nat × Nat)} (h : KN M 41 v sv) (hF : Fg p q M M') (hp : ob p 42 = true) : KN M' 41 v sv := by
  intro sp s t h1 h2 h3
  rw [hF.I hp]
  exact h sp s t h1 h2 h3
theorem CaI.keep {M M' : Mem} {c N : Nat} {cs : Nat → Nat} {p q : List (Nat × Nat)} (h : CaI M c N cs) (hF : Fg p q M M') (h0 : ob p c = true) (h1 : ob p (c + 1) = true) (h2 : ob p (c + 2) = true) : CaI M' c N cs := by
  obtain ⟨pl, a1, a2, a3, a4, a5, a6⟩ := h
  refine ⟨pl, a1, a2, a3, by rw [hF.I h0]; exact a4, fun i hi => by rw [hF.I h2]; exact a5 i hi, fun t ht => by rw [hF.I h1]; exact a6 t ht⟩
theorem CaI.ext {M : Mem} {c N : Nat} {cs ds : Nat → Nat} (h : CaI M c N cs) (e : ∀ t, cs t = ds t) : CaI M c N ds := by
  have : cs = ds := funext e
  exact this ▸ h
theorem CaI.sL {M : Mem} {c N o k : Nat} {v : Int64} {cs : Nat → Nat} (h : CaI M c N cs) : CaI (sL M o k v) c N cs := h
theorem pC_le {n all si u t m : Nat} {od : Nat → Nat} {gf : Nat → Nat → Nat} {cs : Nat → Nat} (hall : sumN n od = all) (h0 : 0 < all) (hm : m ≤ n) : pC n od all si gf cs u t m ≤ cs t :=
  Nat.le_trans (sumN_le (fun s _ => by split <;> omega)) (pt_upto hall h0 hm)
theorem ca_of {cn ct : Nat} (h : (cn = 46 ∧ ct = 49) ∨ (cn = 49 ∧ ct = 46)) : isCa cn 100 ∧ isCa ct 100 := by
  rcases h with ⟨rfl, rfl⟩ | ⟨rfl, rfl⟩
  · exact ⟨Or.inl ⟨Or.inl rfl, rfl⟩, Or.inl ⟨Or.inr rfl, rfl⟩⟩
  · exact ⟨Or.inl ⟨Or.inr rfl, rfl⟩, Or.inl ⟨Or.inl rfl, rfl⟩⟩
theorem c_share {M : Mem} {r p cn ct t G A : Nat} {v : GV} {sv : SV} {cs ds : Nat → Nat} (hr : isRu r) (hp : isSe p) (hv : okG v) (hsv : okS sv) (hX : GX M r p v sv) (hW : WK M cn ct) (hcn : CaI M cn 100 cs) (hct : CaI M ct 100 ds) (ht : t < stN (gSi v)) (hle : cs t ≤ 1000000000) (hds : ∀ u, ds u + cs t ≤ 2000000000) (hG : mL M 45 3 = lo G) (hA : mL M 45 4 = lo A) :
    Wp (zX10_share 45 (io t) M) (fun _ M' => GX M' r p v sv ∧ CaI M' cn 100 cs ∧ CaI M' ct 100 (fun u => ds u + pC (gN v) (gOd v) (allO v) (gSi v) (gfS v sv) cs u t (gN v)) ∧ mL M' 45 3 = lo (G + pG (gN v) (gOd v) (allO v) (gfS v sv) cs t (gN v)) ∧ mL M' 45 4 = lo (A + pA (gN v) (gOd v) (allO v) (gfS v sv) cs t (gN v)) ∧ (∀ o, (o = cn ∨ o = cn + 1 ∨ o = cn + 2) → ∀ k, mI M' o k = mI M o k) ∧ Fg [(42, 51)] [] M M') := by
  have hn := okG_n hv
  have hsi := okG_si hv
  have hst := stN_le (gSi v)
  obtain ⟨w0, w1, w2, w3, w4, w5⟩ := hW
  obtain ⟨ic, it⟩ := ca_of w5
  have hcn0 : (cn = 0) = False ∧ (ct = 0) = False := by rcases w5 with ⟨rfl, rfl⟩ | ⟨rfl, rfl⟩ <;> simp
  have hham : ∀ N, CaI N cn 100 cs → mI N (cn + 1) t = io (cs t) := fun N h => by obtain ⟨_, _, _, _, _, _, a6⟩ := h; exact a6 t (by omega)
  have e1 := at_ca1 (M := M) ic (show t < 100 by omega)
  rw [hham M hcn] at e1
  unfold zX10_share zX1_amountOf
  simp -dsimp (disch := first | assumption | omega) only [lit_0, lit_1, lit_2, lit_3, lit_4, lit_5, lit_6, lit_7, lit_8, lit_9, lit_10, lit_11, lit_12, lit_13, lit_14, lit_15, lit_16, lit_17, lit_18, lit_19, lit_20, lit_21, lit_22, lit_23, lit_24, lit_25, lit_26, lit_27, lit_28, lit_29, lit_30, lit_31, lit_32, lit_33, lit_34, lit_35, lit_36, lit_37, lit_38, lit_39, lit_40, lit_41, lit_42, lit_43, lit_44, lit_45, lit_46, lit_47, lit_48, lit_49, lit_50, lit_51, lit_52, lit_53, lit_54, lit_55, lit_56, lit_57, lit_58, lit_59, lit_60, lit_61, lit_62, lit_63, lit_64, lit_97, lit_99, lit_100, lit_122, lit_175, lit_176, lit_200, lit_255, lit_400, lit_700, lit_800, lit_999, lit_1000, lit_1400, lit_2000, lit_2033, lit_2038, lit_2100, lit_2124, lit_8000, lit_10000, lit_12345, lit_32767, lit_1000000, lit_1000000000, ↓bndX_h, ↓bndK_h, bxh_inl, bxh_inr, bkh_inl, bkh_inr, Nat.reduceEqDiff, ↓bnd_h, ↓lt_h, ↓ite_h, bh_some, lh_eq, ih_T, ih_F, ne_eq, not_false_eq_true, not_true_eq_false, eq_self, and_true, true_and, io_def, K0_45, K0_ca ic, w1, w0, hcn0.1, w3.1, w3.2, succ_ne, e1, hX.1.2.1, ru_ne, K0_41]
  refine loopW (L := fun f (s : Nat) N => zX10_share_L23 f 45 (io t) (io (cs t)) r (io (cs t - sumN s (ptS (gN v) (gOd v) (allO v) (cs t)))) (io s) N)
    (J := fun s N => s ≤ gN v ∧ GX N r p v sv ∧ CaI N cn 100 cs ∧ CaI N ct 100 (fun u => ds u + pC (gN v) (gOd v) (allO v) (gSi v) (gfS v sv) cs u t s) ∧ mL N 45 3 = lo (G + pG (gN v) (gOd v) (allO v) (gfS v sv) cs t s) ∧ mL N 45 4 = lo (A + pA (gN v) (gOd v) (allO v) (gfS v sv) cs t s) ∧ (∀ o, (o = cn ∨ o = cn + 1 ∨ o = cn + 2) → ∀ k, mI N o k = mI M o k) ∧ Fg [(42, 51)] [] M N)
    (fun s _ => gN v - s) ?_ FU 0 M ⟨Nat.zero_le _, hX, hcn, hct, hG, hA, fun _ _ _ => rfl, Fg.refl⟩ (by rw [FU_val]; omega)
  intro f s N ⟨hs, hX, hcn, hct, hG, hA, hkp, hF⟩ rec
  show Wp (zX10_share_B23 _ _ _ _ _ _ _ _) _
  unfold zX10_share_B23
  obtain ⟨hI, hK⟩ := hX
  have hR : ∀ o k, mR N o k = mR M o k := fun o k => hF.2.2 o rfl k
  have c0 := hI.2.2.2.2.1.1
  simp -dsimp (disch := first | assumption | omega) only [lit_0, lit_1, lit_2, lit_3, lit_4, lit_5, lit_6, lit_7, lit_8, lit_9, lit_10, lit_11, lit_12, lit_13, lit_14, lit_15, lit_16, lit_17, lit_18, lit_19, lit_20, lit_21, lit_22, lit_23, lit_24, lit_25, lit_26, lit_27, lit_28, lit_29, lit_30, lit_31, lit_32, lit_33, lit_34, lit_35, lit_36, lit_37, lit_38, lit_39, lit_40, lit_41, lit_42, lit_43, lit_44, lit_45, lit_46, lit_47, lit_48, lit_49, lit_50, lit_51, lit_52, lit_53, lit_54, lit_55, lit_56, lit_57, lit_58, lit_59, lit_60, lit_61, lit_62, lit_63, lit_64, lit_97, lit_99, lit_100, lit_122, lit_175, lit_176, lit_200, lit_255, lit_400, lit_700, lit_800, lit_999, lit_1000, lit_1400, lit_2000, lit_2033, lit_2038, lit_2100, lit_2124, lit_8000, lit_10000, lit_12345, lit_32767, lit_1000000, lit_1000000000, ↓bndX_h, ↓bndK_h, bxh_inl, bxh_inr, bkh_inl, bkh_inr, Nat.reduceEqDiff, ↓bnd_h, ↓lt_h, ↓ite_h, bh_some, lh_eq, ih_T, ih_F, ne_eq, not_false_eq_true, not_true_eq_false, eq_self, and_true, true_and, io_def, K0_r, K0_r1, K0_r2, K0_r3, K0_r4, K0_r5, K0_r6, ru_ne, PR.p7, PR.p8, PR.p9, PR.p10, PR.p11, PR.p12, at_r1, at_r2, at_r3, at_r4, at_r5, succ_ne, io_add, io_mul, io_sub, io_lt, io_le, io_eq, io_clamp, io_inbT, io_div, io_mod, io_m1, m1_io, m1_lt, m1_le, neg_1, gI_m1, c0]
  refine Wp.csh (fun c => ?_) (fun c => ?_)
  · have es : s = gN v := by omega
    subst es
    exact Wp.ret ⟨⟨hI, hK⟩, hcn, hct, hG, hA, hkp, hF⟩
  · have hs2 : s < gN v := by omega
    have hap := allO_pos hv (by omega)
    have hall : sumN (gN v) (gOd v) = allO v := rfl
    have hpt := pt_upto (a := cs t) (m := s + 1) hall hap (by omega)
    simp only [sumN] at hpt
    have hpo := c_partOf (M := N) hr hv hI.2.2.2.1 hI.2.2.2.2.1 hs2 hle
    have hsub : io (cs t - sumN s (ptS (gN v) (gOd v) (allO v) (cs t))) - io (ptS (gN v) (gOd v) (allO v) (cs t) s) = io (cs t - sumN (s + 1) (ptS (gN v) (gOd v) (allO v) (cs t))) := by
      rw [io_sub (by omega)]
      congr 1
      simp only [sumN]
      omega
    have hgl := (WOK_of (sv := sv) hv).2.2.2.2 s t hs2 ht
    have hgo := goS_lt hgl hsi ht
    have hpcl : ∀ u, pC (gN v) (gOd v) (allO v) (gSi v) (gfS v sv) cs u t s + ptS (gN v) (gOd v) (allO v) (cs t) s ≤ cs t := fun u => Nat.le_trans (Nat.add_le_add_right (sumN_le (fun s _ => by split <;> omega) : _ ≤ sumN s (ptS (gN v) (gOd v) (allO v) (cs t))) _) hpt
    have hk41 : (s * 1) < 8 := by omega
    simp -dsimp (disch := first | assumption | omega) only [lit_0, lit_1, lit_2, lit_3, lit_4, lit_5, lit_6, lit_7, lit_8, lit_9, lit_10, lit_11, lit_12, lit_13, lit_14, lit_15, lit_16, lit_17, lit_18, lit_19, lit_20, lit_21, lit_22, lit_23, lit_24, lit_25, lit_26, lit_27, lit_28, lit_29, lit_30, lit_31, lit_32, lit_33, lit_34, lit_35, lit_36, lit_37, lit_38, lit_39, lit_40, lit_41, lit_42, lit_43, lit_44, lit_45, lit_46, lit_47, lit_48, lit_49, lit_50, lit_51, lit_52, lit_53, lit_54, lit_55, lit_56, lit_57, lit_58, lit_59, lit_60, lit_61, lit_62, lit_63, lit_64, lit_97, lit_99, lit_100, lit_122, lit_175, lit_176, lit_200, lit_255, lit_400, lit_700, lit_800, lit_999, lit_1000, lit_1400, lit_2000, lit_2033, lit_2038, lit_2100, lit_2124, lit_8000, lit_10000, lit_12345, lit_32767, lit_1000000, lit_1000000000, ↓bndX_h, ↓bndK_h, bxh_inl, bxh_inr, bkh_inl, bkh_inr, Nat.reduceEqDiff, ↓bnd_h, ↓lt_h, ↓ite_h, bh_some, lh_eq, ih_T, ih_F, ne_eq, not_false_eq_true, not_true_eq_false, eq_self, and_true, true_and, io_def, hpo, hsub, hR, w0, K0_41]
    refine Wp.seqh (c_giftAt (sp := 0) (Or.inl rfl) hr hp hv hsv hs2 (show t < 100 by omega) (by unfold knN; simp; omega) hI hK) (fun x N2 ⟨a1, a2, a3⟩ => ?_)
    have hF2 : Fg [(42, 51)] [] N N2 := a3.sub (fun o ho => by simp only [ob, Bool.and_true, Bool.or_eq_true, decide_eq_true_eq] at ho ⊢; omega) (fun _ h => h)
    have hI2 := hI.keepW hr hp (hF2.sub (fun _ h => h) (fun _ _ => rfl))
    have oc : ∀ o, (o = cn ∨ o = cn + 1 ∨ o = cn + 2 ∨ o = ct ∨ o = ct + 1 ∨ o = ct + 2) → ob [(41 + 1, 41 + 3)] o = true := by
      intro o ho
      simp only [ob, Bool.and_true, Bool.or_eq_true, decide_eq_true_eq]
      rcases w5 with ⟨rfl, rfl⟩ | ⟨rfl, rfl⟩ <;> omega
    have hcn2 := hcn.keep a3 (oc _ (by omega)) (oc _ (by omega)) (oc _ (by omega))
    have hct2 := hct.keep a3 (oc _ (by omega)) (oc _ (by omega)) (oc _ (by omega))
    have hR2 : ∀ o k, mR N2 o k = mR M o k := fun o k => (a3.2.2 o rfl k).trans (hR o k)
    have hL2 : ∀ k, mL N2 45 k = mL N 45 k := fun k => a3.L rfl (by omega)
    have hkp2 : (∀ o, (o = cn ∨ o = cn + 1 ∨ o = cn + 2) → ∀ k, mI N2 o k = mI M o k) := fun o ho k => by rw [a3.I (oc o (by omega))]; exact hkp o ho k
    subst a1
    -- what add leaves
    have fin : ∀ (u : Nat) (N3 N4 : Mem), u = goS (gSi v) t (gfS v sv s t) → GX N3 r p v sv → CaI N3 cn 100 cs → mL N3 45 3 = lo (G + pG (gN v) (gOd v) (allO v) (gfS v sv) cs t (s + 1)) → mL N3 45 4 = lo (A + pA (gN v) (gOd v) (allO v) (gfS v sv) cs t (s + 1)) → (∀ o, (o = cn ∨ o = cn + 1 ∨ o = cn + 2) → ∀ k, mI N3 o k = mI M o k) → Fg [(42, 51)] [] M N3 →
        CaI N4 ct 100 (fun w => if w = u then ds u + pC (gN v) (gOd v) (allO v) (gSi v) (gfS v sv) cs u t s + ptS (gN v) (gOd v) (allO v) (cs t) s else ds w + pC (gN v) (gOd v) (allO v) (gSi v) (gfS v sv) cs w t s) → Fg [(ct, ct + 2)] [] N3 N4 →
        s + 1 ≤ gN v ∧ GX N4 r p v sv ∧ CaI N4 cn 100 cs ∧ CaI N4 ct 100 (fun u => ds u + pC (gN v) (gOd v) (allO v) (gSi v) (gfS v sv) cs u t (s + 1)) ∧ mL N4 45 3 = lo (G + pG (gN v) (gOd v) (allO v) (gfS v sv) cs t (s + 1)) ∧ mL N4 45 4 = lo (A + pA (gN v) (gOd v) (allO v) (gfS v sv) cs t (s + 1)) ∧ (∀ o, (o = cn ∨ o = cn + 1 ∨ o = cn + 2) → ∀ k, mI N4 o k = mI M o k) ∧ Fg [(42, 51)] [] M N4 := by
      intro u N3 N4 hu b1 b2 b3 b4 bk b5 b6 b7
      have b8 : Fg [(42, 51)] [] N3 N4 := b7.sub (fun o ho => by simp only [ob, Bool.and_true, Bool.or_eq_true, decide_eq_true_eq] at ho ⊢; rcases w5 with ⟨rfl, rfl⟩ | ⟨rfl, rfl⟩ <;> omega) (fun _ h => h)
      have oc2 : ∀ o, (o = 42 ∨ o = 45 ∨ o = cn ∨ o = cn + 1 ∨ o = cn + 2) → ob [(ct, ct + 2)] o = true := by
        intro o ho
        simp only [ob, Bool.and_true, Bool.or_eq_true, decide_eq_true_eq]
        rcases w5 with ⟨rfl, rfl⟩ | ⟨rfl, rfl⟩ <;> omega
      refine ⟨by omega, ⟨b1.1.keepW hr hp (b8.sub (fun _ h => h) (fun _ _ => rfl)), b1.2.keep b7 (oc2 _ (by omega))⟩, b2.keep b7 (oc2 _ (by omega)) (oc2 _ (by omega)) (oc2 _ (by omega)), b6.ext (fun w => ?_), by rw [b7.L (oc2 _ (by omega)) (by omega)]; exact b3, by rw [b7.L (oc2 _ (by omega)) (by omega)]; exact b4, fun o ho k => by rw [b7.I (oc2 _ (by omega))]; exact bk o ho k, b5.trans b8⟩
      show _ = ds w + pC _ _ _ _ _ _ w t (s + 1)
      rw [pC_succ]
      by_cases q : w = u
      · rw [if_pos q, if_pos (by rw [q, hu]), q, Nat.add_assoc]
      · rw [if_neg q, if_neg (fun z => q (z.symm.trans hu.symm)), Nat.add_zero]
    have hadd : ∀ (u : Nat) (N3 : Mem), u < 100 → PCa N3 ct → CaI N3 ct 100 (fun w => ds w + pC (gN v) (gOd v) (allO v) (gSi v) (gfS v sv) cs w t s) → Wp (zX1_add ct (io u) (io (ptS (gN v) (gOd v) (allO v) (cs t) s)) N3) (fun _ N4 => CaI N4 ct 100 (fun w => if w = u then ds u + pC (gN v) (gOd v) (allO v) (gSi v) (gfS v sv) cs u t s + ptS (gN v) (gOd v) (allO v) (cs t) s else ds w + pC (gN v) (gOd v) (allO v) (gSi v) (gfS v sv) cs w t s) ∧ Fg [(ct, ct + 2)] [] N3 N4) := by
      intro u N3 hu hPc hCc
      refine c_add (cs := fun w => ds w + pC (gN v) (gOd v) (allO v) (gSi v) (gfS v sv) cs w t s) it hPc hCc hu ?_
      have h1 := hpcl u
      have h2 := hds u
      show ds u + pC _ _ _ _ _ _ u t s + _ < _
      omega
    unfold zX10_share_B126
    have hgx : giftS v sv s t 0 = gfS v sv s t := rfl
    rw [hgx]
    have hg10 : gfS v sv s t < 2147483648 := by omega
    simp -dsimp (disch := first | assumption | omega) only [lit_0, lit_1, lit_2, lit_3, lit_4, lit_5, lit_6, lit_7, lit_8, lit_9, lit_10, lit_11, lit_12, lit_13, lit_14, lit_15, lit_16, lit_17, lit_18, lit_19, lit_20, lit_21, lit_22, lit_23, lit_24, lit_25, lit_26, lit_27, lit_28, lit_29, lit_30, lit_31, lit_32, lit_33, lit_34, lit_35, lit_36, lit_37, lit_38, lit_39, lit_40, lit_41, lit_42, lit_43, lit_44, lit_45, lit_46, lit_47, lit_48, lit_49, lit_50, lit_51, lit_52, lit_53, lit_54, lit_55, lit_56, lit_57, lit_58, lit_59, lit_60, lit_61, lit_62, lit_63, lit_64, lit_97, lit_99, lit_100, lit_122, lit_175, lit_176, lit_200, lit_255, lit_400, lit_700, lit_800, lit_999, lit_1000, lit_1400, lit_2000, lit_2033, lit_2038, lit_2100, lit_2124, lit_8000, lit_10000, lit_12345, lit_32767, lit_1000000, lit_1000000000, neg_1, ↓bndX_h, ↓bndK_h, bxh_inl, bxh_inr, bkh_inl, bkh_inr, Nat.reduceEqDiff, ↓bnd_h, ↓lt_h, ↓ite_h, bh_some, lh_eq, ih_T, ih_F, ne_eq, not_false_eq_true, not_true_eq_false, eq_self, and_true, true_and, io_def, gI_m1]
    refine Wp.csh (fun c4 => ?_) (fun c4 => ?_)
    · have hp1 : ptS (gN v) (gOd v) (allO v) (cs t) s < 2147483648 := by omega
      simp -dsimp (disch := first | assumption | omega) only [lit_0, lit_1, lit_2, lit_3, lit_4, lit_5, lit_6, lit_7, lit_8, lit_9, lit_10, lit_11, lit_12, lit_13, lit_14, lit_15, lit_16, lit_17, lit_18, lit_19, lit_20, lit_21, lit_22, lit_23, lit_24, lit_25, lit_26, lit_27, lit_28, lit_29, lit_30, lit_31, lit_32, lit_33, lit_34, lit_35, lit_36, lit_37, lit_38, lit_39, lit_40, lit_41, lit_42, lit_43, lit_44, lit_45, lit_46, lit_47, lit_48, lit_49, lit_50, lit_51, lit_52, lit_53, lit_54, lit_55, lit_56, lit_57, lit_58, lit_59, lit_60, lit_61, lit_62, lit_63, lit_64, lit_97, lit_99, lit_100, lit_122, lit_175, lit_176, lit_200, lit_255, lit_400, lit_700, lit_800, lit_999, lit_1000, lit_1400, lit_2000, lit_2033, lit_2038, lit_2100, lit_2124, lit_8000, lit_10000, lit_12345, lit_32767, lit_1000000, lit_1000000000, ↓bndX_h, ↓bndK_h, bxh_inl, bxh_inr, bkh_inl, bkh_inr, Nat.reduceEqDiff, ↓bnd_h, ↓lt_h, ↓ite_h, bh_some, lh_eq, ih_T, ih_F, ne_eq, not_false_eq_true, not_true_eq_false, eq_self, and_true, true_and, io_def, false_and, and_false, if_false, if_true, and_self, mI_sI, mI_sL, mL_sI, mL_sL, mR_sI, mR_sL, hR2, w2, hcn0.2, K0_ca it, hL2, hA, io_lo, lo_add]
      have hP3 : PCa (sL N2 45 4 (lo (A + pA (gN v) (gOd v) (allO v) (gfS v sv) cs t s + ptS (gN v) (gOd v) (allO v) (cs t) s))) ct := ⟨(hR2 ct 0).trans w4.1, (hR2 ct 1).trans w4.2⟩
      refine Wp.seqh (hadd t _ (by omega) hP3 hct2) (fun _ N4 ⟨b1, b2⟩ => ?_)
      simp -dsimp (disch := first | assumption | omega) only [lit_0, lit_1, lit_2, lit_3, lit_4, lit_5, lit_6, lit_7, lit_8, lit_9, lit_10, lit_11, lit_12, lit_13, lit_14, lit_15, lit_16, lit_17, lit_18, lit_19, lit_20, lit_21, lit_22, lit_23, lit_24, lit_25, lit_26, lit_27, lit_28, lit_29, lit_30, lit_31, lit_32, lit_33, lit_34, lit_35, lit_36, lit_37, lit_38, lit_39, lit_40, lit_41, lit_42, lit_43, lit_44, lit_45, lit_46, lit_47, lit_48, lit_49, lit_50, lit_51, lit_52, lit_53, lit_54, lit_55, lit_56, lit_57, lit_58, lit_59, lit_60, lit_61, lit_62, lit_63, lit_64, lit_97, lit_99, lit_100, lit_122, lit_175, lit_176, lit_200, lit_255, lit_400, lit_700, lit_800, lit_999, lit_1000, lit_1400, lit_2000, lit_2033, lit_2038, lit_2100, lit_2124, lit_8000, lit_10000, lit_12345, lit_32767, lit_1000000, lit_1000000000, ↓bndX_h, ↓bndK_h, bxh_inl, bxh_inr, bkh_inl, bkh_inr, Nat.reduceEqDiff, ↓bnd_h, ↓lt_h, ↓ite_h, bh_some, lh_eq, ih_T, ih_F, ne_eq, not_false_eq_true, not_true_eq_false, eq_self, and_true, true_and, io_def, io_add, io_mul, io_sub, io_lt, io_le, io_eq, io_clamp, io_inbT, io_div, io_mod, io_m1, m1_io, m1_lt, m1_le, neg_1, gI_m1]
      refine rec (s + 1) N4 (fin t (sL N2 45 4 (lo (A + pA (gN v) (gOd v) (allO v) (gfS v sv) cs t s + ptS (gN v) (gOd v) (allO v) (cs t) s))) N4 ?_ ⟨hI2, a2⟩ hcn2 ?_ ?_ hkp2 ((hF.trans hF2).sL (Or.inl rfl)) b1 b2) (by omega)
      · rw [c4]; rfl
      · rw [mL_sL, if_neg (by omega), hL2, hG]
        congr 2
        rw [pG_succ, c4]
        rfl
      · rw [mL_sL, if_pos ⟨rfl, rfl⟩]
        congr 1
        rw [pA_succ, if_pos c4, Nat.add_assoc]
    · obtain ⟨y, hy⟩ : ∃ y, gfS v sv s t = y + 1 := ⟨gfS v sv s t - 1, by omega⟩
      have egi : gI (gfS v sv s t) = io y := by rw [hy]; rfl
      have hp1 : ptS (gN v) (gOd v) (allO v) (cs t) s < 2147483648 := by omega
      have hcb : ∀ N3 : Mem, CG N3 r v → zX8_stateBehind r (io t) (io y) N3 = some (io (behS (gSi v) t y), N3) := fun N3 h => c_behind hr hv h (by omega) (by omega)
      have hcb2 := hcb (sL N2 45 3 (lo (G + pG (gN v) (gOd v) (allO v) (gfS v sv) cs t s + ptS (gN v) (gOd v) (allO v) (cs t) s * y))) hI2.2.2.2.2.1
      simp -dsimp (disch := first | assumption | omega) only [lit_0, lit_1, lit_2, lit_3, lit_4, lit_5, lit_6, lit_7, lit_8, lit_9, lit_10, lit_11, lit_12, lit_13, lit_14, lit_15, lit_16, lit_17, lit_18, lit_19, lit_20, lit_21, lit_22, lit_23, lit_24, lit_25, lit_26, lit_27, lit_28, lit_29, lit_30, lit_31, lit_32, lit_33, lit_34, lit_35, lit_36, lit_37, lit_38, lit_39, lit_40, lit_41, lit_42, lit_43, lit_44, lit_45, lit_46, lit_47, lit_48, lit_49, lit_50, lit_51, lit_52, lit_53, lit_54, lit_55, lit_56, lit_57, lit_58, lit_59, lit_60, lit_61, lit_62, lit_63, lit_64, lit_97, lit_99, lit_100, lit_122, lit_175, lit_176, lit_200, lit_255, lit_400, lit_700, lit_800, lit_999, lit_1000, lit_1400, lit_2000, lit_2033, lit_2038, lit_2100, lit_2124, lit_8000, lit_10000, lit_12345, lit_32767, lit_1000000, lit_1000000000, ↓bndX_h, ↓bndK_h, bxh_inl, bxh_inr, bkh_inl, bkh_inr, Nat.reduceEqDiff, ↓bnd_h, ↓lt_h, ↓ite_h, bh_some, lh_eq, ih_T, ih_F, ne_eq, not_false_eq_true, not_true_eq_false, eq_self, and_true, true_and, io_def, false_and, and_false, if_false, if_true, and_self, mI_sI, mI_sL, mL_sI, mL_sL, mR_sI, mR_sL, hR2, w2, hcn0.2, K0_ca it, hL2, hG, egi, io_lo, lo_add, lo_mul, hcb2]
      have hP3 : PCa (sL N2 45 3 (lo (G + pG (gN v) (gOd v) (allO v) (gfS v sv) cs t s + ptS (gN v) (gOd v) (allO v) (cs t) s * y))) ct := ⟨(hR2 ct 0).trans w4.1, (hR2 ct 1).trans w4.2⟩
      have hbe : behS (gSi v) t y = goS (gSi v) t (gfS v sv s t) := by rw [hy]; rfl
      refine Wp.seqh (hadd (behS (gSi v) t y) _ (by omega) hP3 hct2) (fun _ N4 ⟨b1, b2⟩ => ?_)
      simp -dsimp (disch := first | assumption | omega) only [lit_0, lit_1, lit_2, lit_3, lit_4, lit_5, lit_6, lit_7, lit_8, lit_9, lit_10, lit_11, lit_12, lit_13, lit_14, lit_15, lit_16, lit_17, lit_18, lit_19, lit_20, lit_21, lit_22, lit_23, lit_24, lit_25, lit_26, lit_27, lit_28, lit_29, lit_30, lit_31, lit_32, lit_33, lit_34, lit_35, lit_36, lit_37, lit_38, lit_39, lit_40, lit_41, lit_42, lit_43, lit_44, lit_45, lit_46, lit_47, lit_48, lit_49, lit_50, lit_51, lit_52, lit_53, lit_54, lit_55, lit_56, lit_57, lit_58, lit_59, lit_60, lit_61, lit_62, lit_63, lit_64, lit_97, lit_99, lit_100, lit_122, lit_175, lit_176, lit_200, lit_255, lit_400, lit_700, lit_800, lit_999, lit_1000, lit_1400, lit_2000, lit_2033, lit_2038, lit_2100, lit_2124, lit_8000, lit_10000, lit_12345, lit_32767, lit_1000000, lit_1000000000, ↓bndX_h, ↓bndK_h, bxh_inl, bxh_inr, bkh_inl, bkh_inr, Nat.reduceEqDiff, ↓bnd_h, ↓lt_h, ↓ite_h, bh_some, lh_eq, ih_T, ih_F, ne_eq, not_false_eq_true, not_true_eq_false, eq_self, and_true, true_and, io_def, io_add, io_mul, io_sub, io_lt, io_le, io_eq, io_clamp, io_inbT, io_div, io_mod, io_m1, m1_io, m1_lt, m1_le, neg_1, gI_m1]
      refine rec (s + 1) N4 (fin _ (sL N2 45 3 (lo (G + pG (gN v) (gOd v) (allO v) (gfS v sv) cs t s + ptS (gN v) (gOd v) (allO v) (cs t) s * y))) N4 hbe ⟨hI2, a2⟩ hcn2 ?_ ?_ hkp2 ((hF.trans hF2).sL (Or.inl rfl)) b1 b2) (by omega)
      · rw [mL_sL, if_pos ⟨rfl, rfl⟩]
        congr 1
        rw [pG_succ, Nat.add_assoc, hy]
        rfl
      · rw [mL_sL, if_neg (by omega), hL2, hA]
        congr 2
        rw [pA_succ, if_neg c4]
        rfl
