/-! ===== LEVEL 2: what a BOOK tells of the SORTS ===== -/
def staS (si : Nat) (b : BV) : Nat → Nat
  | 0 => bSe b
  | i + 1 => behS si (staS si b i) (bGi b i)
/-- who EXPLAINS a GIFT in a STATE, of the first m SORTS, as bits -/
def whoS (v : GV) (sv : SV) (gi st : Nat) : Nat → Nat
  | 0 => 0
  | s + 1 => whoS v sv gi st s + (if gfS v sv s st = gi + 1 then 2 ^ s else 0)
def mskS (v : GV) (sv : SV) (b : BV) (i : Nat) : Nat := whoS v sv (bGi b i) (staS (gSi v) b i) (gN v)
theorem whoS_lt {v : GV} {sv : SV} {gi st : Nat} : ∀ s, whoS v sv gi st s < 2 ^ s
  | 0 => (Nat.zero_lt_one : 0 < 1)
  | s + 1 => by
    have := whoS_lt (v := v) (sv := sv) (gi := gi) (st := st) s
    show whoS v sv gi st s + (if _ then _ else _) < 2 ^ (s + 1)
    rw [Nat.pow_succ]
    generalize 2 ^ s = w at this ⊢
    split <;> omega
theorem mskS_lt {v : GV} {sv : SV} {b : BV} {i : Nat} (hv : okG v) : mskS v sv b i < 256 :=
  Nat.lt_of_lt_of_le (whoS_lt _) (Nat.pow_le_pow_right (by decide) (okG_n hv) : 2 ^ gN v ≤ 2 ^ 8)
theorem staS_lt {v : GV} {b : BV} (hv : okG v) (hb : okB v b) : ∀ i, i ≤ bLe b → staS (gSi v) b i < stN (gSi v)
  | 0, _ => hb.1
  | i + 1, h => behS_lt (hb.2.2.2.1 i (by omega)) (okG_si hv)
theorem or_dec : ∀ s : Fin 8, ∀ m : Fin 256, m.val < 2 ^ s.val → (io m.val ||| (io 1 <<< (io s.val &&& io 31))) = io (m.val + 2 ^ s.val) := by decide +kernel
theorem or_bit {s m : Nat} (hs : s < 8) (hm : m < 2 ^ s) : (io m ||| (io 1 <<< (io s &&& io 31))) = io (m + 2 ^ s) :=
  or_dec ⟨s, hs⟩ ⟨m, Nat.lt_of_lt_of_le hm (Nat.le_trans (Nat.pow_le_pow_right (by decide) (show s ≤ 8 by omega)) (by decide))⟩ hm
theorem or_zero_dec : ∀ m : Fin 256, (io m.val ||| io 0) = io m.val := by decide +kernel
theorem gI_eq_io {x a : Nat} (hx : x < 2147483648) (ha : a < 2147483648) : (gI x = io a) = (x = a + 1) := by
  unfold gI
  by_cases e : x = 0
  · rw [if_pos e, m1_io2 ha, e]
    exact propext ⟨fun h => h.elim, fun h => by omega⟩
  · rw [if_neg e, io_eq (by omega) ha]
    exact propext ⟨fun h => by omega, fun h => by omega⟩
theorem c_whoGives {M : Mem} {r p gi st : Nat} {v : GV} {sv : SV} (hr : isRu r) (hp : isSe p) (hv : okG v) (hsv : okS sv) (hX : GX M r p v sv) (h66 : mR M 66 0 = 41) (hst : st < stN (gSi v)) (hgi : gi ≤ 9) :
    Wp (zX2_whoGives 66 (io gi) (io st) M) (fun x M' => x = io (whoS v sv gi st (gN v)) ∧ GX M' r p v sv ∧ Fg [(42, 44)] [] M M') := by
  have hn := okG_n hv
  have hs100 := stN_le (gSi v)
  unfold zX2_whoGives
  simp -dsimp (disch := first | assumption | omega) only [lit_0, lit_1, lit_2, lit_3, lit_4, lit_5, lit_6, lit_7, lit_8, lit_9, lit_10, lit_11, lit_12, lit_13, lit_14, lit_15, lit_16, lit_17, lit_18, lit_19, lit_20, lit_21, lit_22, lit_23, lit_24, lit_25, lit_26, lit_27, lit_28, lit_29, lit_30, lit_31, lit_32, lit_33, lit_34, lit_35, lit_36, lit_37, lit_38, lit_39, lit_40, lit_41, lit_42, lit_43, lit_44, lit_45, lit_46, lit_47, lit_48, lit_49, lit_50, lit_51, lit_52, lit_53, lit_54, lit_55, lit_56, lit_57, lit_58, lit_59, lit_60, lit_61, lit_62, lit_63, lit_64, lit_97, lit_99, lit_100, lit_122, lit_175, lit_176, lit_200, lit_255, lit_400, lit_700, lit_800, lit_999, lit_1000, lit_1400, lit_2000, lit_2033, lit_2038, lit_2100, lit_2124, lit_8000, lit_10000, lit_12345, lit_32767, lit_1000000, lit_1000000000, ↓bndX_h, ↓bndK_h, bxh_inl, bxh_inr, bkh_inl, bkh_inr, Nat.reduceEqDiff, ↓bnd_h, ↓lt_h, ↓ite_h, bh_some, lh_eq, ih_T, ih_F, ne_eq, not_false_eq_true, not_true_eq_false, eq_self, and_true, true_and, io_def, K0_66]
  refine loopW (L := fun f (s : Nat) N => zX2_whoGives_L5 f 66 (io gi) (io st) (io (whoS v sv gi st s)) (io s) N) (J := fun s N => s ≤ gN v ∧ GX N r p v sv ∧ Fg [(42, 44)] [] M N) (fun s _ => gN v - s) ?_ FU 0 M ⟨Nat.zero_le _, hX, Fg.refl⟩ (by rw [FU_val]; omega)
  intro f s N ⟨hs, hX, hF⟩ rec
  show Wp (zX2_whoGives_B5 _ _ _ _ _ _ _) _
  unfold zX2_whoGives_B5 zX2_whoGives_B42
  have e66 : mR N 66 0 = 41 := (hF.2.2 _ rfl _).trans h66
  have c0 := hX.1.2.2.2.2.1.1
  have e41 := hX.1.2.1
  simp -dsimp (disch := first | assumption | omega) only [lit_0, lit_1, lit_2, lit_3, lit_4, lit_5, lit_6, lit_7, lit_8, lit_9, lit_10, lit_11, lit_12, lit_13, lit_14, lit_15, lit_16, lit_17, lit_18, lit_19, lit_20, lit_21, lit_22, lit_23, lit_24, lit_25, lit_26, lit_27, lit_28, lit_29, lit_30, lit_31, lit_32, lit_33, lit_34, lit_35, lit_36, lit_37, lit_38, lit_39, lit_40, lit_41, lit_42, lit_43, lit_44, lit_45, lit_46, lit_47, lit_48, lit_49, lit_50, lit_51, lit_52, lit_53, lit_54, lit_55, lit_56, lit_57, lit_58, lit_59, lit_60, lit_61, lit_62, lit_63, lit_64, lit_97, lit_99, lit_100, lit_122, lit_175, lit_176, lit_200, lit_255, lit_400, lit_700, lit_800, lit_999, lit_1000, lit_1400, lit_2000, lit_2033, lit_2038, lit_2100, lit_2124, lit_8000, lit_10000, lit_12345, lit_32767, lit_1000000, lit_1000000000, ↓bndX_h, ↓bndK_h, bxh_inl, bxh_inr, bkh_inl, bkh_inr, Nat.reduceEqDiff, ↓bnd_h, ↓lt_h, ↓ite_h, bh_some, lh_eq, ih_T, ih_F, ne_eq, not_false_eq_true, not_true_eq_false, eq_self, and_true, true_and, io_def, io_add, io_mul, io_sub, io_lt, io_le, io_eq, io_clamp, io_inbT, io_div, io_mod, io_m1, m1_io, m1_lt, m1_le, neg_1, gI_m1, K0_r, K0_r1, K0_r2, K0_r3, K0_r4, K0_r5, K0_r6, ru_ne, PR.p7, PR.p8, PR.p9, PR.p10, PR.p11, PR.p12, at_r1, at_r2, at_r3, at_r4, at_r5, succ_ne, e66, K0_41, e41, c0]
  refine Wp.csh (fun c => ?_) (fun c => ?_)
  · rw [show gN v = s by omega]
    exact Wp.ret ⟨rfl, hX, hF⟩
  · have hs2 : s < gN v := by omega
    simp -dsimp (disch := first | assumption | omega) only [lit_0, lit_1, lit_2, lit_3, lit_4, lit_5, lit_6, lit_7, lit_8, lit_9, lit_10, lit_11, lit_12, lit_13, lit_14, lit_15, lit_16, lit_17, lit_18, lit_19, lit_20, lit_21, lit_22, lit_23, lit_24, lit_25, lit_26, lit_27, lit_28, lit_29, lit_30, lit_31, lit_32, lit_33, lit_34, lit_35, lit_36, lit_37, lit_38, lit_39, lit_40, lit_41, lit_42, lit_43, lit_44, lit_45, lit_46, lit_47, lit_48, lit_49, lit_50, lit_51, lit_52, lit_53, lit_54, lit_55, lit_56, lit_57, lit_58, lit_59, lit_60, lit_61, lit_62, lit_63, lit_64, lit_97, lit_99, lit_100, lit_122, lit_175, lit_176, lit_200, lit_255, lit_400, lit_700, lit_800, lit_999, lit_1000, lit_1400, lit_2000, lit_2033, lit_2038, lit_2100, lit_2124, lit_8000, lit_10000, lit_12345, lit_32767, lit_1000000, lit_1000000000, ↓bndX_h, ↓bndK_h, bxh_inl, bxh_inr, bkh_inl, bkh_inr, Nat.reduceEqDiff, ↓bnd_h, ↓lt_h, ↓ite_h, bh_some, lh_eq, ih_T, ih_F, ne_eq, not_false_eq_true, not_true_eq_false, eq_self, and_true, true_and, io_def, io_add, io_mul, io_sub, io_lt, io_le, io_eq, io_clamp, io_inbT, io_div, io_mod, io_m1, m1_io, m1_lt, m1_le, neg_1, gI_m1, e66, K0_41]
    refine Wp.seqh (c_giftAt (sp := 0) (Or.inl rfl) hr hp hv hsv hs2 (show st < 100 by omega) (by unfold knN; simp; omega) hX.1 hX.2) (fun x N2 ⟨d1, d2, d3⟩ => ?_)
    have hgl := (WOK_of (sv := sv) hv).2.2.2.2 s st hs2 hst
    have hgx : giftS v sv s st 0 = gfS v sv s st := rfl
    rw [hgx] at d1
    subst d1
    have k1 : GX N2 r p v sv := ⟨hX.1.keep (Or.inl rfl) hr hp d3, d2⟩
    have rr := rec (s + 1) N2 ⟨by omega, k1, hF.trans d3⟩ (by omega)
    have hw : whoS v sv gi st (s + 1) = whoS v sv gi st s + (if gfS v sv s st = gi + 1 then 2 ^ s else 0) := rfl
    rw [hw] at rr
    simp -dsimp (disch := first | assumption | omega) only [lit_0, lit_1, lit_2, lit_3, lit_4, lit_5, lit_6, lit_7, lit_8, lit_9, lit_10, lit_11, lit_12, lit_13, lit_14, lit_15, lit_16, lit_17, lit_18, lit_19, lit_20, lit_21, lit_22, lit_23, lit_24, lit_25, lit_26, lit_27, lit_28, lit_29, lit_30, lit_31, lit_32, lit_33, lit_34, lit_35, lit_36, lit_37, lit_38, lit_39, lit_40, lit_41, lit_42, lit_43, lit_44, lit_45, lit_46, lit_47, lit_48, lit_49, lit_50, lit_51, lit_52, lit_53, lit_54, lit_55, lit_56, lit_57, lit_58, lit_59, lit_60, lit_61, lit_62, lit_63, lit_64, lit_97, lit_99, lit_100, lit_122, lit_175, lit_176, lit_200, lit_255, lit_400, lit_700, lit_800, lit_999, lit_1000, lit_1400, lit_2000, lit_2033, lit_2038, lit_2100, lit_2124, lit_8000, lit_10000, lit_12345, lit_32767, lit_1000000, lit_1000000000, ↓bndX_h, ↓bndK_h, bxh_inl, bxh_inr, bkh_inl, bkh_inr, Nat.reduceEqDiff, ↓bnd_h, ↓lt_h, ↓ite_h, bh_some, lh_eq, ih_T, ih_F, ne_eq, not_false_eq_true, not_true_eq_false, eq_self, and_true, true_and, io_def, io_add, io_mul, io_sub, io_lt, io_le, io_eq, io_clamp, io_inbT, io_div, io_mod, io_m1, m1_io, m1_lt, m1_le, neg_1, gI_m1, gI_eq_io]
    refine Wp.csh (fun c4 => ?_) (fun c4 => ?_)
    · rw [if_pos c4] at rr
      simp -dsimp (disch := first | assumption | omega) only [lit_0, lit_1, lit_2, lit_3, lit_4, lit_5, lit_6, lit_7, lit_8, lit_9, lit_10, lit_11, lit_12, lit_13, lit_14, lit_15, lit_16, lit_17, lit_18, lit_19, lit_20, lit_21, lit_22, lit_23, lit_24, lit_25, lit_26, lit_27, lit_28, lit_29, lit_30, lit_31, lit_32, lit_33, lit_34, lit_35, lit_36, lit_37, lit_38, lit_39, lit_40, lit_41, lit_42, lit_43, lit_44, lit_45, lit_46, lit_47, lit_48, lit_49, lit_50, lit_51, lit_52, lit_53, lit_54, lit_55, lit_56, lit_57, lit_58, lit_59, lit_60, lit_61, lit_62, lit_63, lit_64, lit_97, lit_99, lit_100, lit_122, lit_175, lit_176, lit_200, lit_255, lit_400, lit_700, lit_800, lit_999, lit_1000, lit_1400, lit_2000, lit_2033, lit_2038, lit_2100, lit_2124, lit_8000, lit_10000, lit_12345, lit_32767, lit_1000000, lit_1000000000, ↓bndX_h, ↓bndK_h, bxh_inl, bxh_inr, bkh_inl, bkh_inr, Nat.reduceEqDiff, ↓bnd_h, ↓lt_h, ↓ite_h, bh_some, lh_eq, ih_T, ih_F, ne_eq, not_false_eq_true, not_true_eq_false, eq_self, and_true, true_and, io_def, io_add, io_mul, io_sub, io_lt, io_le, io_eq, io_clamp, io_inbT, io_div, io_mod, io_m1, m1_io, m1_lt, m1_le, neg_1, gI_m1, or_bit (show s < 8 by omega) (whoS_lt s)]
      exact rr
    · rw [if_neg c4, Nat.add_zero] at rr
      simp -dsimp (disch := first | assumption | omega) only [lit_0, lit_1, lit_2, lit_3, lit_4, lit_5, lit_6, lit_7, lit_8, lit_9, lit_10, lit_11, lit_12, lit_13, lit_14, lit_15, lit_16, lit_17, lit_18, lit_19, lit_20, lit_21, lit_22, lit_23, lit_24, lit_25, lit_26, lit_27, lit_28, lit_29, lit_30, lit_31, lit_32, lit_33, lit_34, lit_35, lit_36, lit_37, lit_38, lit_39, lit_40, lit_41, lit_42, lit_43, lit_44, lit_45, lit_46, lit_47, lit_48, lit_49, lit_50, lit_51, lit_52, lit_53, lit_54, lit_55, lit_56, lit_57, lit_58, lit_59, lit_60, lit_61, lit_62, lit_63, lit_64, lit_97, lit_99, lit_100, lit_122, lit_175, lit_176, lit_200, lit_255, lit_400, lit_700, lit_800, lit_999, lit_1000, lit_1400, lit_2000, lit_2033, lit_2038, lit_2100, lit_2124, lit_8000, lit_10000, lit_12345, lit_32767, lit_1000000, lit_1000000000, ↓bndX_h, ↓bndK_h, bxh_inl, bxh_inr, bkh_inl, bkh_inr, Nat.reduceEqDiff, ↓bnd_h, ↓lt_h, ↓ite_h, bh_some, lh_eq, ih_T, ih_F, ne_eq, not_false_eq_true, not_true_eq_false, eq_self, and_true, true_and, io_def, io_add, io_mul, io_sub, io_lt, io_le, io_eq, io_clamp, io_inbT, io_div, io_mod, io_m1, m1_io, m1_lt, m1_le, neg_1, gI_m1]
      exact rr
theorem GX.keep66 {M M' : Mem} {r p : Nat} {v : GV} {sv : SV} (hr : isRu r) (hp : isSe p) (h : GX M r p v sv) (hF : Fg [(66, 70)] [] M M') : GX M' r p v sv := by
  obtain ⟨h, hK⟩ := h
  refine ⟨?_, hK.keep hF rfl⟩
  have hR : ∀ o k, mR M' o k = mR M o k := fun o k => hF.2.2 o rfl k
  have hr' : ∀ k, k ≤ 5 → ∀ j, mI M' (r + k) j = mI M (r + k) j := fun k hk j => hF.I (by simp only [ob, Bool.and_true, Bool.and_eq_true, Bool.or_eq_true, decide_eq_true_eq]; rcases hr with rfl | rfl | rfl <;> omega)
  have hp' : ∀ j, mI M' p j = mI M p j := fun j => hF.I (by simp only [ob, Bool.and_true, Bool.and_eq_true, Bool.or_eq_true, decide_eq_true_eq]; rcases hp with rfl | rfl | rfl | rfl <;> omega)
  have hr0 : ∀ j, mI M' r j = mI M r j := hr' 0 (by omega)
  obtain ⟨h1, h2, h3, h4, h5, h6⟩ := h
  refine ⟨?_, ?_, ?_, ?_, ?_, ?_⟩
  · simpa only [PG, hR] using h1
  · simpa only [hR] using h2
  · simpa only [hR] using h3
  · simpa only [PR, hR] using h4
  · simpa only [CG, hr0, hr' 1 (by omega), hr' 2 (by omega), hr' 3 (by omega), hr' 4 (by omega), hr' 5 (by omega)] using h5
  · simpa only [CS, hp'] using h6
/-- the class has read the BOOK b -/
def CR (M : Mem) (v : GV) (sv : SV) (b : BV) : Prop := mI M 66 3 = io (bLe b) ∧ (∀ i, i < bLe b → mI M 67 i = io (staS (gSi v) b i) ∧ mI M 68 i = io (mskS v sv b i))
theorem c_readClues {M : Mem} {R : Nat → Nat} {V : VV} {g : Nat} (hV : okV V) (hIp : ICp M R V) (hIs : ICs M) (hg : g < 2) :
    Wp (zX11_readClues 1 (gid g) M) (fun _ M' => CR M' (vG V g) (vS V g) (vB V g) ∧ ICp M' R V ∧ ICs M' ∧ FS M M') := by
  obtain ⟨hvg, hvs, hvb, -⟩ := hV.1 g hg
  obtain ⟨hC, hS, hB, -⟩ := hIp.2.2.1 g hg
  have hP1 := hIp.1
  have r0 := hIp.2.1.r0 hg
  have hru := hIp.2.1.ru hg
  have hse := isSe_of hru
  have hPR := hP1.PR hru
  have hs100 := stN_le (gSi (vG V g))
  have hle := hvb.2.2.1
  unfold zX11_readClues
  simp -dsimp (disch := first | assumption | omega) only [neg_1, lit_0, lit_1, lit_2, lit_3, lit_4, lit_5, lit_6, lit_7, lit_8, lit_9, lit_10, lit_11, lit_12, lit_13, lit_14, lit_15, lit_16, lit_17, lit_18, lit_19, lit_20, lit_21, lit_22, lit_23, lit_24, lit_25, lit_26, lit_27, lit_28, lit_29, lit_30, lit_31, lit_32, lit_33, lit_34, lit_35, lit_36, lit_37, lit_38, lit_39, lit_40, lit_41, lit_42, lit_43, lit_44, lit_45, lit_46, lit_47, lit_48, lit_49, lit_50, lit_51, lit_52, lit_53, lit_54, lit_55, lit_56, lit_57, lit_58, lit_59, lit_60, lit_61, lit_62, lit_63, lit_64, lit_97, lit_99, lit_100, lit_122, lit_175, lit_176, lit_200, lit_255, lit_400, lit_700, lit_800, lit_999, lit_1000, lit_1400, lit_2000, lit_2033, lit_2038, lit_2100, lit_2124, lit_8000, lit_10000, lit_12345, lit_32767, lit_1000000, lit_1000000000, ↓bndX_h, ↓bndK_h, bxh_inl, bxh_inr, bkh_inl, bkh_inr, Nat.reduceEqDiff, ↓bnd_h, ↓lt_h, ↓ite_h, bh_some, lh_eq, ih_T, ih_F, ne_eq, not_false_eq_true, not_true_eq_false, eq_self, and_true, true_and, io_def, io_add, io_mul, io_sub, io_lt, io_le, io_eq, io_clamp, io_inbT, io_div, io_mod, io_m1, m1_io, m1_lt, m1_le, neg_1, gI_m1, K0_1, PC1.p1_0, PC1.p1_1, PC1.p1_2, PC1.p1_3, PC1.p1_4, PC1.p1_7, PC1.p1_8, PC1.p1_9, PC1.p1_10, PC1.p1_11, PC1.p1_12, K0_2, K0_39, K0_40, K0_41, K0_45, K0_52, K0_63, K0_66, K0_71, K0_gid, gid_ne, K0_bid, bid_ne, K0_kid, kid_ne, K0_bid1, K0_bid2, K0_kid1, K0_kid2, GP.r1, GP.r2, GP.b5, GP.b6, GP.k5, GP.k6, c_gateOf, succ_ne, c_ask_in, c_ask_out, c_askn_in, c_askn_out, c_range_in, c_range_out, K0_r, K0_r1, K0_r2, K0_r3, K0_r4, K0_r5, K0_r6, ru_ne, PR.p7, PR.p8, PR.p9, PR.p10, PR.p11, PR.p12, at_r1, at_r2, at_r3, at_r4, at_r5, succ_ne, K0_se, se_ne, K0_r6, r0]
  refine Wp.seqh (c_gbegin hIp hIs hru hse hC hS) (fun _ M1 ⟨a1, a2, a3, a4⟩ => ?_)
  have hP1' := a2.1
  simp -dsimp (disch := first | assumption | omega) only [neg_1, lit_0, lit_1, lit_2, lit_3, lit_4, lit_5, lit_6, lit_7, lit_8, lit_9, lit_10, lit_11, lit_12, lit_13, lit_14, lit_15, lit_16, lit_17, lit_18, lit_19, lit_20, lit_21, lit_22, lit_23, lit_24, lit_25, lit_26, lit_27, lit_28, lit_29, lit_30, lit_31, lit_32, lit_33, lit_34, lit_35, lit_36, lit_37, lit_38, lit_39, lit_40, lit_41, lit_42, lit_43, lit_44, lit_45, lit_46, lit_47, lit_48, lit_49, lit_50, lit_51, lit_52, lit_53, lit_54, lit_55, lit_56, lit_57, lit_58, lit_59, lit_60, lit_61, lit_62, lit_63, lit_64, lit_97, lit_99, lit_100, lit_122, lit_175, lit_176, lit_200, lit_255, lit_400, lit_700, lit_800, lit_999, lit_1000, lit_1400, lit_2000, lit_2033, lit_2038, lit_2100, lit_2124, lit_8000, lit_10000, lit_12345, lit_32767, lit_1000000, lit_1000000000, ↓bndX_h, ↓bndK_h, bxh_inl, bxh_inr, bkh_inl, bkh_inr, Nat.reduceEqDiff, ↓bnd_h, ↓lt_h, ↓ite_h, bh_some, lh_eq, ih_T, ih_F, ne_eq, not_false_eq_true, not_true_eq_false, eq_self, and_true, true_and, io_def, io_add, io_mul, io_sub, io_lt, io_le, io_eq, io_clamp, io_inbT, io_div, io_mod, io_m1, m1_io, m1_lt, m1_le, neg_1, gI_m1, K0_1, PC1.p1_0, PC1.p1_1, PC1.p1_2, PC1.p1_3, PC1.p1_4, PC1.p1_7, PC1.p1_8, PC1.p1_9, PC1.p1_10, PC1.p1_11, PC1.p1_12, K0_2, K0_39, K0_40, K0_41, K0_45, K0_52, K0_63, K0_66, K0_71, K0_gid, gid_ne, K0_bid, bid_ne, K0_kid, kid_ne, K0_bid1, K0_bid2, K0_kid1, K0_kid2, GP.r1, GP.r2, GP.b5, GP.b6, GP.k5, GP.k6, c_gateOf, succ_ne, c_ask_in, c_ask_out, c_askn_in, c_askn_out, c_range_in, c_range_out, K0_r, K0_r1, K0_r2, K0_r3, K0_r4, K0_r5, K0_r6, ru_ne, PR.p7, PR.p8, PR.p9, PR.p10, PR.p11, PR.p12, at_r1, at_r2, at_r3, at_r4, at_r5, succ_ne, K0_se, se_ne, K0_r6]
  refine Wp.seqh (P := fun _ M' => CR M' (vG V g) (vS V g) (vB V g) ∧ Fg [(42, 44), (66, 68)] [] M1 M') ?_ (fun _ M2 ⟨b1, b2⟩ => ?_)
  · unfold zX2_read
    obtain ⟨e0, e1, e2, -⟩ := (a2.2.2.1 g hg).2.2.1
    have hb66 : (bid g = 66) = False := eq_false (by unfold bid; split <;> omega)
    generalize hFU : FU = fu
    rw [FU_val] at hFU
    simp -dsimp (disch := first | assumption | omega) only [lit_0, lit_1, lit_2, lit_3, lit_4, lit_5, lit_6, lit_7, lit_8, lit_9, lit_10, lit_11, lit_12, lit_13, lit_14, lit_15, lit_16, lit_17, lit_18, lit_19, lit_20, lit_21, lit_22, lit_23, lit_24, lit_25, lit_26, lit_27, lit_28, lit_29, lit_30, lit_31, lit_32, lit_33, lit_34, lit_35, lit_36, lit_37, lit_38, lit_39, lit_40, lit_41, lit_42, lit_43, lit_44, lit_45, lit_46, lit_47, lit_48, lit_49, lit_50, lit_51, lit_52, lit_53, lit_54, lit_55, lit_56, lit_57, lit_58, lit_59, lit_60, lit_61, lit_62, lit_63, lit_64, lit_97, lit_99, lit_100, lit_122, lit_175, lit_176, lit_200, lit_255, lit_400, lit_700, lit_800, lit_999, lit_1000, lit_1400, lit_2000, lit_2033, lit_2038, lit_2100, lit_2124, lit_8000, lit_10000, lit_12345, lit_32767, lit_1000000, lit_1000000000, ↓bndX_h, ↓bndK_h, bxh_inl, bxh_inr, bkh_inl, bkh_inr, Nat.reduceEqDiff, ↓bnd_h, ↓lt_h, ↓ite_h, bh_some, lh_eq, ih_T, ih_F, ne_eq, not_false_eq_true, not_true_eq_false, eq_self, and_true, true_and, io_def, false_and, and_false, if_false, if_true, and_self, mI_sI, mI_sL, mL_sI, mL_sL, mR_sI, mR_sL, K0_66, K0_bid, e2, e0, hb66]
    refine loopW (L := fun f (i : Nat) N => zX2_read_L15 f 66 (bid g) (io (staS (gSi (vG V g)) (vB V g) i)) (io i) N)
      (J := fun i N => i ≤ bLe (vB V g) ∧ GX N (R g) (R g + 6) (vG V g) (vS V g) ∧ mI N 66 3 = io (bLe (vB V g)) ∧ (∀ j, j < i → mI N 67 j = io (staS (gSi (vG V g)) (vB V g) j) ∧ mI N 68 j = io (mskS (vG V g) (vS V g) (vB V g) j)) ∧ Fg [(42, 44), (66, 68)] [] M1 N)
      (fun i _ => bLe (vB V g) - i) ?_ fu 0 (sI M1 66 3 (io (bLe (vB V g)))) ⟨Nat.zero_le _, ?_, by simp [mI_sI], fun j hj => absurd hj (Nat.not_lt_zero _), Fg.refl.sI rfl⟩ (by omega)
    · intro f i N ⟨hi, hX, h3, hall, hF⟩ rec
      show Wp (zX2_read_B15 _ _ _ _ _ _) _
      unfold zX2_read_B15
      have hR : ∀ o k, mR N o k = mR M1 o k := fun o k => hF.2.2 o rfl k
      have p660 : mR N 66 0 = 41 := (hR _ _).trans a3.1.p66_0
      have p661 : mR N 66 1 = 67 := (hR _ _).trans a3.1.p66_1
      have p662 : mR N 66 2 = 68 := (hR _ _).trans a3.1.p66_2
      have pb5 : mR N (bid g) 5 = bid g + 1 := (hR _ _).trans (GP.b5 hP1')
      simp -dsimp (disch := first | assumption | omega) only [lit_0, lit_1, lit_2, lit_3, lit_4, lit_5, lit_6, lit_7, lit_8, lit_9, lit_10, lit_11, lit_12, lit_13, lit_14, lit_15, lit_16, lit_17, lit_18, lit_19, lit_20, lit_21, lit_22, lit_23, lit_24, lit_25, lit_26, lit_27, lit_28, lit_29, lit_30, lit_31, lit_32, lit_33, lit_34, lit_35, lit_36, lit_37, lit_38, lit_39, lit_40, lit_41, lit_42, lit_43, lit_44, lit_45, lit_46, lit_47, lit_48, lit_49, lit_50, lit_51, lit_52, lit_53, lit_54, lit_55, lit_56, lit_57, lit_58, lit_59, lit_60, lit_61, lit_62, lit_63, lit_64, lit_97, lit_99, lit_100, lit_122, lit_175, lit_176, lit_200, lit_255, lit_400, lit_700, lit_800, lit_999, lit_1000, lit_1400, lit_2000, lit_2033, lit_2038, lit_2100, lit_2124, lit_8000, lit_10000, lit_12345, lit_32767, lit_1000000, lit_1000000000, ↓bndX_h, ↓bndK_h, bxh_inl, bxh_inr, bkh_inl, bkh_inr, Nat.reduceEqDiff, ↓bnd_h, ↓lt_h, ↓ite_h, bh_some, lh_eq, ih_T, ih_F, ne_eq, not_false_eq_true, not_true_eq_false, eq_self, and_true, true_and, io_def, io_add, io_mul, io_sub, io_lt, io_le, io_eq, io_clamp, io_inbT, io_div, io_mod, io_m1, m1_io, m1_lt, m1_le, neg_1, gI_m1, h3]
      refine Wp.csh (fun c => ?_) (fun c => ?_)
      · have : i = bLe (vB V g) := by omega
        subst this
        exact Wp.ret ⟨⟨h3, hall⟩, hF⟩
      · have hi2 : i < bLe (vB V g) := by omega
        have hgi := hvb.2.2.2.1 i hi2
        have hst := staS_lt hvg hvb i (by omega)
        have eb : mI N (bid g + 1) i = io (bGi (vB V g) i) := by
          rw [hF.I (by simp only [ob, Bool.and_true, Bool.and_eq_true, Bool.or_eq_true, decide_eq_true_eq]; unfold bid; split <;> omega)]
          exact (a2.2.2.1 g hg).2.2.1.2.2.2.2.2.1 i hi2
        have ea := at_io (M := N) (K0_bid1 (g := g)) (show i < 200 by omega) (by omega)
        rw [eb] at ea
        have ep := put_io (M := N) (x := io (staS (gSi (vG V g)) (vB V g) i)) K0_67 (show i < 200 by omega) (by omega)
        simp -dsimp (disch := first | assumption | omega) only [lit_0, lit_1, lit_2, lit_3, lit_4, lit_5, lit_6, lit_7, lit_8, lit_9, lit_10, lit_11, lit_12, lit_13, lit_14, lit_15, lit_16, lit_17, lit_18, lit_19, lit_20, lit_21, lit_22, lit_23, lit_24, lit_25, lit_26, lit_27, lit_28, lit_29, lit_30, lit_31, lit_32, lit_33, lit_34, lit_35, lit_36, lit_37, lit_38, lit_39, lit_40, lit_41, lit_42, lit_43, lit_44, lit_45, lit_46, lit_47, lit_48, lit_49, lit_50, lit_51, lit_52, lit_53, lit_54, lit_55, lit_56, lit_57, lit_58, lit_59, lit_60, lit_61, lit_62, lit_63, lit_64, lit_97, lit_99, lit_100, lit_122, lit_175, lit_176, lit_200, lit_255, lit_400, lit_700, lit_800, lit_999, lit_1000, lit_1400, lit_2000, lit_2033, lit_2038, lit_2100, lit_2124, lit_8000, lit_10000, lit_12345, lit_32767, lit_1000000, lit_1000000000, ↓bndX_h, ↓bndK_h, bxh_inl, bxh_inr, bkh_inl, bkh_inr, Nat.reduceEqDiff, ↓bnd_h, ↓lt_h, ↓ite_h, bh_some, lh_eq, ih_T, ih_F, ne_eq, not_false_eq_true, not_true_eq_false, eq_self, and_true, true_and, io_def, io_add, io_mul, io_sub, io_lt, io_le, io_eq, io_clamp, io_inbT, io_div, io_mod, io_m1, m1_io, m1_lt, m1_le, neg_1, gI_m1, K0_bid, pb5, succ_ne, ea, p661, ep, false_and, and_false, if_false, if_true, and_self, mI_sI, mI_sL, mL_sI, mL_sL, mR_sI, mR_sL, p662]
        have hX1 : GX (sI N 67 i (io (staS (gSi (vG V g)) (vB V g) i))) (R g) (R g + 6) (vG V g) (vS V g) := by
          exact hX.keep66 hru hse (Fg.refl.sI rfl)
        refine Wp.seqh (c_whoGives hru hse hvg hvs hX1 p660 hst hgi) (fun x N2 ⟨d1, d2, d3⟩ => ?_)
        subst d1
        have ep2 := put_io (M := N2) (x := io (whoS (vG V g) (vS V g) (bGi (vB V g) i) (staS (gSi (vG V g)) (vB V g) i) (gN (vG V g)))) K0_68 (show i < 200 by omega) (by omega)
        have q660 : mR N2 66 0 = 41 := (d3.2.2 _ rfl _).trans p660
        have q41 := d2.1.2.1
        have ebh : ∀ U, CG U (R g) (vG V g) → zX8_stateBehind (R g) (io (staS (gSi (vG V g)) (vB V g) i)) (io (bGi (vB V g) i)) U = some (io (staS (gSi (vG V g)) (vB V g) (i + 1)), U) := fun U h => c_behind hru hvg h (by omega) hgi
        have hX3 : GX (sI N2 68 i (io (whoS (vG V g) (vS V g) (bGi (vB V g) i) (staS (gSi (vG V g)) (vB V g) i) (gN (vG V g))))) (R g) (R g + 6) (vG V g) (vS V g) := by
          exact d2.keep66 hru hse (Fg.refl.sI rfl)
        have ebh2 := ebh _ hX3.1.2.2.2.2.1
        simp -dsimp (disch := first | assumption | omega) only [lit_0, lit_1, lit_2, lit_3, lit_4, lit_5, lit_6, lit_7, lit_8, lit_9, lit_10, lit_11, lit_12, lit_13, lit_14, lit_15, lit_16, lit_17, lit_18, lit_19, lit_20, lit_21, lit_22, lit_23, lit_24, lit_25, lit_26, lit_27, lit_28, lit_29, lit_30, lit_31, lit_32, lit_33, lit_34, lit_35, lit_36, lit_37, lit_38, lit_39, lit_40, lit_41, lit_42, lit_43, lit_44, lit_45, lit_46, lit_47, lit_48, lit_49, lit_50, lit_51, lit_52, lit_53, lit_54, lit_55, lit_56, lit_57, lit_58, lit_59, lit_60, lit_61, lit_62, lit_63, lit_64, lit_97, lit_99, lit_100, lit_122, lit_175, lit_176, lit_200, lit_255, lit_400, lit_700, lit_800, lit_999, lit_1000, lit_1400, lit_2000, lit_2033, lit_2038, lit_2100, lit_2124, lit_8000, lit_10000, lit_12345, lit_32767, lit_1000000, lit_1000000000, ↓bndX_h, ↓bndK_h, bxh_inl, bxh_inr, bkh_inl, bkh_inr, Nat.reduceEqDiff, ↓bnd_h, ↓lt_h, ↓ite_h, bh_some, lh_eq, ih_T, ih_F, ne_eq, not_false_eq_true, not_true_eq_false, eq_self, and_true, true_and, io_def, io_add, io_mul, io_sub, io_lt, io_le, io_eq, io_clamp, io_inbT, io_div, io_mod, io_m1, m1_io, m1_lt, m1_le, neg_1, gI_m1, ep2, false_and, and_false, if_false, if_true, and_self, mI_sI, mI_sL, mL_sI, mL_sL, mR_sI, mR_sL, p662, q660, K0_41, q41, K0_r, ru_ne, ebh2]
        have hF3 : Fg [(42, 44), (66, 68)] [] M1 (sI N2 68 i (io (whoS (vG V g) (vS V g) (bGi (vB V g) i) (staS (gSi (vG V g)) (vB V g) i) (gN (vG V g))))) := ((hF.sI rfl).trans (d3.sub (fun o ho => by simp only [ob, Bool.and_true, Bool.and_eq_true, Bool.or_eq_true, decide_eq_true_eq] at ho ⊢; omega) (fun _ h => h))).sI rfl
        refine rec (i + 1) _ ⟨by omega, hX3, ?_, fun j hj => ?_, hF3⟩ (by omega)
        · rw [mI_sI, if_neg (by omega), d3.I rfl, mI_sI, if_neg (by omega)]; exact h3
        · rw [mI_sI, if_neg (by omega), d3.I rfl, mI_sI, mI_sI, d3.I rfl, mI_sI]
          by_cases q : j = i
          · subst q
            rw [if_pos ⟨rfl, rfl⟩, if_pos ⟨rfl, rfl⟩]
            exact ⟨rfl, rfl⟩
          · rw [if_neg (fun z => q z.2), if_neg (fun z => q z.2), if_neg (by omega)]
            exact hall j (by omega)
    · exact GX.keep66 hru hse a1 (Fg.refl.sI rfl)
  · have hF : FS M1 M2 := FS.of b2 (fun o ho => by simp only [ob, Bool.and_true, Bool.and_eq_true, Bool.or_eq_true, decide_eq_true_eq]; omega) (fun _ _ => rfl)
    refine Wp.ret ⟨b1, a2.FS hF, a3.mk2 (fun o k _ _ _ _ => b2.2.2 o rfl k) (fun o k h1 h2 => b2.I (by simp only [ob, Bool.and_true, Bool.and_eq_true, Bool.or_eq_true, decide_eq_true_eq]; omega)) ?_ ?_ ?_, a4.trans hF⟩
    · rw [b2.2.2 _ rfl, b2.2.2 _ rfl]; exact a3.2.1
    · obtain ⟨cs, h⟩ := a3.2.2.2.1
      exact ⟨cs, h.keep b2 rfl rfl rfl⟩
    · obtain ⟨cs, h⟩ := a3.2.2.2.2.1
      exact ⟨cs, h.keep b2 rfl rfl rfl⟩
