/-! ===== LEVEL 2: near: the class ===== -/
def GY (M : Mem) (r p : Nat) (v : GV) (sv : SV) : Prop := GvI M 59 r p v sv ∧ KN M 59 v sv
theorem GvI.keepN {M M' : Mem} {g r p : Nat} {v : GV} {sv : SV} {p2 : List (Nat × Nat)} (hg : isGv g) (hr : isRu r) (hp : isSe p) (h : GvI M g r p v sv) (hF : Fg p2 [(52, 52)] M M') (ho : ∀ o, (o < 42 ∨ 62 < o) → ob p2 o = true) : GvI M' g r p v sv := by
  have hR : ∀ o k, o ≠ 52 → mR M' o k = mR M o k := fun o k h => hF.R (ob_1of (by omega))
  have hr' : ∀ k, k ≤ 5 → ∀ j, mI M' (r + k) j = mI M (r + k) j := fun k hk j => hF.I (ho _ (by rcases hr with rfl | rfl | rfl <;> omega))
  have hp' : ∀ j, mI M' p j = mI M p j := fun j => hF.I (ho _ (by rcases hp with rfl | rfl | rfl | rfl <;> omega))
  have hr0 : ∀ j, mI M' r j = mI M r j := hr' 0 (by omega)
  have hg52 : g ≠ 52 := by rcases hg with rfl | rfl <;> omega
  have hr52 : r ≠ 52 := by rcases hr with rfl | rfl | rfl <;> omega
  obtain ⟨h1, h2, h3, h4, h5, h6⟩ := h
  refine ⟨?_, ?_, ?_, ?_, ?_, ?_⟩
  · simpa only [PG, hR g _ hg52] using h1
  · simpa only [hR g _ hg52] using h2
  · simpa only [hR g _ hg52] using h3
  · simpa only [PR, hR r _ hr52] using h4
  · simpa only [CG, hr0, hr' 1 (by omega), hr' 2 (by omega), hr' 3 (by omega), hr' 4 (by omega), hr' 5 (by omega)] using h5
  · simpa only [CS, hp'] using h6
theorem KN.keepN {M M' : Mem} {g : Nat} {v : GV} {sv : SV} {p q : List (Nat × Nat)} (h : KN M g v sv) (hF : Fg p q M M') (ho : ob p (g + 1) = true) : KN M' g v sv := fun sp s t h1 h2 h3 => by
  rw [hF.I ho]
  exact h sp s t h1 h2 h3
theorem obN {o : Nat} (h1 : o < 42 ∨ 44 < o) (h2 : o < 52 ∨ 62 < o) : ob [(42, 44), (52, 62)] o = true := by
  simp only [ob, Bool.and_true, Bool.and_eq_true, Bool.or_eq_true, decide_eq_true_eq]
  exact ⟨h1, h2⟩
/-- frames of near -/
theorem Fg.top62 {M M' : Mem} {p q : List (Nat × Nat)} (h : Fg p q M M') (hp : ∀ o, (o < 42 ∨ 62 < o) → ob p o = true) (hq : ∀ o, o ≠ 52 → ob q o = true) : Fg [(42, 62)] [(52, 52)] M M' :=
  h.sub (fun o ho => hp o (by simp only [ob, Bool.and_true, Bool.and_eq_true, Bool.or_eq_true, decide_eq_true_eq] at ho; exact ho)) (fun o ho => hq o (by simp only [ob, Bool.and_true, Bool.and_eq_true, Bool.or_eq_true, decide_eq_true_eq] at ho; omega))
theorem GX.keepN {M M' : Mem} {r p : Nat} {v : GV} {sv : SV} {p2 q2 : List (Nat × Nat)} (hr : isRu r) (hp : isSe p) (h : GX M r p v sv) (hF : Fg p2 q2 M M') (ho : ∀ o, (o < 42 ∨ 62 < o) → ob p2 o = true) (hq : ∀ o, o ≠ 52 → ob q2 o = true) (h42 : ob p2 42 = true) : GX M' r p v sv :=
  ⟨h.1.keepN (Or.inl rfl) hr hp (hF.top62 ho hq) (fun o h => ob_1of h), h.2.keepN hF h42⟩
theorem GY.keepN {M M' : Mem} {r p : Nat} {v : GV} {sv : SV} {p2 q2 : List (Nat × Nat)} (hr : isRu r) (hp : isSe p) (h : GY M r p v sv) (hF : Fg p2 q2 M M') (ho : ∀ o, (o < 42 ∨ 62 < o) → ob p2 o = true) (hq : ∀ o, o ≠ 52 → ob q2 o = true) (h60 : ob p2 60 = true) : GY M' r p v sv :=
  ⟨h.1.keepN (Or.inr rfl) hr hp (hF.top62 ho hq) (fun o h => ob_1of h), h.2.keepN hF h60⟩
def NK (M : Mem) (cn ct : Nat) : Prop := mR M 52 0 = 41 ∧ mR M 52 1 = 59 ∧ mR M 52 2 = cn ∧ mR M 52 3 = ct ∧ PCa M cn ∧ PCa M ct ∧ ((cn = 53 ∧ ct = 56) ∨ (cn = 56 ∧ ct = 53))
theorem NK.R {M M' : Mem} {cn ct : Nat} (h : NK M cn ct) (hR : ∀ o k, mR M' o k = mR M o k) : NK M' cn ct := by
  obtain ⟨a0, a1, a2, a3, a4, a5, a6⟩ := h
  exact ⟨(hR _ _).trans a0, (hR _ _).trans a1, (hR _ _).trans a2, (hR _ _).trans a3, ⟨(hR _ _).trans a4.1, (hR _ _).trans a4.2⟩, ⟨(hR _ _).trans a5.1, (hR _ _).trans a5.2⟩, a6⟩
theorem ca_of2 {cn ct : Nat} (h : (cn = 53 ∧ ct = 56) ∨ (cn = 56 ∧ ct = 53)) : isCa cn 10000 ∧ isCa ct 10000 := by
  rcases h with ⟨rfl, rfl⟩ | ⟨rfl, rfl⟩
  · exact ⟨Or.inr ⟨Or.inl rfl, rfl⟩, Or.inr ⟨Or.inr rfl, rfl⟩⟩
  · exact ⟨Or.inr ⟨Or.inr rfl, rfl⟩, Or.inr ⟨Or.inl rfl, rfl⟩⟩
theorem c_goesOn {M : Mem} {r p s b sp pt S A : Nat} {v : GV} {sv : SV} (hr : isRu r) (hp : isSe p) (hv : okG v) (hsv : okS sv) (hY : GY M r p v sv) (p1 : mR M 52 1 = 59) (hs : s < 8) (hb : b < stN (gSi v)) (hsp : sp ≤ 9) (hpt : pt ≤ 1000000000) (hS : mL M 52 5 = lo S) (hA : mL M 52 6 = lo A) :
    Wp (zX3_goesOn 52 (io s) (io b) (io sp) (io pt) M) (fun x M' => x = io (if s < gN v then goS (gSi v) b (giftS v sv s b sp) else b) ∧ GY M' r p v sv ∧ mL M' 52 5 = lo (S + pt * (if s < gN v then giftS v sv s b sp - 1 else 0)) ∧ mL M' 52 6 = lo (A + pt * (if s < gN v ∧ giftS v sv s b sp = 0 then 1 else 0)) ∧ mL M' 52 4 = mL M 52 4 ∧ Fg [(52, 52), (60, 62)] [] M M') := by
  have hn := okG_n hv
  have hs100 := stN_le (gSi v)
  obtain ⟨hI, hK⟩ := hY
  have e59 := hI.2.1
  have c0 := hI.2.2.2.2.1.1
  unfold zX3_goesOn
  simp -dsimp (disch := first | assumption | omega) only [lit_0, lit_1, lit_2, lit_3, lit_4, lit_5, lit_6, lit_7, lit_8, lit_9, lit_10, lit_11, lit_12, lit_13, lit_14, lit_15, lit_16, lit_17, lit_18, lit_19, lit_20, lit_21, lit_22, lit_23, lit_24, lit_25, lit_26, lit_27, lit_28, lit_29, lit_30, lit_31, lit_32, lit_33, lit_34, lit_35, lit_36, lit_37, lit_38, lit_39, lit_40, lit_41, lit_42, lit_43, lit_44, lit_45, lit_46, lit_47, lit_48, lit_49, lit_50, lit_51, lit_52, lit_53, lit_54, lit_55, lit_56, lit_57, lit_58, lit_59, lit_60, lit_61, lit_62, lit_63, lit_64, lit_97, lit_99, lit_100, lit_122, lit_175, lit_176, lit_200, lit_255, lit_400, lit_700, lit_800, lit_999, lit_1000, lit_1400, lit_2000, lit_2033, lit_2038, lit_2100, lit_2124, lit_8000, lit_10000, lit_12345, lit_32767, lit_1000000, lit_1000000000, ↓bndX_h, ↓bndK_h, bxh_inl, bxh_inr, bkh_inl, bkh_inr, Nat.reduceEqDiff, ↓bnd_h, ↓lt_h, ↓ite_h, bh_some, lh_eq, ih_T, ih_F, ne_eq, not_false_eq_true, not_true_eq_false, eq_self, and_true, true_and, io_def, io_add, io_mul, io_sub, io_lt, io_le, io_eq, io_clamp, io_inbT, io_div, io_mod, io_m1, m1_io, m1_lt, m1_le, neg_1, gI_m1, K0_52, p1, K0_59, e59, K0_r, ru_ne, c0]
  refine Wp.csh (fun c => ?_) (fun c => ?_)
  · simp -dsimp (disch := first | assumption | omega) only [lit_0, lit_1, lit_2, lit_3, lit_4, lit_5, lit_6, lit_7, lit_8, lit_9, lit_10, lit_11, lit_12, lit_13, lit_14, lit_15, lit_16, lit_17, lit_18, lit_19, lit_20, lit_21, lit_22, lit_23, lit_24, lit_25, lit_26, lit_27, lit_28, lit_29, lit_30, lit_31, lit_32, lit_33, lit_34, lit_35, lit_36, lit_37, lit_38, lit_39, lit_40, lit_41, lit_42, lit_43, lit_44, lit_45, lit_46, lit_47, lit_48, lit_49, lit_50, lit_51, lit_52, lit_53, lit_54, lit_55, lit_56, lit_57, lit_58, lit_59, lit_60, lit_61, lit_62, lit_63, lit_64, lit_97, lit_99, lit_100, lit_122, lit_175, lit_176, lit_200, lit_255, lit_400, lit_700, lit_800, lit_999, lit_1000, lit_1400, lit_2000, lit_2033, lit_2038, lit_2100, lit_2124, lit_8000, lit_10000, lit_12345, lit_32767, lit_1000000, lit_1000000000, ↓bndX_h, ↓bndK_h, bxh_inl, bxh_inr, bkh_inl, bkh_inr, Nat.reduceEqDiff, ↓bnd_h, ↓lt_h, ↓ite_h, bh_some, lh_eq, ih_T, ih_F, ne_eq, not_false_eq_true, not_true_eq_false, eq_self, and_true, true_and, io_def, p1, K0_59]
    have hk : (sp * 8 + s) * 100 + 100 ≤ knN 59 := by
      have e : knN 59 = 8000 := rfl
      rw [e]; omega
    refine Wp.seqh (c_giftAt (Or.inr rfl) hr hp hv hsv c (show b < 100 by omega) hk hI hK) (fun x M1 ⟨d1, d2, d3⟩ => ?_)
    have hg10 : giftS v sv s b sp ≤ 10 := by
      have := (hv.2.2.2.2.2.2 s c).2.2.2.1
      rw [giftS_Q]
      exact giftQ_le (by omega)
    have hI1 := hI.keep (Or.inr rfl) hr hp d3
    have d3' : Fg [(52, 52), (60, 62)] [] M M1 := d3.sub (fun o ho => by simp only [ob, Bool.and_true, Bool.and_eq_true, Bool.or_eq_true, decide_eq_true_eq] at ho ⊢; omega) (fun _ q => q)
    have hS1 : mL M1 52 5 = lo S := (d3.L rfl (by omega)).trans hS
    have hA1 : mL M1 52 6 = lo A := (d3.L rfl (by omega)).trans hA
    have hF1 : mL M1 52 4 = mL M 52 4 := d3.L rfl (by omega)
    have q1 : mR M1 52 1 = 59 := (d3.2.2 _ rfl _).trans p1
    generalize giftS v sv s b sp = y at d1 hg10 ⊢
    subst d1
    have w : ∀ {o k : Nat} {z : Int64}, o = 52 → GY (sL M1 o k z) r p v sv := fun {o k z} h => GY.keepN (p2 := [(52, 52)]) (q2 := []) hr hp ⟨hI1, d2⟩ (by rw [h]; exact Fg.refl.sL (Or.inl rfl)) (fun o h => ob_1of (by omega)) (fun _ _ => rfl) rfl
    simp -dsimp (disch := first | assumption | omega) only [lit_0, lit_1, lit_2, lit_3, lit_4, lit_5, lit_6, lit_7, lit_8, lit_9, lit_10, lit_11, lit_12, lit_13, lit_14, lit_15, lit_16, lit_17, lit_18, lit_19, lit_20, lit_21, lit_22, lit_23, lit_24, lit_25, lit_26, lit_27, lit_28, lit_29, lit_30, lit_31, lit_32, lit_33, lit_34, lit_35, lit_36, lit_37, lit_38, lit_39, lit_40, lit_41, lit_42, lit_43, lit_44, lit_45, lit_46, lit_47, lit_48, lit_49, lit_50, lit_51, lit_52, lit_53, lit_54, lit_55, lit_56, lit_57, lit_58, lit_59, lit_60, lit_61, lit_62, lit_63, lit_64, lit_97, lit_99, lit_100, lit_122, lit_175, lit_176, lit_200, lit_255, lit_400, lit_700, lit_800, lit_999, lit_1000, lit_1400, lit_2000, lit_2033, lit_2038, lit_2100, lit_2124, lit_8000, lit_10000, lit_12345, lit_32767, lit_1000000, lit_1000000000, ↓bndX_h, ↓bndK_h, bxh_inl, bxh_inr, bkh_inl, bkh_inr, Nat.reduceEqDiff, ↓bnd_h, ↓lt_h, ↓ite_h, bh_some, lh_eq, ih_T, ih_F, ne_eq, not_false_eq_true, not_true_eq_false, eq_self, and_true, true_and, io_def, neg_1, gI_m1]
    refine Wp.csh (fun q => ?_) (fun q => ?_)
    · subst q
      simp -dsimp (disch := first | assumption | omega) only [lit_0, lit_1, lit_2, lit_3, lit_4, lit_5, lit_6, lit_7, lit_8, lit_9, lit_10, lit_11, lit_12, lit_13, lit_14, lit_15, lit_16, lit_17, lit_18, lit_19, lit_20, lit_21, lit_22, lit_23, lit_24, lit_25, lit_26, lit_27, lit_28, lit_29, lit_30, lit_31, lit_32, lit_33, lit_34, lit_35, lit_36, lit_37, lit_38, lit_39, lit_40, lit_41, lit_42, lit_43, lit_44, lit_45, lit_46, lit_47, lit_48, lit_49, lit_50, lit_51, lit_52, lit_53, lit_54, lit_55, lit_56, lit_57, lit_58, lit_59, lit_60, lit_61, lit_62, lit_63, lit_64, lit_97, lit_99, lit_100, lit_122, lit_175, lit_176, lit_200, lit_255, lit_400, lit_700, lit_800, lit_999, lit_1000, lit_1400, lit_2000, lit_2033, lit_2038, lit_2100, lit_2124, lit_8000, lit_10000, lit_12345, lit_32767, lit_1000000, lit_1000000000, ↓bndX_h, ↓bndK_h, bxh_inl, bxh_inr, bkh_inl, bkh_inr, Nat.reduceEqDiff, ↓bnd_h, ↓lt_h, ↓ite_h, bh_some, lh_eq, ih_T, ih_F, ne_eq, not_false_eq_true, not_true_eq_false, eq_self, and_true, true_and, io_def, hA1, io_lo, lo_add]
      refine Wp.ret ⟨by rw [if_pos c]; rfl, w rfl, ?_, ?_, ?_, d3'.sL (Or.inl rfl)⟩
      · rw [mL_diff (Or.inr (by omega)), hS1, if_pos c, Nat.zero_sub, Nat.mul_zero, Nat.add_zero]
      · rw [mL_same]; simp [c]
      · rw [mL_diff (Or.inr (by omega))]; exact hF1
    · have hgi : gI y = io (y - 1) := by unfold gI; rw [if_neg q]
      rw [hgi]
      have hw := w (o := 52) (k := 5) (z := lo (S + pt * (y - 1))) rfl
      have e59' := hw.1.2.1
      have eb := c_behind (st := b) (x := y - 1) hr hv hw.1.2.2.2.2.1 (by omega) (by omega)
      simp -dsimp (disch := first | assumption | omega) only [lit_0, lit_1, lit_2, lit_3, lit_4, lit_5, lit_6, lit_7, lit_8, lit_9, lit_10, lit_11, lit_12, lit_13, lit_14, lit_15, lit_16, lit_17, lit_18, lit_19, lit_20, lit_21, lit_22, lit_23, lit_24, lit_25, lit_26, lit_27, lit_28, lit_29, lit_30, lit_31, lit_32, lit_33, lit_34, lit_35, lit_36, lit_37, lit_38, lit_39, lit_40, lit_41, lit_42, lit_43, lit_44, lit_45, lit_46, lit_47, lit_48, lit_49, lit_50, lit_51, lit_52, lit_53, lit_54, lit_55, lit_56, lit_57, lit_58, lit_59, lit_60, lit_61, lit_62, lit_63, lit_64, lit_97, lit_99, lit_100, lit_122, lit_175, lit_176, lit_200, lit_255, lit_400, lit_700, lit_800, lit_999, lit_1000, lit_1400, lit_2000, lit_2033, lit_2038, lit_2100, lit_2124, lit_8000, lit_10000, lit_12345, lit_32767, lit_1000000, lit_1000000000, ↓bndX_h, ↓bndK_h, bxh_inl, bxh_inr, bkh_inl, bkh_inr, Nat.reduceEqDiff, ↓bnd_h, ↓lt_h, ↓ite_h, bh_some, lh_eq, ih_T, ih_F, ne_eq, not_false_eq_true, not_true_eq_false, eq_self, and_true, true_and, io_def, hS1, io_lo, lo_add, lo_mul, mR_sL, q1, K0_59, e59', K0_r, ru_ne, eb]
      refine Wp.ret ⟨?_, hw, ?_, ?_, ?_, d3'.sL (Or.inl rfl)⟩
      · rw [if_pos c]
        unfold goS
        rw [if_neg q]
      · rw [mL_same, if_pos c]
      · rw [mL_diff (Or.inr (by omega)), hA1, if_neg (fun z => q z.2), Nat.mul_zero, Nat.add_zero]
      · rw [mL_diff (Or.inr (by omega))]; exact hF1
  · refine Wp.ret ⟨by rw [if_neg c], ⟨hI, hK⟩, ?_, ?_, rfl, Fg.refl⟩
    · rw [if_neg c, Nat.mul_zero, Nat.add_zero]; exact hS
    · rw [if_neg (fun z => c z.1), Nat.mul_zero, Nat.add_zero]; exact hA
/-- all of the class that near holds in common -/
def NG (M : Mem) (r0 p0 r1 p1 : Nat) (v0 : GV) (sv0 : SV) (v1 : GV) (sv1 : SV) : Prop := GX M r0 p0 v0 sv0 ∧ GY M r1 p1 v1 sv1
theorem c_nshare {M : Mem} {r0 p0 r1 p1 cn ct c F S A : Nat} {v0 v1 : GV} {sv0 sv1 : SV} {cs ds : Nat → Nat} (hr0 : isRu r0) (hp0 : isSe p0) (hr1 : isRu r1) (hp1 : isSe p1) (hv0 : okG v0) (hs0 : okS sv0) (hv1 : okG v1) (hs1 : okS sv1)
    (hX : GX M r0 p0 v0 sv0) (hY : GY M r1 p1 v1 sv1) (hW : NK M cn ct) (hcn : CaI M cn 10000 cs) (hct : CaI M ct 10000 ds) (hc : okC v0 v1 c) (hle : cs c ≤ 1000000000) (hds : ∀ u, ds u + cs c ≤ 2000000000) (hF : mL M 52 4 = lo F) (hS : mL M 52 5 = lo S) (hA : mL M 52 6 = lo A) :
    Wp (zX3_share 52 (io c) M) (fun _ M' => GX M' r0 p0 v0 sv0 ∧ GY M' r1 p1 v1 sv1 ∧ CaI M' cn 10000 cs ∧ CaI M' ct 10000 (fun u => ds u + kC (gN v0) (gOd v0) (allO v0) (ndS v0 sv0 v1 sv1) cs u c (gN v0)) ∧ mL M' 52 4 = lo (F + kW (gN v0) (gOd v0) (allO v0) (nwF v0 sv0) cs c (gN v0)) ∧ mL M' 52 5 = lo (S + kW (gN v0) (gOd v0) (allO v0) (nwG v0 sv0 v1 sv1) cs c (gN v0)) ∧ mL M' 52 6 = lo (A + kW (gN v0) (gOd v0) (allO v0) (nwA v0 sv0 v1 sv1) cs c (gN v0)) ∧ (∀ o, (o = cn ∨ o = cn + 1 ∨ o = cn + 2) → ∀ k, mI M' o k = mI M o k) ∧ Fg [(42, 44), (52, 62)] [] M M') := by
  have hn0 := okG_n hv0
  have hst0 := stN_le (gSi v0)
  have hst1 := stN_le (gSi v1)
  have hW9 := hW
  obtain ⟨w0, w1, w2, w3, w4, w5, w6⟩ := hW
  obtain ⟨ic, it⟩ := ca_of2 w6
  have hcn0 : (cn = 0) = False ∧ (ct = 0) = False := by rcases w6 with ⟨rfl, rfl⟩ | ⟨rfl, rfl⟩ <;> simp
  have hc4 : c < 10000 := by have := hc.1; omega
  have e1 := c_amountOf ic w4 hcn hc4
  have e41 := hX.1.2.1
  unfold zX3_share
  simp -dsimp (disch := first | assumption | omega) only [lit_0, lit_1, lit_2, lit_3, lit_4, lit_5, lit_6, lit_7, lit_8, lit_9, lit_10, lit_11, lit_12, lit_13, lit_14, lit_15, lit_16, lit_17, lit_18, lit_19, lit_20, lit_21, lit_22, lit_23, lit_24, lit_25, lit_26, lit_27, lit_28, lit_29, lit_30, lit_31, lit_32, lit_33, lit_34, lit_35, lit_36, lit_37, lit_38, lit_39, lit_40, lit_41, lit_42, lit_43, lit_44, lit_45, lit_46, lit_47, lit_48, lit_49, lit_50, lit_51, lit_52, lit_53, lit_54, lit_55, lit_56, lit_57, lit_58, lit_59, lit_60, lit_61, lit_62, lit_63, lit_64, lit_97, lit_99, lit_100, lit_122, lit_175, lit_176, lit_200, lit_255, lit_400, lit_700, lit_800, lit_999, lit_1000, lit_1400, lit_2000, lit_2033, lit_2038, lit_2100, lit_2124, lit_8000, lit_10000, lit_12345, lit_32767, lit_1000000, lit_1000000000, ↓bndX_h, ↓bndK_h, bxh_inl, bxh_inr, bkh_inl, bkh_inr, Nat.reduceEqDiff, ↓bnd_h, ↓lt_h, ↓ite_h, bh_some, lh_eq, ih_T, ih_F, ne_eq, not_false_eq_true, not_true_eq_false, eq_self, and_true, true_and, io_def, io_add, io_mul, io_sub, io_lt, io_le, io_eq, io_clamp, io_inbT, io_div, io_mod, io_m1, m1_io, m1_lt, m1_le, neg_1, gI_m1, K0_52, w0, K0_41, e41, ru_ne, w2, hcn0.1, K0_ca ic, e1]
  generalize hFU : FU = fu
  rw [FU_val] at hFU
  have hall : sumN (gN v0) (gOd v0) = allO v0 := rfl
  refine loopW (L := fun f (s : Nat) N => zX3_share_L29 f 52 (io c) r0 (io (cs c)) (io (c / 100)) (io (cs c - sumN s (ptS (gN v0) (gOd v0) (allO v0) (cs c)))) (io s) N)
    (J := fun s N => s ≤ gN v0 ∧ GX N r0 p0 v0 sv0 ∧ GY N r1 p1 v1 sv1 ∧ CaI N cn 10000 cs ∧ CaI N ct 10000 (fun u => ds u + kC (gN v0) (gOd v0) (allO v0) (ndS v0 sv0 v1 sv1) cs u c s) ∧ mL N 52 4 = lo (F + kW (gN v0) (gOd v0) (allO v0) (nwF v0 sv0) cs c s) ∧ mL N 52 5 = lo (S + kW (gN v0) (gOd v0) (allO v0) (nwG v0 sv0 v1 sv1) cs c s) ∧ mL N 52 6 = lo (A + kW (gN v0) (gOd v0) (allO v0) (nwA v0 sv0 v1 sv1) cs c s) ∧ (∀ o, (o = cn ∨ o = cn + 1 ∨ o = cn + 2) → ∀ k, mI N o k = mI M o k) ∧ Fg [(42, 44), (52, 62)] [] M N)
    (fun s _ => gN v0 - s) ?_ fu 0 M ⟨Nat.zero_le _, hX, hY, hcn, hct, hF, hS, hA, fun _ _ _ => rfl, Fg.refl⟩ (by omega)
  clear hX hY hcn hct hF hS hA e41
  intro f s N ⟨hs, hX, hY, hcn, hct, hF, hS, hA, hkp, hFr⟩ rec
  show Wp (zX3_share_B29 (zX3_share_L29 f) 52 (io c) r0 (io (cs c)) (io (c / 100)) (io _) (io s) N) _
  unfold zX3_share_B29
  have hWN := hW9.R (fun o k => hFr.2.2 o rfl k)
  obtain ⟨w0, w1, w2, w3, w4, w5, -⟩ := hWN
  have c0 := hX.1.2.2.2.2.1.1
  simp -dsimp (disch := first | assumption | omega) only [lit_0, lit_1, lit_2, lit_3, lit_4, lit_5, lit_6, lit_7, lit_8, lit_9, lit_10, lit_11, lit_12, lit_13, lit_14, lit_15, lit_16, lit_17, lit_18, lit_19, lit_20, lit_21, lit_22, lit_23, lit_24, lit_25, lit_26, lit_27, lit_28, lit_29, lit_30, lit_31, lit_32, lit_33, lit_34, lit_35, lit_36, lit_37, lit_38, lit_39, lit_40, lit_41, lit_42, lit_43, lit_44, lit_45, lit_46, lit_47, lit_48, lit_49, lit_50, lit_51, lit_52, lit_53, lit_54, lit_55, lit_56, lit_57, lit_58, lit_59, lit_60, lit_61, lit_62, lit_63, lit_64, lit_97, lit_99, lit_100, lit_122, lit_175, lit_176, lit_200, lit_255, lit_400, lit_700, lit_800, lit_999, lit_1000, lit_1400, lit_2000, lit_2033, lit_2038, lit_2100, lit_2124, lit_8000, lit_10000, lit_12345, lit_32767, lit_1000000, lit_1000000000, ↓bndX_h, ↓bndK_h, bxh_inl, bxh_inr, bkh_inl, bkh_inr, Nat.reduceEqDiff, ↓bnd_h, ↓lt_h, ↓ite_h, bh_some, lh_eq, ih_T, ih_F, ne_eq, not_false_eq_true, not_true_eq_false, eq_self, and_true, true_and, io_def, io_add, io_mul, io_sub, io_lt, io_le, io_eq, io_clamp, io_inbT, io_div, io_mod, io_m1, m1_io, m1_lt, m1_le, neg_1, gI_m1, K0_r, c0]
  refine Wp.csh (fun q => ?_) (fun q => ?_)
  · have : s = gN v0 := by omega
    subst this
    exact Wp.ret ⟨hX, hY, hcn, hct, hF, hS, hA, hkp, hFr⟩
  have hs2 : s < gN v0 := by omega
  have hap := allO_pos hv0 (by omega)
  have hpt := pt_upto (a := cs c) (m := s + 1) hall hap (by omega)
  simp only [sumN] at hpt
  have hpo := c_partOf (M := N) hr0 hv0 hX.1.2.2.2.1 hX.1.2.2.2.2.1 hs2 hle
  have hsub : io (cs c - sumN s (ptS (gN v0) (gOd v0) (allO v0) (cs c))) - io (ptS (gN v0) (gOd v0) (allO v0) (cs c) s) = io (cs c - sumN (s + 1) (ptS (gN v0) (gOd v0) (allO v0) (cs c))) := by
    rw [io_sub (by omega)]
    congr 1
    simp only [sumN]
    omega
  have hx10 := nx_le (sv0 := sv0) (c := c) hv0 hs2
  have hkcl : ∀ u, kC (gN v0) (gOd v0) (allO v0) (ndS v0 sv0 v1 sv1) cs u c s + ptS (gN v0) (gOd v0) (allO v0) (cs c) s ≤ cs c := fun u => Nat.le_trans (Nat.add_le_add_right (sumN_le (fun s _ => by split <;> omega) : _ ≤ sumN s (ptS (gN v0) (gOd v0) (allO v0) (cs c))) _) hpt
  have hnd := nd_ok (sv0 := sv0) (sv1 := sv1) hv0 hv1 hc hs2
  have hnd4 : ndS v0 sv0 v1 sv1 c s < 10000 := by have := hnd.1; omega
  have kCs : ∀ u, kC (gN v0) (gOd v0) (allO v0) (ndS v0 sv0 v1 sv1) cs u c (s + 1) = kC (gN v0) (gOd v0) (allO v0) (ndS v0 sv0 v1 sv1) cs u c s + (if ndS v0 sv0 v1 sv1 c s = u then ptS (gN v0) (gOd v0) (allO v0) (cs c) s else 0) := fun _ => rfl
  have kWs : ∀ w, kW (gN v0) (gOd v0) (allO v0) w cs c (s + 1) = kW (gN v0) (gOd v0) (allO v0) w cs c s + ptS (gN v0) (gOd v0) (allO v0) (cs c) s * w c s := fun _ => rfl
  simp -dsimp (disch := first | assumption | omega) only [lit_0, lit_1, lit_2, lit_3, lit_4, lit_5, lit_6, lit_7, lit_8, lit_9, lit_10, lit_11, lit_12, lit_13, lit_14, lit_15, lit_16, lit_17, lit_18, lit_19, lit_20, lit_21, lit_22, lit_23, lit_24, lit_25, lit_26, lit_27, lit_28, lit_29, lit_30, lit_31, lit_32, lit_33, lit_34, lit_35, lit_36, lit_37, lit_38, lit_39, lit_40, lit_41, lit_42, lit_43, lit_44, lit_45, lit_46, lit_47, lit_48, lit_49, lit_50, lit_51, lit_52, lit_53, lit_54, lit_55, lit_56, lit_57, lit_58, lit_59, lit_60, lit_61, lit_62, lit_63, lit_64, lit_97, lit_99, lit_100, lit_122, lit_175, lit_176, lit_200, lit_255, lit_400, lit_700, lit_800, lit_999, lit_1000, lit_1400, lit_2000, lit_2033, lit_2038, lit_2100, lit_2124, lit_8000, lit_10000, lit_12345, lit_32767, lit_1000000, lit_1000000000, ↓bndX_h, ↓bndK_h, bxh_inl, bxh_inr, bkh_inl, bkh_inr, Nat.reduceEqDiff, ↓bnd_h, ↓lt_h, ↓ite_h, bh_some, lh_eq, ih_T, ih_F, ne_eq, not_false_eq_true, not_true_eq_false, eq_self, and_true, true_and, io_def, hpo, hsub, w0, K0_41]
  refine Wp.seqh (c_giftAt (sp := 0) (Or.inl rfl) hr0 hp0 hv0 hs0 hs2 (show c / 100 < 100 by omega) (by unfold knN; simp; omega) hX.1 hX.2) (fun x N2 ⟨a1, a2, a3⟩ => ?_)
  have a3' : Fg [(42, 44), (52, 62)] [] N N2 := a3.sub (fun o ho => by simp only [ob, Bool.and_true, Bool.and_eq_true, Bool.or_eq_true, decide_eq_true_eq] at ho ⊢; omega) (fun _ h => h)
  have hX2 : GX N2 r0 p0 v0 sv0 := ⟨hX.1.keep (Or.inl rfl) hr0 hp0 a3, a2⟩
  have hY2 : GY N2 r1 p1 v1 sv1 := hY.keepN hr1 hp1 a3 (fun o h => ob_1of (by omega)) (fun _ _ => rfl) rfl
  have oc : ∀ o, (o = cn ∨ o = cn + 1 ∨ o = cn + 2 ∨ o = ct ∨ o = ct + 1 ∨ o = ct + 2) → (53 ≤ o ∧ o ≤ 58) := by
    intro o ho
    rcases w6 with ⟨rfl, rfl⟩ | ⟨rfl, rfl⟩ <;> omega
  have oc3 : ∀ o, (o = cn ∨ o = cn + 1 ∨ o = cn + 2 ∨ o = ct ∨ o = ct + 1 ∨ o = ct + 2) → ob [(41 + 1, 41 + 3)] o = true := fun o h => ob_1of (by have := oc o h; omega)
  have hcn2 := hcn.keep a3 (oc3 _ (by omega)) (oc3 _ (by omega)) (oc3 _ (by omega))
  have hct2 := hct.keep a3 (oc3 _ (by omega)) (oc3 _ (by omega)) (oc3 _ (by omega))
  have hL2 : ∀ k, mL N2 52 k = mL N 52 k := fun k => a3.L rfl (by omega)
  have hkp2 : ∀ o, (o = cn ∨ o = cn + 1 ∨ o = cn + 2) → ∀ k, mI N2 o k = mI M o k := fun o ho k => by rw [a3.I (oc3 o (by omega))]; exact hkp o ho k
  have hF2 := hFr.trans a3'
  have hW2 := hW9.R (fun o k => hF2.2.2 o rfl k)
  have hxg : giftS v0 sv0 s (c / 100) 0 = nxS v0 sv0 c s := rfl
  rw [hxg] at a1
  have hnd0 : ndS v0 sv0 v1 sv1 c s = goS (gSi v0) (c / 100) (nxS v0 sv0 c s) * 100 + nbS v0 sv0 v1 sv1 c s := rfl
  have hnF : nwF v0 sv0 c s = nxS v0 sv0 c s - 1 := rfl
  have hnG : nwG v0 sv0 v1 sv1 c s = if s < gN v1 then giftS v1 sv1 s (c % 100) (nxS v0 sv0 c s - 1) - 1 else 0 := rfl
  have hnA : nwA v0 sv0 v1 sv1 c s = if s < gN v1 ∧ giftS v1 sv1 s (c % 100) (nxS v0 sv0 c s - 1) = 0 then 1 else 0 := rfl
  have hnb : nbS v0 sv0 v1 sv1 c s = if s < gN v1 then goS (gSi v1) (c % 100) (giftS v1 sv1 s (c % 100) (nxS v0 sv0 c s - 1)) else c % 100 := rfl
  -- behind the first gate
  have key : Wp (zX3_share_B103 (zX3_share_L29 f) 52 (io c) r0 (io (cs c)) (io (c / 100)) (io (cs c - sumN (s + 1) (ptS (gN v0) (gOd v0) (allO v0) (cs c)))) (io s) (io (ptS (gN v0) (gOd v0) (allO v0) (cs c) s)) (io (nxS v0 sv0 c s - 1)) (io (goS (gSi v0) (c / 100) (nxS v0 sv0 c s))) N2) (fun _ M' => GX M' r0 p0 v0 sv0 ∧ GY M' r1 p1 v1 sv1 ∧ CaI M' cn 10000 cs ∧ CaI M' ct 10000 (fun u => ds u + kC (gN v0) (gOd v0) (allO v0) (ndS v0 sv0 v1 sv1) cs u c (gN v0)) ∧ mL M' 52 4 = lo (F + kW (gN v0) (gOd v0) (allO v0) (nwF v0 sv0) cs c (gN v0)) ∧ mL M' 52 5 = lo (S + kW (gN v0) (gOd v0) (allO v0) (nwG v0 sv0 v1 sv1) cs c (gN v0)) ∧ mL M' 52 6 = lo (A + kW (gN v0) (gOd v0) (allO v0) (nwA v0 sv0 v1 sv1) cs c (gN v0)) ∧ (∀ o, (o = cn ∨ o = cn + 1 ∨ o = cn + 2) → ∀ k, mI M' o k = mI M o k) ∧ Fg [(42, 44), (52, 62)] [] M M') := by
    have hgo0 := goS_lt hx10 (okG_si hv0) hc.1
    have hnbl := nb_lt (sv0 := sv0) (sv1 := sv1) (s := s) hv1 hc
    generalize ptS (gN v0) (gOd v0) (allO v0) (cs c) s = pt at *
    have hF4 := hL2 4
    rw [hF] at hF4
    unfold zX3_share_B103
    obtain ⟨u0, u1, u2, u3, u4, u5, -⟩ := hW2
    simp -dsimp (disch := first | assumption | omega) only [lit_0, lit_1, lit_2, lit_3, lit_4, lit_5, lit_6, lit_7, lit_8, lit_9, lit_10, lit_11, lit_12, lit_13, lit_14, lit_15, lit_16, lit_17, lit_18, lit_19, lit_20, lit_21, lit_22, lit_23, lit_24, lit_25, lit_26, lit_27, lit_28, lit_29, lit_30, lit_31, lit_32, lit_33, lit_34, lit_35, lit_36, lit_37, lit_38, lit_39, lit_40, lit_41, lit_42, lit_43, lit_44, lit_45, lit_46, lit_47, lit_48, lit_49, lit_50, lit_51, lit_52, lit_53, lit_54, lit_55, lit_56, lit_57, lit_58, lit_59, lit_60, lit_61, lit_62, lit_63, lit_64, lit_97, lit_99, lit_100, lit_122, lit_175, lit_176, lit_200, lit_255, lit_400, lit_700, lit_800, lit_999, lit_1000, lit_1400, lit_2000, lit_2033, lit_2038, lit_2100, lit_2124, lit_8000, lit_10000, lit_12345, lit_32767, lit_1000000, lit_1000000000, ↓bndX_h, ↓bndK_h, bxh_inl, bxh_inr, bkh_inl, bkh_inr, Nat.reduceEqDiff, ↓bnd_h, ↓lt_h, ↓ite_h, bh_some, lh_eq, ih_T, ih_F, ne_eq, not_false_eq_true, not_true_eq_false, eq_self, and_true, true_and, io_def, io_add, io_mul, io_sub, io_lt, io_le, io_eq, io_clamp, io_inbT, io_div, io_mod, io_m1, m1_io, m1_lt, m1_le, neg_1, gI_m1, hF4, io_lo, lo_mul, lo_add, mR_sL, u3, hcn0.2, K0_ca it]
    have hFa : Fg [(52, 52)] [] N2 (sL N2 52 4 (lo (F + kW (gN v0) (gOd v0) (allO v0) (nwF v0 sv0) cs c s + pt * (nxS v0 sv0 c s - 1)))) := Fg.refl.sL (Or.inl rfl)
    have hYa := hY2.keepN hr1 hp1 hFa (fun o h => ob_1of (by omega)) (fun _ _ => rfl) rfl
    have hXa := hX2.keepN hr0 hp0 hFa (fun o h => ob_1of (by omega)) (fun _ _ => rfl) rfl
    refine Wp.seqh (c_goesOn (b := c % 100) (sp := nxS v0 sv0 c s - 1) (pt := pt) (S := S + kW (gN v0) (gOd v0) (allO v0) (nwG v0 sv0 v1 sv1) cs c s) (A := A + kW (gN v0) (gOd v0) (allO v0) (nwA v0 sv0 v1 sv1) cs c s) hr1 hp1 hv1 hs1 hYa u1 (show s < 8 by omega) hc.2 (by omega) (by omega) ?_ ?_) (fun x N3 ⟨b1, b2, b3, b4, b5, b6⟩ => ?_)
    · rw [mL_diff (Or.inr (by omega)), hL2]; exact hS
    · rw [mL_diff (Or.inr (by omega)), hL2]; exact hA
    rw [← hnb] at b1
    rw [← hnG] at b3
    rw [← hnA] at b4
    rw [mL_same] at b5
    subst b1
    have oc4 : ∀ o, (o = cn ∨ o = cn + 1 ∨ o = cn + 2 ∨ o = ct ∨ o = ct + 1 ∨ o = ct + 2) → ob [(52, 52), (60, 62)] o = true := fun o h => by
      have := oc o h
      simp only [ob, Bool.and_true, Bool.and_eq_true, Bool.or_eq_true, decide_eq_true_eq]
      omega
    have b6' : Fg [(52, 52), (60, 62)] [] N2 N3 := (hFa.sub (fun o ho => by simp only [ob, Bool.and_true, Bool.and_eq_true, Bool.or_eq_true, decide_eq_true_eq] at ho ⊢; omega) (fun _ q => q)).trans b6
    have hct3 := hct2.keep b6' (oc4 _ (by omega)) (oc4 _ (by omega)) (oc4 _ (by omega))
    have hcn3 := hcn2.keep b6' (oc4 _ (by omega)) (oc4 _ (by omega)) (oc4 _ (by omega))
    have hX3 := hX2.keepN hr0 hp0 b6' (fun o h => by simp only [ob, Bool.and_true, Bool.and_eq_true, Bool.or_eq_true, decide_eq_true_eq]; omega) (fun _ _ => rfl) rfl
    have u5' : PCa N3 ct := ⟨(b6'.2.2 _ rfl _).trans u5.1, (b6'.2.2 _ rfl _).trans u5.2⟩
    have hadd := c_add (a := pt) it u5' hct3 hnd4 (by
      have h1 := hkcl (ndS v0 sv0 v1 sv1 c s)
      have h2 := hds (ndS v0 sv0 v1 sv1 c s)
      show ds _ + kC _ _ _ _ _ _ c s + pt < _
      omega)
    rw [hnd0] at hadd
    simp -dsimp (disch := first | assumption | omega) only [lit_0, lit_1, lit_2, lit_3, lit_4, lit_5, lit_6, lit_7, lit_8, lit_9, lit_10, lit_11, lit_12, lit_13, lit_14, lit_15, lit_16, lit_17, lit_18, lit_19, lit_20, lit_21, lit_22, lit_23, lit_24, lit_25, lit_26, lit_27, lit_28, lit_29, lit_30, lit_31, lit_32, lit_33, lit_34, lit_35, lit_36, lit_37, lit_38, lit_39, lit_40, lit_41, lit_42, lit_43, lit_44, lit_45, lit_46, lit_47, lit_48, lit_49, lit_50, lit_51, lit_52, lit_53, lit_54, lit_55, lit_56, lit_57, lit_58, lit_59, lit_60, lit_61, lit_62, lit_63, lit_64, lit_97, lit_99, lit_100, lit_122, lit_175, lit_176, lit_200, lit_255, lit_400, lit_700, lit_800, lit_999, lit_1000, lit_1400, lit_2000, lit_2033, lit_2038, lit_2100, lit_2124, lit_8000, lit_10000, lit_12345, lit_32767, lit_1000000, lit_1000000000, ↓bndX_h, ↓bndK_h, bxh_inl, bxh_inr, bkh_inl, bkh_inr, Nat.reduceEqDiff, ↓bnd_h, ↓lt_h, ↓ite_h, bh_some, lh_eq, ih_T, ih_F, ne_eq, not_false_eq_true, not_true_eq_false, eq_self, and_true, true_and, io_def, io_add, io_mul, io_sub, io_lt, io_le, io_eq, io_clamp, io_inbT, io_div, io_mod, io_m1, m1_io, m1_lt, m1_le, neg_1, gI_m1, mR_sL, u3, hcn0.2, K0_ca it]
    refine Wp.seqh hadd (fun _ N4 ⟨d1, d2⟩ => ?_)
    rw [← hnd0] at d1
    have oc5 : ∀ o, (o = 42 ∨ o = 60 ∨ o = 52 ∨ o = cn ∨ o = cn + 1 ∨ o = cn + 2) → ob [(ct, ct + 2)] o = true := by
      intro o ho
      rcases w6 with ⟨rfl, rfl⟩ | ⟨rfl, rfl⟩ <;> exact ob_1of (by omega)
    have oc6 : ∀ o, (o < 42 ∨ 62 < o) → ob [(ct, ct + 2)] o = true := fun o ho => ob_1of (by have := oc ct (by omega); have := oc (ct + 2) (by omega); omega)
    have hX4 := hX3.keepN hr0 hp0 d2 oc6 (fun _ _ => rfl) (oc5 _ (by omega))
    have hY4 := b2.keepN hr1 hp1 d2 oc6 (fun _ _ => rfl) (oc5 _ (by omega))
    have hF4' : Fg [(42, 44), (52, 62)] [] M N4 := (hF2.trans (b6'.sub (fun o ho => by simp only [ob, Bool.and_true, Bool.and_eq_true, Bool.or_eq_true, decide_eq_true_eq] at ho ⊢; omega) (fun _ q => q))).trans (d2.sub (fun o ho => by
      simp only [ob, Bool.and_true, Bool.and_eq_true, Bool.or_eq_true, decide_eq_true_eq] at ho ⊢
      have := oc ct (by omega)
      have := oc (ct + 2) (by omega)
      omega) (fun _ q => q))
    simp -dsimp (disch := first | assumption | omega) only [lit_0, lit_1, lit_2, lit_3, lit_4, lit_5, lit_6, lit_7, lit_8, lit_9, lit_10, lit_11, lit_12, lit_13, lit_14, lit_15, lit_16, lit_17, lit_18, lit_19, lit_20, lit_21, lit_22, lit_23, lit_24, lit_25, lit_26, lit_27, lit_28, lit_29, lit_30, lit_31, lit_32, lit_33, lit_34, lit_35, lit_36, lit_37, lit_38, lit_39, lit_40, lit_41, lit_42, lit_43, lit_44, lit_45, lit_46, lit_47, lit_48, lit_49, lit_50, lit_51, lit_52, lit_53, lit_54, lit_55, lit_56, lit_57, lit_58, lit_59, lit_60, lit_61, lit_62, lit_63, lit_64, lit_97, lit_99, lit_100, lit_122, lit_175, lit_176, lit_200, lit_255, lit_400, lit_700, lit_800, lit_999, lit_1000, lit_1400, lit_2000, lit_2033, lit_2038, lit_2100, lit_2124, lit_8000, lit_10000, lit_12345, lit_32767, lit_1000000, lit_1000000000, ↓bndX_h, ↓bndK_h, bxh_inl, bxh_inr, bkh_inl, bkh_inr, Nat.reduceEqDiff, ↓bnd_h, ↓lt_h, ↓ite_h, bh_some, lh_eq, ih_T, ih_F, ne_eq, not_false_eq_true, not_true_eq_false, eq_self, and_true, true_and, io_def, io_add, io_mul, io_sub, io_lt, io_le, io_eq, io_clamp, io_inbT, io_div, io_mod, io_m1, m1_io, m1_lt, m1_le, neg_1, gI_m1]
    refine rec (s + 1) N4 ⟨by omega, hX4, hY4, hcn3.keep d2 (oc5 _ (by omega)) (oc5 _ (by omega)) (oc5 _ (by omega)), d1.ext (fun u => ?_), ?_, ?_, ?_, fun o ho k => ?_, hF4'⟩ (by omega)
    · show _ = ds u + kC _ _ _ _ _ u c (s + 1)
      rw [kCs]
      by_cases z : u = ndS v0 sv0 v1 sv1 c s
      · rw [if_pos z, if_pos z.symm, z, Nat.add_assoc]
      · rw [if_neg z, if_neg (fun y => z y.symm), Nat.add_zero]
    · rw [d2.L (oc5 _ (by omega)) (by omega), b5, kWs, hnF, Nat.add_assoc]
    · rw [d2.L (oc5 _ (by omega)) (by omega), b3, kWs, Nat.add_assoc]
    · rw [d2.L (oc5 _ (by omega)) (by omega), b4, kWs, Nat.add_assoc]
    · rw [d2.I (oc5 _ (by omega)), b6'.I (oc4 o (by omega))]
      exact hkp2 o ho k
  generalize hxx : nxS v0 sv0 c s = x0 at *
  subst a1
  unfold zX3_share_B82
  simp -dsimp (disch := first | assumption | omega) only [lit_0, lit_1, lit_2, lit_3, lit_4, lit_5, lit_6, lit_7, lit_8, lit_9, lit_10, lit_11, lit_12, lit_13, lit_14, lit_15, lit_16, lit_17, lit_18, lit_19, lit_20, lit_21, lit_22, lit_23, lit_24, lit_25, lit_26, lit_27, lit_28, lit_29, lit_30, lit_31, lit_32, lit_33, lit_34, lit_35, lit_36, lit_37, lit_38, lit_39, lit_40, lit_41, lit_42, lit_43, lit_44, lit_45, lit_46, lit_47, lit_48, lit_49, lit_50, lit_51, lit_52, lit_53, lit_54, lit_55, lit_56, lit_57, lit_58, lit_59, lit_60, lit_61, lit_62, lit_63, lit_64, lit_97, lit_99, lit_100, lit_122, lit_175, lit_176, lit_200, lit_255, lit_400, lit_700, lit_800, lit_999, lit_1000, lit_1400, lit_2000, lit_2033, lit_2038, lit_2100, lit_2124, lit_8000, lit_10000, lit_12345, lit_32767, lit_1000000, lit_1000000000, neg_1, ↓bndX_h, ↓bndK_h, bxh_inl, bxh_inr, bkh_inl, bkh_inr, Nat.reduceEqDiff, ↓bnd_h, ↓lt_h, ↓ite_h, bh_some, lh_eq, ih_T, ih_F, ne_eq, not_false_eq_true, not_true_eq_false, eq_self, and_true, true_and, io_def, gI_m1]
  refine Wp.csh (fun z => ?_) (fun z => ?_)
  · subst z
    simp -dsimp (disch := first | assumption | omega) only [lit_0, lit_1, lit_2, lit_3, lit_4, lit_5, lit_6, lit_7, lit_8, lit_9, lit_10, lit_11, lit_12, lit_13, lit_14, lit_15, lit_16, lit_17, lit_18, lit_19, lit_20, lit_21, lit_22, lit_23, lit_24, lit_25, lit_26, lit_27, lit_28, lit_29, lit_30, lit_31, lit_32, lit_33, lit_34, lit_35, lit_36, lit_37, lit_38, lit_39, lit_40, lit_41, lit_42, lit_43, lit_44, lit_45, lit_46, lit_47, lit_48, lit_49, lit_50, lit_51, lit_52, lit_53, lit_54, lit_55, lit_56, lit_57, lit_58, lit_59, lit_60, lit_61, lit_62, lit_63, lit_64, lit_97, lit_99, lit_100, lit_122, lit_175, lit_176, lit_200, lit_255, lit_400, lit_700, lit_800, lit_999, lit_1000, lit_1400, lit_2000, lit_2033, lit_2038, lit_2100, lit_2124, lit_8000, lit_10000, lit_12345, lit_32767, lit_1000000, lit_1000000000, neg_1, ↓bndX_h, ↓bndK_h, bxh_inl, bxh_inr, bkh_inl, bkh_inr, Nat.reduceEqDiff, ↓bnd_h, ↓lt_h, ↓ite_h, bh_some, lh_eq, ih_T, ih_F, ne_eq, not_false_eq_true, not_true_eq_false, eq_self, and_true, true_and, io_def, gI_m1]
    exact key
  · have hgi : gI x0 = io (x0 - 1) := by unfold gI; rw [if_neg z]
    have eb := c_behind (st := c / 100) (x := x0 - 1) hr0 hv0 hX2.1.2.2.2.2.1 (by omega) (by omega)
    have hgo : goS (gSi v0) (c / 100) x0 = behS (gSi v0) (c / 100) (x0 - 1) := by unfold goS; rw [if_neg z]
    rw [hgo] at key
    rw [hgi]
    simp -dsimp (disch := first | assumption | omega) only [lit_0, lit_1, lit_2, lit_3, lit_4, lit_5, lit_6, lit_7, lit_8, lit_9, lit_10, lit_11, lit_12, lit_13, lit_14, lit_15, lit_16, lit_17, lit_18, lit_19, lit_20, lit_21, lit_22, lit_23, lit_24, lit_25, lit_26, lit_27, lit_28, lit_29, lit_30, lit_31, lit_32, lit_33, lit_34, lit_35, lit_36, lit_37, lit_38, lit_39, lit_40, lit_41, lit_42, lit_43, lit_44, lit_45, lit_46, lit_47, lit_48, lit_49, lit_50, lit_51, lit_52, lit_53, lit_54, lit_55, lit_56, lit_57, lit_58, lit_59, lit_60, lit_61, lit_62, lit_63, lit_64, lit_97, lit_99, lit_100, lit_122, lit_175, lit_176, lit_200, lit_255, lit_400, lit_700, lit_800, lit_999, lit_1000, lit_1400, lit_2000, lit_2033, lit_2038, lit_2100, lit_2124, lit_8000, lit_10000, lit_12345, lit_32767, lit_1000000, lit_1000000000, neg_1, ↓bndX_h, ↓bndK_h, bxh_inl, bxh_inr, bkh_inl, bkh_inr, Nat.reduceEqDiff, ↓bnd_h, ↓lt_h, ↓ite_h, bh_some, lh_eq, ih_T, ih_F, ne_eq, not_false_eq_true, not_true_eq_false, eq_self, and_true, true_and, io_def, io_m1, m1_io, K0_r, eb]
    exact key
