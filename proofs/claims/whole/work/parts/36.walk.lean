/-! ===== LEVEL 2: the class's walk in its place ===== -/
def FS (M M' : Mem) : Prop := Fg [(41, 71)] [(41, 71)] M M'
theorem FS.trans {M M1 M2 : Mem} (h : FS M M1) (h' : FS M1 M2) : FS M M2 := Fg.trans h h'
theorem FS.of {p q : List (Nat × Nat)} {M M' : Mem} (h : Fg p q M M') (hp : ∀ o, o < 41 ∨ 71 < o → ob p o = true) (hq : ∀ o, o < 41 ∨ 71 < o → ob q o = true) : FS M M' :=
  h.sub (fun o ho => hp o (by simpa only [ob, Bool.and_true, Bool.or_eq_true, decide_eq_true_eq] using ho)) (fun o ho => hq o (by simpa only [ob, Bool.and_true, Bool.or_eq_true, decide_eq_true_eq] using ho))
theorem FS.top {M M' : Mem} (h : FS M M') : Fg [(1, 71)] [(1, 71)] M M' := h.sub (fun o ho => by simp only [ob, Bool.and_true, Bool.or_eq_true, decide_eq_true_eq] at ho ⊢; omega) (fun o ho => by simp only [ob, Bool.and_true, Bool.or_eq_true, decide_eq_true_eq] at ho ⊢; omega)
theorem ICp.FS {M M' : Mem} {R : Nat → Nat} {V : VV} (h : ICp M R V) (hF : FS M M') : ICp M' R V :=
  h.keepF hF (fun o ho => ⟨by simp only [ob, Bool.and_true, Bool.or_eq_true, decide_eq_true_eq]; omega, by simp only [ob, Bool.and_true, Bool.or_eq_true, decide_eq_true_eq]; omega⟩)
theorem ob_1of {a b o : Nat} (h : o < a ∨ b < o) : ob [(a, b)] o = true := by
  simp only [ob, Bool.and_true, Bool.or_eq_true, decide_eq_true_eq]
  exact h
/-- what a run must bring to leave what is reckoned anew in order -/
theorem ICs.mk2 {M M' : Mem} (h : ICs M) (hR : ∀ o k, 41 ≤ o → o ≤ 71 → (o ≠ 41 ∨ (2 ≤ k ∧ k ≤ 4)) → (o ≠ 45 ∨ k = 0) → mR M' o k = mR M o k) (hI : ∀ o k, 52 ≤ o → o ≤ 58 → mI M' o k = mI M o k)
    (h45 : (mR M' 45 1 = 46 ∧ mR M' 45 2 = 49) ∨ (mR M' 45 1 = 49 ∧ mR M' 45 2 = 46)) (h1 : ∃ cs, CaI M' 46 100 cs) (h2 : ∃ cs, CaI M' 49 100 cs) : ICs M' := by
  obtain ⟨a1, a2, a3, a4, a5, ⟨c3, a6⟩, ⟨c4, a7⟩⟩ := h
  refine ⟨fun t ht => ?_, h45, ?_, h1, h2, ⟨c3, ?_⟩, ⟨c4, ?_⟩⟩
  · have : ∀ t ∈ PTc2, 41 ≤ t.1 ∧ t.1 ≤ 71 ∧ (t.1 ≠ 41 ∨ (2 ≤ t.2.1 ∧ t.2.1 ≤ 4)) ∧ (t.1 ≠ 45 ∨ t.2.1 = 0) := by decide
    obtain ⟨q1, q2, q3, q4⟩ := this t ht
    rw [hR _ _ q1 q2 q3 q4]
    exact a1 t ht
  · rw [hR 52 2 (by omega) (by omega) (by omega) (by omega), hR 52 3 (by omega) (by omega) (by omega) (by omega)]; exact a3
  · simpa only [CaI, hI 53 _ (by omega) (by omega), Nat.reduceAdd, hI 54 _ (by omega) (by omega), hI 55 _ (by omega) (by omega)] using a6
  · simpa only [CaI, hI 56 _ (by omega) (by omega), Nat.reduceAdd, hI 57 _ (by omega) (by omega), hI 58 _ (by omega) (by omega)] using a7
theorem ICs.PG {M : Mem} (h : ICs M) : PG M 41 := ⟨h.1.p41_2, h.1.p41_3, h.1.p41_4⟩
theorem ICs.WK {M : Mem} (h : ICs M) : ∃ cn ct, WK M cn ct ∧ (∃ cs, CaI M cn 100 cs) ∧ ∃ ds, CaI M ct 100 ds := by
  obtain ⟨a1, a2, a3, a4, a5, -⟩ := h
  have w0 := a1.p45_0
  have p46 : PCa M 46 := ⟨a1.p46_0, a1.p46_1⟩
  have p49 : PCa M 49 := ⟨a1.p49_0, a1.p49_1⟩
  rcases a2 with ⟨e1, e2⟩ | ⟨e1, e2⟩
  · exact ⟨46, 49, ⟨w0, e1, e2, p46, p49, Or.inl ⟨rfl, rfl⟩⟩, a4, a5⟩
  · exact ⟨49, 46, ⟨w0, e1, e2, p49, p46, Or.inr ⟨rfl, rfl⟩⟩, a5, a4⟩
theorem ICs.WS {M M' : Mem} {r p cn ct G A : Nat} {v : GV} {sv : SV} {cs : Nat → Nat} (h : ICs M) (hW : WS M' r p v sv cn ct cs G A) (hF : Fg [(42, 51)] [(45, 45)] M M') : ICs M' := by
  obtain ⟨hX, ⟨w0, w1, w2, w3, w4, w5⟩, hcn, hct, -⟩ := hW
  refine h.mk2 (fun o k h1 h2 h3 h4 => ?_) (fun o k h1 _ => hF.I (ob_1of (by omega))) ?_ ?_ ?_
  · by_cases q : o = 45
    · subst q
      have : k = 0 := by omega
      subst this
      rw [w0, h.1.p45_0]
    · exact hF.R (ob_1of (by omega))
  · rcases w5 with ⟨rfl, rfl⟩ | ⟨rfl, rfl⟩
    · exact Or.inl ⟨w1, w2⟩
    · exact Or.inr ⟨w1, w2⟩
  · rcases w5 with ⟨rfl, rfl⟩ | ⟨rfl, rfl⟩
    · exact ⟨_, hcn⟩
    · exact hct
  · rcases w5 with ⟨rfl, rfl⟩ | ⟨rfl, rfl⟩
    · exact hct
    · exact ⟨_, hcn⟩
theorem c_gbegin {M : Mem} {R : Nat → Nat} {V : VV} {r p : Nat} {v : GV} {sv : SV} (hIp : ICp M R V) (hIs : ICs M) (hr : isRu r) (hp : isSe p) (hC : CG M r v) (hS : CS M p sv) :
    Wp (zX5_begin 41 r p M) (fun _ M' => GX M' r p v sv ∧ ICp M' R V ∧ ICs M' ∧ FS M M') := by
  refine (c_begin (Or.inl rfl) hr hp hIs.PG (hIp.1.PR hr) hC hS).mono (fun _ M' ⟨a1, a2, a3⟩ => ?_)
  have hF : FS M M' := FS.of a3 (fun o ho => ob_1of (by omega)) (fun o ho => ob_1of (by omega))
  refine ⟨⟨a1, a2⟩, hIp.FS hF, ?_, hF⟩
  refine hIs.mk2 (fun o k h1 h2 h3 h4 => ?_) (fun o k h1 _ => a3.I (ob_1of (by omega))) ?_ ?_ ?_
  · by_cases q : o = 41
    · subst q
      have hk : k = 2 ∨ k = 3 ∨ k = 4 := by omega
      rcases hk with rfl | rfl | rfl
      · rw [a1.1.1, hIs.PG.1]
      · rw [a1.1.2.1, hIs.PG.2.1]
      · rw [a1.1.2.2, hIs.PG.2.2]
    · exact a3.R (ob_1of (by omega))
  · rw [a3.R rfl, a3.R rfl]; exact hIs.2.1
  · obtain ⟨cs, h⟩ := hIs.2.2.2.1
    exact ⟨cs, h.keep a3 rfl rfl rfl⟩
  · obtain ⟨cs, h⟩ := hIs.2.2.2.2.1
    exact ⟨cs, h.keep a3 rfl rfl rfl⟩
theorem c_wbegin {M : Mem} {R : Nat → Nat} {V : VV} {r p seed : Nat} {v : GV} {sv : SV} (hIp : ICp M R V) (hIs : ICs M) (hr : isRu r) (hp : isSe p) (hX : GX M r p v sv) (hs : seed < 100) :
    Wp (zX10_begin 45 (io seed) M) (fun _ M' => (∃ cn ct, WS M' r p v sv cn ct (csV v sv seed 0) (gvV v sv seed 0) (awV v sv seed 0)) ∧ ICp M' R V ∧ ICs M' ∧ FS M M') := by
  obtain ⟨cn, ct, hW, ⟨cs, hcn⟩, ⟨ds, hct⟩⟩ := hIs.WK
  have hW9 := hW
  obtain ⟨w0, w1, w2, w3, w4, w5⟩ := hW
  obtain ⟨ic, it⟩ := ca_of w5
  have hcn0 : (cn = 0) = False ∧ (ct = 0) = False := by rcases w5 with ⟨rfl, rfl⟩ | ⟨rfl, rfl⟩ <;> simp
  have e0 : csV v sv seed 0 = (fun t => if t = seed then 1000000000 else 0) := by unfold csV; split <;> rfl
  unfold zX10_begin
  simp -dsimp (disch := first | assumption | omega) only [lit_0, lit_1, lit_2, lit_3, lit_4, lit_5, lit_6, lit_7, lit_8, lit_9, lit_10, lit_11, lit_12, lit_13, lit_14, lit_15, lit_16, lit_17, lit_18, lit_19, lit_20, lit_21, lit_22, lit_23, lit_24, lit_25, lit_26, lit_27, lit_28, lit_29, lit_30, lit_31, lit_32, lit_33, lit_34, lit_35, lit_36, lit_37, lit_38, lit_39, lit_40, lit_41, lit_42, lit_43, lit_44, lit_45, lit_46, lit_47, lit_48, lit_49, lit_50, lit_51, lit_52, lit_53, lit_54, lit_55, lit_56, lit_57, lit_58, lit_59, lit_60, lit_61, lit_62, lit_63, lit_64, lit_97, lit_99, lit_100, lit_122, lit_175, lit_176, lit_200, lit_255, lit_400, lit_700, lit_800, lit_999, lit_1000, lit_1400, lit_2000, lit_2033, lit_2038, lit_2100, lit_2124, lit_8000, lit_10000, lit_12345, lit_32767, lit_1000000, lit_1000000000, ↓bndX_h, ↓bndK_h, bxh_inl, bxh_inr, bkh_inl, bkh_inr, Nat.reduceEqDiff, ↓bnd_h, ↓lt_h, ↓ite_h, bh_some, lh_eq, ih_T, ih_F, ne_eq, not_false_eq_true, not_true_eq_false, eq_self, and_true, true_and, io_def, false_and, and_false, if_false, if_true, and_self, mI_sI, mI_sL, mL_sI, mL_sL, mR_sI, mR_sL, K0_45, w1, hcn0.1, K0_ca ic, lit64_0]
  refine Wp.seqh (c_clear (M := sL (sL M 45 3 (lo 0)) 45 4 (lo 0)) ic w3 hcn) (fun _ M1 ⟨a1, a2⟩ => ?_)
  have hP1 : PCa M1 cn := ⟨(a2.2.2 _ rfl _).trans w3.1, (a2.2.2 _ rfl _).trans w3.2⟩
  have hw1 : mR M1 45 1 = cn := (a2.2.2 _ rfl _).trans w1
  simp -dsimp (disch := first | assumption | omega) only [lit_0, lit_1, lit_2, lit_3, lit_4, lit_5, lit_6, lit_7, lit_8, lit_9, lit_10, lit_11, lit_12, lit_13, lit_14, lit_15, lit_16, lit_17, lit_18, lit_19, lit_20, lit_21, lit_22, lit_23, lit_24, lit_25, lit_26, lit_27, lit_28, lit_29, lit_30, lit_31, lit_32, lit_33, lit_34, lit_35, lit_36, lit_37, lit_38, lit_39, lit_40, lit_41, lit_42, lit_43, lit_44, lit_45, lit_46, lit_47, lit_48, lit_49, lit_50, lit_51, lit_52, lit_53, lit_54, lit_55, lit_56, lit_57, lit_58, lit_59, lit_60, lit_61, lit_62, lit_63, lit_64, lit_97, lit_99, lit_100, lit_122, lit_175, lit_176, lit_200, lit_255, lit_400, lit_700, lit_800, lit_999, lit_1000, lit_1400, lit_2000, lit_2033, lit_2038, lit_2100, lit_2124, lit_8000, lit_10000, lit_12345, lit_32767, lit_1000000, lit_1000000000, ↓bndX_h, ↓bndK_h, bxh_inl, bxh_inr, bkh_inl, bkh_inr, Nat.reduceEqDiff, ↓bnd_h, ↓lt_h, ↓ite_h, bh_some, lh_eq, ih_T, ih_F, ne_eq, not_false_eq_true, not_true_eq_false, eq_self, and_true, true_and, io_def, hw1, hcn0.1, K0_ca ic]
  refine Wp.seqh (c_add ic hP1 a1 hs (by omega)) (fun _ M2 ⟨b1, b2⟩ => Wp.ret ?_)
  have hF : Fg [(45, 51)] [] M M2 := by
    have f0 : Fg [(45, 51)] [] M (sL (sL M 45 3 (lo 0)) 45 4 (lo 0)) := (Fg.refl.sL (Or.inl rfl)).sL (Or.inl rfl)
    refine (f0.trans (a2.sub (fun o ho => ?_) (fun _ h => h))).trans (b2.sub (fun o ho => ?_) (fun _ h => h))
    · simp only [ob, Bool.and_true, Bool.or_eq_true, decide_eq_true_eq] at ho ⊢; rcases w5 with ⟨rfl, rfl⟩ | ⟨rfl, rfl⟩ <;> omega
    · simp only [ob, Bool.and_true, Bool.or_eq_true, decide_eq_true_eq] at ho ⊢; rcases w5 with ⟨rfl, rfl⟩ | ⟨rfl, rfl⟩ <;> omega
  have oct : ∀ o, (o = 45 ∨ o = ct ∨ o = ct + 1 ∨ o = ct + 2) → ob [(cn, cn + 1)] o = true ∧ ob [(cn, cn + 2)] o = true := by
    intro o ho
    simp only [ob, Bool.and_true, Bool.or_eq_true, decide_eq_true_eq]
    rcases w5 with ⟨rfl, rfl⟩ | ⟨rfl, rfl⟩ <;> omega
  have hFS : FS M M2 := FS.of hF (fun o ho => ob_1of (by omega)) (fun _ _ => rfl)
  have hWS : WS M2 r p v sv cn ct (csV v sv seed 0) (gvV v sv seed 0) (awV v sv seed 0) := by
    refine ⟨hX.keepW hr hp (hF.sub (fun _ h => h) (fun _ _ => rfl)), hW9.R (fun o k => hF.2.2 o rfl k), ?_, ⟨ds, ?_⟩, ?_, ?_⟩
    · rw [e0]
      exact b1.ext (fun u => by simp)
    · exact ((CaI.sL (CaI.sL hct)).keep a2 (oct _ (by omega)).1 (oct _ (by omega)).1 (oct _ (by omega)).1).keep b2 (oct _ (by omega)).2 (oct _ (by omega)).2 (oct _ (by omega)).2
    · rw [b2.L (oct _ (Or.inl rfl)).2 (by omega), a2.L (oct _ (Or.inl rfl)).1 (by omega)]
      simp [mL_sL]; rfl
    · rw [b2.L (oct _ (Or.inl rfl)).2 (by omega), a2.L (oct _ (Or.inl rfl)).1 (by omega)]
      simp [mL_sL]; rfl
  exact ⟨⟨cn, ct, hWS⟩, hIp.FS hFS, hIs.WS hWS (hF.sub (fun o ho => by simp only [ob, Bool.and_true, Bool.or_eq_true, decide_eq_true_eq] at ho ⊢; omega) (fun _ _ => rfl)), hFS⟩
theorem c_wgo {M : Mem} {R : Nat → Nat} {V : VV} {r p b n : Nat} {v : GV} {sv : SV} {seed : Nat} (hIp : ICp M R V) (hIs : ICs M) (hr : isRu r) (hp : isSe p) (hv : okG v) (hsv : okS sv) (hs : seed < stN (gSi v)) (hb : b ≤ 1000) (hn : n ≤ 400) (h : ∃ cn ct, WS M r p v sv cn ct (csV v sv seed b) (gvV v sv seed b) (awV v sv seed b)) :
    Wp (zX10_go 45 (io n) M) (fun _ M' => (∃ cn ct, WS M' r p v sv cn ct (csV v sv seed (b + n)) (gvV v sv seed (b + n)) (awV v sv seed (b + n))) ∧ ICp M' R V ∧ ICs M' ∧ FS M M') := by
  obtain ⟨cn, ct, h⟩ := h
  refine (c_go hr hp hv hsv hs hb hn h).mono (fun _ M' ⟨⟨cn', ct', a1⟩, a2⟩ => ?_)
  have hF : FS M M' := FS.of a2 (fun o ho => ob_1of (by omega)) (fun o ho => ob_1of (by omega))
  exact ⟨⟨cn', ct', a1⟩, hIp.FS hF, hIs.WS a1 a2, hF⟩
theorem CG.FS {M M' : Mem} {r : Nat} {v : GV} (hr : isRu r) (h : CG M r v) (hF : FS M M') : CG M' r v :=
  h.keep (fun j hj k => hF.I (ob_1of (by rcases hr with rfl | rfl | rfl <;> omega)))
theorem c_walkAlong {M : Mem} {R : Nat → Nat} {V : VV} {g n : Nat} (hV : okV V) (hIp : ICp M R V) (hIs : ICs M) (hg : g < 2) (hn : n ≤ 400) :
    Wp (zX11_walkAlong 1 (gid g) (io n) M) (fun _ M' => (∃ cn ct, WS M' (R g) (R g + 6) (vG V g) (vS V g) cn ct (csV (vG V g) (vS V g) (bSe (vB V g)) n) (gvV (vG V g) (vS V g) (bSe (vB V g)) n) (awV (vG V g) (vS V g) (bSe (vB V g)) n)) ∧ ICp M' R V ∧ ICs M' ∧ FS M M') := by
  obtain ⟨hvg, hvs, hvb, -⟩ := hV.1 g hg
  obtain ⟨hC, hS, hB, -⟩ := hIp.2.2.1 g hg
  have hP1 := hIp.1
  have r0 := hIp.2.1.r0 hg
  have hru := hIp.2.1.ru hg
  have hse := isSe_of hru
  have hPR := hP1.PR hru
  have hst := stN_le (gSi (vG V g))
  have hseed := hvb.1
  unfold zX11_walkAlong
  simp -dsimp (disch := first | assumption | omega) only [neg_1, lit_0, lit_1, lit_2, lit_3, lit_4, lit_5, lit_6, lit_7, lit_8, lit_9, lit_10, lit_11, lit_12, lit_13, lit_14, lit_15, lit_16, lit_17, lit_18, lit_19, lit_20, lit_21, lit_22, lit_23, lit_24, lit_25, lit_26, lit_27, lit_28, lit_29, lit_30, lit_31, lit_32, lit_33, lit_34, lit_35, lit_36, lit_37, lit_38, lit_39, lit_40, lit_41, lit_42, lit_43, lit_44, lit_45, lit_46, lit_47, lit_48, lit_49, lit_50, lit_51, lit_52, lit_53, lit_54, lit_55, lit_56, lit_57, lit_58, lit_59, lit_60, lit_61, lit_62, lit_63, lit_64, lit_97, lit_99, lit_100, lit_122, lit_175, lit_176, lit_200, lit_255, lit_400, lit_700, lit_800, lit_999, lit_1000, lit_1400, lit_2000, lit_2033, lit_2038, lit_2100, lit_2124, lit_8000, lit_10000, lit_12345, lit_32767, lit_1000000, lit_1000000000, ↓bndX_h, ↓bndK_h, bxh_inl, bxh_inr, bkh_inl, bkh_inr, Nat.reduceEqDiff, ↓bnd_h, ↓lt_h, ↓ite_h, bh_some, lh_eq, ih_T, ih_F, ne_eq, not_false_eq_true, not_true_eq_false, eq_self, and_true, true_and, io_def, io_add, io_mul, io_sub, io_lt, io_le, io_eq, io_clamp, io_inbT, io_div, io_mod, io_m1, m1_io, m1_lt, m1_le, neg_1, gI_m1, K0_1, PC1.p1_0, PC1.p1_1, PC1.p1_2, PC1.p1_3, PC1.p1_4, PC1.p1_7, PC1.p1_8, PC1.p1_9, PC1.p1_10, PC1.p1_11, PC1.p1_12, K0_2, K0_39, K0_40, K0_41, K0_45, K0_52, K0_63, K0_66, K0_71, K0_gid, gid_ne, K0_bid, bid_ne, K0_kid, kid_ne, K0_bid1, K0_bid2, K0_kid1, K0_kid2, GP.r1, GP.r2, GP.b5, GP.b6, GP.k5, GP.k6, c_gateOf, succ_ne, c_ask_in, c_ask_out, c_askn_in, c_askn_out, c_range_in, c_range_out, K0_r, K0_r1, K0_r2, K0_r3, K0_r4, K0_r5, K0_r6, ru_ne, PR.p7, PR.p8, PR.p9, PR.p10, PR.p11, PR.p12, at_r1, at_r2, at_r3, at_r4, at_r5, succ_ne, K0_se, se_ne, K0_r6, r0]
  refine Wp.seqh (c_gbegin hIp hIs hru hse hC hS) (fun _ M1 ⟨a1, a2, a3, a4⟩ => ?_)
  have hP1' := a2.1
  have b0 := (a2.2.2.1 g hg).2.2.1.1
  simp -dsimp (disch := first | assumption | omega) only [neg_1, lit_0, lit_1, lit_2, lit_3, lit_4, lit_5, lit_6, lit_7, lit_8, lit_9, lit_10, lit_11, lit_12, lit_13, lit_14, lit_15, lit_16, lit_17, lit_18, lit_19, lit_20, lit_21, lit_22, lit_23, lit_24, lit_25, lit_26, lit_27, lit_28, lit_29, lit_30, lit_31, lit_32, lit_33, lit_34, lit_35, lit_36, lit_37, lit_38, lit_39, lit_40, lit_41, lit_42, lit_43, lit_44, lit_45, lit_46, lit_47, lit_48, lit_49, lit_50, lit_51, lit_52, lit_53, lit_54, lit_55, lit_56, lit_57, lit_58, lit_59, lit_60, lit_61, lit_62, lit_63, lit_64, lit_97, lit_99, lit_100, lit_122, lit_175, lit_176, lit_200, lit_255, lit_400, lit_700, lit_800, lit_999, lit_1000, lit_1400, lit_2000, lit_2033, lit_2038, lit_2100, lit_2124, lit_8000, lit_10000, lit_12345, lit_32767, lit_1000000, lit_1000000000, ↓bndX_h, ↓bndK_h, bxh_inl, bxh_inr, bkh_inl, bkh_inr, Nat.reduceEqDiff, ↓bnd_h, ↓lt_h, ↓ite_h, bh_some, lh_eq, ih_T, ih_F, ne_eq, not_false_eq_true, not_true_eq_false, eq_self, and_true, true_and, io_def, io_add, io_mul, io_sub, io_lt, io_le, io_eq, io_clamp, io_inbT, io_div, io_mod, io_m1, m1_io, m1_lt, m1_le, neg_1, gI_m1, K0_1, PC1.p1_0, PC1.p1_1, PC1.p1_2, PC1.p1_3, PC1.p1_4, PC1.p1_7, PC1.p1_8, PC1.p1_9, PC1.p1_10, PC1.p1_11, PC1.p1_12, K0_2, K0_39, K0_40, K0_41, K0_45, K0_52, K0_63, K0_66, K0_71, K0_gid, gid_ne, K0_bid, bid_ne, K0_kid, kid_ne, K0_bid1, K0_bid2, K0_kid1, K0_kid2, GP.r1, GP.r2, GP.b5, GP.b6, GP.k5, GP.k6, c_gateOf, succ_ne, c_ask_in, c_ask_out, c_askn_in, c_askn_out, c_range_in, c_range_out, K0_r, K0_r1, K0_r2, K0_r3, K0_r4, K0_r5, K0_r6, ru_ne, PR.p7, PR.p8, PR.p9, PR.p10, PR.p11, PR.p12, at_r1, at_r2, at_r3, at_r4, at_r5, succ_ne, K0_se, se_ne, K0_r6, b0]
  refine Wp.seqh (c_wbegin a2 a3 hru hse a1 (show bSe (vB V g) < 100 by omega)) (fun _ M2 ⟨b1, b2, b3, b4⟩ => ?_)
  have hP2 := b2.1
  simp -dsimp (disch := first | assumption | omega) only [neg_1, lit_0, lit_1, lit_2, lit_3, lit_4, lit_5, lit_6, lit_7, lit_8, lit_9, lit_10, lit_11, lit_12, lit_13, lit_14, lit_15, lit_16, lit_17, lit_18, lit_19, lit_20, lit_21, lit_22, lit_23, lit_24, lit_25, lit_26, lit_27, lit_28, lit_29, lit_30, lit_31, lit_32, lit_33, lit_34, lit_35, lit_36, lit_37, lit_38, lit_39, lit_40, lit_41, lit_42, lit_43, lit_44, lit_45, lit_46, lit_47, lit_48, lit_49, lit_50, lit_51, lit_52, lit_53, lit_54, lit_55, lit_56, lit_57, lit_58, lit_59, lit_60, lit_61, lit_62, lit_63, lit_64, lit_97, lit_99, lit_100, lit_122, lit_175, lit_176, lit_200, lit_255, lit_400, lit_700, lit_800, lit_999, lit_1000, lit_1400, lit_2000, lit_2033, lit_2038, lit_2100, lit_2124, lit_8000, lit_10000, lit_12345, lit_32767, lit_1000000, lit_1000000000, ↓bndX_h, ↓bndK_h, bxh_inl, bxh_inr, bkh_inl, bkh_inr, Nat.reduceEqDiff, ↓bnd_h, ↓lt_h, ↓ite_h, bh_some, lh_eq, ih_T, ih_F, ne_eq, not_false_eq_true, not_true_eq_false, eq_self, and_true, true_and, io_def, io_add, io_mul, io_sub, io_lt, io_le, io_eq, io_clamp, io_inbT, io_div, io_mod, io_m1, m1_io, m1_lt, m1_le, neg_1, gI_m1, K0_1, PC1.p1_0, PC1.p1_1, PC1.p1_2, PC1.p1_3, PC1.p1_4, PC1.p1_7, PC1.p1_8, PC1.p1_9, PC1.p1_10, PC1.p1_11, PC1.p1_12, K0_2, K0_39, K0_40, K0_41, K0_45, K0_52, K0_63, K0_66, K0_71, K0_gid, gid_ne, K0_bid, bid_ne, K0_kid, kid_ne, K0_bid1, K0_bid2, K0_kid1, K0_kid2, GP.r1, GP.r2, GP.b5, GP.b6, GP.k5, GP.k6, c_gateOf, succ_ne, c_ask_in, c_ask_out, c_askn_in, c_askn_out, c_range_in, c_range_out, K0_r, K0_r1, K0_r2, K0_r3, K0_r4, K0_r5, K0_r6, ru_ne, PR.p7, PR.p8, PR.p9, PR.p10, PR.p11, PR.p12, at_r1, at_r2, at_r3, at_r4, at_r5, succ_ne, K0_se, se_ne, K0_r6]
  refine Wp.seqh (c_wgo b2 b3 hru hse hvg hvs hseed (by omega) hn b1) (fun _ M3 ⟨d1, d2, d3, d4⟩ => Wp.ret ?_)
  rw [Nat.zero_add] at d1
  exact ⟨d1, d2, d3, (a4.trans b4).trans d4⟩
