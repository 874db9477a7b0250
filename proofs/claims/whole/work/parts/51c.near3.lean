theorem GvI.keepG {M M' : Mem} {g r p : Nat} {v : GV} {sv : SV} (hr : isRu r) (hp : isSe p) (h : GvI M g r p v sv) (hI : ∀ o k, (o < 42 ∨ 62 < o) → mI M' o k = mI M o k) (hRg : ∀ k, mR M' g k = mR M g k) (hRr : ∀ k, mR M' r k = mR M r k) : GvI M' g r p v sv := by
  have hr' : ∀ k, k ≤ 5 → ∀ j, mI M' (r + k) j = mI M (r + k) j := fun k hk j => hI _ _ (by rcases hr with rfl | rfl | rfl <;> omega)
  have hp' : ∀ j, mI M' p j = mI M p j := fun j => hI _ _ (by rcases hp with rfl | rfl | rfl | rfl <;> omega)
  have hr0 : ∀ j, mI M' r j = mI M r j := hr' 0 (by omega)
  obtain ⟨h1, h2, h3, h4, h5, h6⟩ := h
  refine ⟨?_, ?_, ?_, ?_, ?_, ?_⟩
  · simpa only [PG, hRg] using h1
  · simpa only [hRg] using h2
  · simpa only [hRg] using h3
  · simpa only [PR, hRr] using h4
  · simpa only [CG, hr0, hr' 1 (by omega), hr' 2 (by omega), hr' 3 (by omega), hr' 4 (by omega), hr' 5 (by omega)] using h5
  · simpa only [CS, hp'] using h6
def NS (M : Mem) (r0 p0 r1 p1 : Nat) (v0 : GV) (sv0 : SV) (v1 : GV) (sv1 : SV) (cn ct : Nat) (cs : Nat → Nat) (F S A : Nat) : Prop := GX M r0 p0 v0 sv0 ∧ GY M r1 p1 v1 sv1 ∧ NK M cn ct ∧ CaI M cn 10000 cs ∧ (∃ ds, CaI M ct 10000 ds) ∧ mL M 52 4 = lo F ∧ mL M 52 5 = lo S ∧ mL M 52 6 = lo A
theorem c_nbegin {M : Mem} {r0 p0 r1 p1 s0 s1 cn ct : Nat} {v0 v1 : GV} {sv0 sv1 : SV} (hr0 : isRu r0) (hp0 : isSe p0) (hr1 : isRu r1) (hp1 : isSe p1) (hse : p1 = r1 + 6) (hPG : PG M 59) (hPR : PR M r1) (hC : CG M r1 v1) (hS : CS M p1 sv1) (hX : GX M r0 p0 v0 sv0) (hW : NK M cn ct) (hcn : ∃ cs, CaI M cn 10000 cs) (hct : ∃ ds, CaI M ct 10000 ds) (hc : s0 * 100 + s1 < 10000) :
    Wp (zX3_begin 52 r1 (io s0) (io s1) M) (fun _ M' => NS M' r0 p0 r1 p1 v0 sv0 v1 sv1 cn ct (nrS (gN v0) (gOd v0) (allO v0) (ndS v0 sv0 v1 sv1) (s0 * 100 + s1) 0) 0 0 0 ∧ Fg [(42, 44), (52, 62)] [(59, 59)] M M') := by
  obtain ⟨cs, hcn⟩ := hcn
  obtain ⟨ds, hct⟩ := hct
  obtain ⟨w0, w1, w2, w3, w4, w5, w6⟩ := hW
  obtain ⟨ic, it⟩ := ca_of2 w6
  have hcn0 : (cn = 0) = False ∧ (ct = 0) = False := by rcases w6 with ⟨rfl, rfl⟩ | ⟨rfl, rfl⟩ <;> simp
  have hr59 : r0 ≠ 59 ∧ r1 ≠ 59 := by rcases hr0 with rfl | rfl | rfl <;> rcases hr1 with rfl | rfl | rfl <;> omega
  have oc : ∀ o, (o = cn ∨ o = cn + 1 ∨ o = cn + 2 ∨ o = ct ∨ o = ct + 1 ∨ o = ct + 2) → (53 ≤ o ∧ o ≤ 58) := by
    intro o ho
    rcases w6 with ⟨rfl, rfl⟩ | ⟨rfl, rfl⟩ <;> omega
  have hp12 : mR M r1 12 = p1 := by rw [hPR.p12, hse]
  have hpne : (p1 = 0) = False := by rw [hse]; exact eq_false (by omega)
  unfold zX3_begin
  simp -dsimp (disch := first | assumption | omega) only [lit_0, lit_1, lit_2, lit_3, lit_4, lit_5, lit_6, lit_7, lit_8, lit_9, lit_10, lit_11, lit_12, lit_13, lit_14, lit_15, lit_16, lit_17, lit_18, lit_19, lit_20, lit_21, lit_22, lit_23, lit_24, lit_25, lit_26, lit_27, lit_28, lit_29, lit_30, lit_31, lit_32, lit_33, lit_34, lit_35, lit_36, lit_37, lit_38, lit_39, lit_40, lit_41, lit_42, lit_43, lit_44, lit_45, lit_46, lit_47, lit_48, lit_49, lit_50, lit_51, lit_52, lit_53, lit_54, lit_55, lit_56, lit_57, lit_58, lit_59, lit_60, lit_61, lit_62, lit_63, lit_64, lit_97, lit_99, lit_100, lit_122, lit_175, lit_176, lit_200, lit_255, lit_400, lit_700, lit_800, lit_999, lit_1000, lit_1400, lit_2000, lit_2033, lit_2038, lit_2100, lit_2124, lit_8000, lit_10000, lit_12345, lit_32767, lit_1000000, lit_1000000000, ↓bndX_h, ↓bndK_h, bxh_inl, bxh_inr, bkh_inl, bkh_inr, Nat.reduceEqDiff, ↓bnd_h, ↓lt_h, ↓ite_h, bh_some, lh_eq, ih_T, ih_F, ne_eq, not_false_eq_true, not_true_eq_false, eq_self, and_true, true_and, io_def, io_add, io_mul, io_sub, io_lt, io_le, io_eq, io_clamp, io_inbT, io_div, io_mod, io_m1, m1_io, m1_lt, m1_le, neg_1, gI_m1, K0_52, w1, K0_r, hp12, hpne, K0_59]
  refine Wp.seqh (c_begin (Or.inr rfl) hr1 hp1 hPG hPR hC hS) (fun _ M1 ⟨a1, a2, a3⟩ => ?_)
  have hX1 : GX M1 r0 p0 v0 sv0 := ⟨hX.1.keepG hr0 hp0 (fun o k h => a3.I (ob_1of (by omega))) (fun k => a3.R rfl) (fun k => a3.R (ob_1of (by omega))), hX.2.keepN a3 rfl⟩
  have hcn1 := hcn.keep a3 (ob_1of (by have := oc cn (by omega); omega)) (ob_1of (by have := oc (cn + 1) (by omega); omega)) (ob_1of (by have := oc (cn + 2) (by omega); omega))
  have hct1 := hct.keep a3 (ob_1of (by have := oc ct (by omega); omega)) (ob_1of (by have := oc (ct + 1) (by omega); omega)) (ob_1of (by have := oc (ct + 2) (by omega); omega))
  have hR : ∀ o k, o ≠ 59 → mR M1 o k = mR M o k := fun o k h => a3.R (ob_1of (by omega))
  have u4 : PCa M1 cn := ⟨(hR _ _ (by have := oc cn (by omega); omega)).trans w4.1, (hR _ _ (by have := oc cn (by omega); omega)).trans w4.2⟩
  have u5 : PCa M1 ct := ⟨(hR _ _ (by have := oc ct (by omega); omega)).trans w5.1, (hR _ _ (by have := oc ct (by omega); omega)).trans w5.2⟩
  have u2 : mR M1 52 2 = cn := (hR _ _ (by omega)).trans w2
  have hNK1 : NK M1 cn ct := ⟨(hR _ _ (by omega)).trans w0, (hR _ _ (by omega)).trans w1, u2, (hR _ _ (by omega)).trans w3, u4, u5, w6⟩
  simp -dsimp (disch := first | assumption | omega) only [lit_0, lit_1, lit_2, lit_3, lit_4, lit_5, lit_6, lit_7, lit_8, lit_9, lit_10, lit_11, lit_12, lit_13, lit_14, lit_15, lit_16, lit_17, lit_18, lit_19, lit_20, lit_21, lit_22, lit_23, lit_24, lit_25, lit_26, lit_27, lit_28, lit_29, lit_30, lit_31, lit_32, lit_33, lit_34, lit_35, lit_36, lit_37, lit_38, lit_39, lit_40, lit_41, lit_42, lit_43, lit_44, lit_45, lit_46, lit_47, lit_48, lit_49, lit_50, lit_51, lit_52, lit_53, lit_54, lit_55, lit_56, lit_57, lit_58, lit_59, lit_60, lit_61, lit_62, lit_63, lit_64, lit_97, lit_99, lit_100, lit_122, lit_175, lit_176, lit_200, lit_255, lit_400, lit_700, lit_800, lit_999, lit_1000, lit_1400, lit_2000, lit_2033, lit_2038, lit_2100, lit_2124, lit_8000, lit_10000, lit_12345, lit_32767, lit_1000000, lit_1000000000, ↓bndX_h, ↓bndK_h, bxh_inl, bxh_inr, bkh_inl, bkh_inr, Nat.reduceEqDiff, ↓bnd_h, ↓lt_h, ↓ite_h, bh_some, lh_eq, ih_T, ih_F, ne_eq, not_false_eq_true, not_true_eq_false, eq_self, and_true, true_and, io_def, lit64_0, mR_sL, u2, hcn0.1, K0_ca ic]
  have hF1 : Fg [(52, 52)] [] M1 (sL (sL (sL M1 52 4 (lo 0)) 52 5 (lo 0)) 52 6 (lo 0)) := ((Fg.refl.sL (Or.inl rfl)).sL (Or.inl rfl)).sL (Or.inl rfl)
  have l4 : mL (sL (sL (sL M1 52 4 (lo 0)) 52 5 (lo 0)) 52 6 (lo 0)) 52 4 = lo 0 := by rw [mL_diff (Or.inr (by omega)), mL_diff (Or.inr (by omega)), mL_same]
  have l5 : mL (sL (sL (sL M1 52 4 (lo 0)) 52 5 (lo 0)) 52 6 (lo 0)) 52 5 = lo 0 := by rw [mL_diff (Or.inr (by omega)), mL_same]
  have l6 : mL (sL (sL (sL M1 52 4 (lo 0)) 52 5 (lo 0)) 52 6 (lo 0)) 52 6 = lo 0 := mL_same
  generalize sL (sL (sL M1 52 4 (lo 0)) 52 5 (lo 0)) 52 6 (lo 0) = M2 at hF1 l4 l5 l6 ⊢
  have o52 : ∀ o, o ≠ 52 → ob [(52, 52)] o = true := fun o h => ob_1of (by omega)
  have hcn2 := hcn1.keep hF1 (o52 _ (by have := oc cn (by omega); omega)) (o52 _ (by have := oc (cn + 1) (by omega); omega)) (o52 _ (by have := oc (cn + 2) (by omega); omega))
  have hct2 := hct1.keep hF1 (o52 _ (by have := oc ct (by omega); omega)) (o52 _ (by have := oc (ct + 1) (by omega); omega)) (o52 _ (by have := oc (ct + 2) (by omega); omega))
  have hNK2 := hNK1.R (fun o k => hF1.2.2 o rfl k)
  refine Wp.seqh (c_clear ic hNK2.2.2.2.2.1 hcn2) (fun _ M3 ⟨b1, b2⟩ => ?_)
  have hNK3 := hNK2.R (fun o k => b2.2.2 o rfl k)
  have hadd := c_add (t := s0 * 100 + s1) (a := 1000000000) ic hNK3.2.2.2.2.1 b1 hc (by omega)
  have u2' := hNK3.2.2.1
  simp -dsimp (disch := first | assumption | omega) only [lit_0, lit_1, lit_2, lit_3, lit_4, lit_5, lit_6, lit_7, lit_8, lit_9, lit_10, lit_11, lit_12, lit_13, lit_14, lit_15, lit_16, lit_17, lit_18, lit_19, lit_20, lit_21, lit_22, lit_23, lit_24, lit_25, lit_26, lit_27, lit_28, lit_29, lit_30, lit_31, lit_32, lit_33, lit_34, lit_35, lit_36, lit_37, lit_38, lit_39, lit_40, lit_41, lit_42, lit_43, lit_44, lit_45, lit_46, lit_47, lit_48, lit_49, lit_50, lit_51, lit_52, lit_53, lit_54, lit_55, lit_56, lit_57, lit_58, lit_59, lit_60, lit_61, lit_62, lit_63, lit_64, lit_97, lit_99, lit_100, lit_122, lit_175, lit_176, lit_200, lit_255, lit_400, lit_700, lit_800, lit_999, lit_1000, lit_1400, lit_2000, lit_2033, lit_2038, lit_2100, lit_2124, lit_8000, lit_10000, lit_12345, lit_32767, lit_1000000, lit_1000000000, ↓bndX_h, ↓bndK_h, bxh_inl, bxh_inr, bkh_inl, bkh_inr, Nat.reduceEqDiff, ↓bnd_h, ↓lt_h, ↓ite_h, bh_some, lh_eq, ih_T, ih_F, ne_eq, not_false_eq_true, not_true_eq_false, eq_self, and_true, true_and, io_def, io_add, io_mul, io_sub, io_lt, io_le, io_eq, io_clamp, io_inbT, io_div, io_mod, io_m1, m1_io, m1_lt, m1_le, neg_1, gI_m1, u2', hcn0.1, K0_ca ic]
  refine Wp.seqh hadd (fun _ M4 ⟨d1, d2⟩ => ?_)
  have occ : ∀ o, (o < 53 ∨ 58 < o ∨ o = ct ∨ o = ct + 1 ∨ o = ct + 2) → ob [(cn, cn + 2)] o = true := fun o h => ob_1of (by rcases w6 with ⟨rfl, rfl⟩ | ⟨rfl, rfl⟩ <;> omega)
  have b2' : Fg [(cn, cn + 2)] [] M2 M3 := b2.sub (fun o ho => by simp only [ob, Bool.and_true, Bool.and_eq_true, Bool.or_eq_true, decide_eq_true_eq] at ho ⊢; omega) (fun _ q => q)
  have e2 := b2'.trans d2
  have hFt : Fg [(42, 44), (52, 62)] [] M1 M4 := (hF1.sub (fun o ho => by simp only [ob, Bool.and_true, Bool.and_eq_true, Bool.or_eq_true, decide_eq_true_eq] at ho ⊢; omega) (fun _ q => q)).trans (e2.sub (fun o ho => occ o (by simp only [ob, Bool.and_true, Bool.and_eq_true, Bool.or_eq_true, decide_eq_true_eq] at ho; omega)) (fun _ q => q))
  refine Wp.ret ⟨⟨?_, ?_, hNK3.R (fun o k => d2.2.2 o rfl k), d1.ext (fun u => ?_), ⟨ds, hct2.keep e2 (occ _ (by omega)) (occ _ (by omega)) (occ _ (by omega))⟩, ?_, ?_, ?_⟩, ?_⟩
  · exact (hX1.keepN hr0 hp0 hF1 (fun o h => o52 o (by omega)) (fun _ _ => rfl) rfl).keepN hr0 hp0 e2 (fun o h => occ o (by omega)) (fun _ _ => rfl) (occ _ (by omega))
  · have hY1 : GY M1 r1 p1 v1 sv1 := ⟨a1, a2⟩
    exact (hY1.keepN hr1 hp1 hF1 (fun o h => o52 o (by omega)) (fun _ _ => rfl) rfl).keepN hr1 hp1 e2 (fun o h => occ o (by omega)) (fun _ _ => rfl) (occ _ (by omega))
  · show (if u = s0 * 100 + s1 then 0 + 1000000000 else 0) = if u = s0 * 100 + s1 then 1000000000 else 0
    rw [Nat.zero_add]
  · rw [e2.L (occ _ (by omega)) (by omega)]; exact l4
  · rw [e2.L (occ _ (by omega)) (by omega)]; exact l5
  · rw [e2.L (occ _ (by omega)) (by omega)]; exact l6
  · exact (a3.sub (fun o ho => by simp only [ob, Bool.and_true, Bool.and_eq_true, Bool.or_eq_true, decide_eq_true_eq] at ho ⊢; omega) (fun _ q => q)).trans (hFt.sub (fun _ q => q) (fun _ _ => rfl))
theorem nw_none {n all c0 k : Nat} {od : Nat → Nat} {d w : Nat → Nat → Nat} (h : n = 0) : nwS n od all d w c0 k = 0 := by
  subst h
  exact sumN_zero (fun j _ => sumN_zero (fun c _ => rfl))
theorem c_ngo {M : Mem} {r0 p0 r1 p1 n c0 : Nat} {v0 v1 : GV} {sv0 sv1 : SV} (hr0 : isRu r0) (hp0 : isSe p0) (hr1 : isRu r1) (hp1 : isSe p1) (hv0 : okG v0) (hs0 : okS sv0) (hv1 : okG v1) (hs1 : okS sv1) (hn : n ≤ 60) (hc0 : okC v0 v1 c0)
    (h : ∃ cn ct, NS M r0 p0 r1 p1 v0 sv0 v1 sv1 cn ct (nrS (gN v0) (gOd v0) (allO v0) (ndS v0 sv0 v1 sv1) c0 0) 0 0 0) :
    Wp (zX3_go 52 (io n) M) (fun _ M' => (∃ cn ct cs F S A, NS M' r0 p0 r1 p1 v0 sv0 v1 sv1 cn ct cs F S A) ∧ mL M' 52 4 = lo (nwS (gN v0) (gOd v0) (allO v0) (ndS v0 sv0 v1 sv1) (nwF v0 sv0) c0 n) ∧ mL M' 52 5 = lo (nwS (gN v0) (gOd v0) (allO v0) (ndS v0 sv0 v1 sv1) (nwG v0 sv0 v1 sv1) c0 n) ∧ mL M' 52 6 = lo (nwS (gN v0) (gOd v0) (allO v0) (ndS v0 sv0 v1 sv1) (nwA v0 sv0 v1 sv1) c0 n) ∧ Fg [(42, 44), (52, 62)] [(52, 52)] M M') := by
  have hn8 := okG_n hv0
  unfold zX3_go
  simp -dsimp (disch := first | assumption | omega) only [lit_0, lit_1, lit_2, lit_3, lit_4, lit_5, lit_6, lit_7, lit_8, lit_9, lit_10, lit_11, lit_12, lit_13, lit_14, lit_15, lit_16, lit_17, lit_18, lit_19, lit_20, lit_21, lit_22, lit_23, lit_24, lit_25, lit_26, lit_27, lit_28, lit_29, lit_30, lit_31, lit_32, lit_33, lit_34, lit_35, lit_36, lit_37, lit_38, lit_39, lit_40, lit_41, lit_42, lit_43, lit_44, lit_45, lit_46, lit_47, lit_48, lit_49, lit_50, lit_51, lit_52, lit_53, lit_54, lit_55, lit_56, lit_57, lit_58, lit_59, lit_60, lit_61, lit_62, lit_63, lit_64, lit_97, lit_99, lit_100, lit_122, lit_175, lit_176, lit_200, lit_255, lit_400, lit_700, lit_800, lit_999, lit_1000, lit_1400, lit_2000, lit_2033, lit_2038, lit_2100, lit_2124, lit_8000, lit_10000, lit_12345, lit_32767, lit_1000000, lit_1000000000, ↓bndX_h, ↓bndK_h, bxh_inl, bxh_inr, bkh_inl, bkh_inr, Nat.reduceEqDiff, ↓bnd_h, ↓lt_h, ↓ite_h, bh_some, lh_eq, ih_T, ih_F, ne_eq, not_false_eq_true, not_true_eq_false, eq_self, and_true, true_and, io_def, K0_52]
  generalize hFU : FU = fu
  rw [FU_val] at hFU
  have hFF : FU = fu := by rw [FU_val]; exact hFU
  have hall : sumN (gN v0) (gOd v0) = allO v0 := rfl
  have hok := fun (h : 0 < gN v0) => nr_ok (OK := okC v0 v1) hall (allO_pos hv0 h) hc0 (fun c s hc hs => nd_ok (sv0 := sv0) (sv1 := sv1) hv0 hv1 hc hs)
  have hcs : ∀ k, nrS (gN v0) (gOd v0) (allO v0) (ndS v0 sv0 v1 sv1) c0 (k + 1) = skC (gN v0) (gOd v0) (allO v0) (ndS v0 sv0 v1 sv1) (nrS (gN v0) (gOd v0) (allO v0) (ndS v0 sv0 v1 sv1) c0 k) := fun _ => rfl
  have hws : ∀ w k, nwS (gN v0) (gOd v0) (allO v0) (ndS v0 sv0 v1 sv1) w c0 (k + 1) = nwS (gN v0) (gOd v0) (allO v0) (ndS v0 sv0 v1 sv1) w c0 k + skW (gN v0) (gOd v0) (allO v0) w (nrS (gN v0) (gOd v0) (allO v0) (ndS v0 sv0 v1 sv1) c0 k) := fun _ _ => rfl
  refine loopW (L := fun f (k : Nat) U => zX3_go_L2 f 52 (io n) (io k) U) (J := fun k U => k ≤ n ∧ (∃ cn ct, NS U r0 p0 r1 p1 v0 sv0 v1 sv1 cn ct (nrS (gN v0) (gOd v0) (allO v0) (ndS v0 sv0 v1 sv1) c0 k) (nwS (gN v0) (gOd v0) (allO v0) (ndS v0 sv0 v1 sv1) (nwF v0 sv0) c0 k) (nwS (gN v0) (gOd v0) (allO v0) (ndS v0 sv0 v1 sv1) (nwG v0 sv0 v1 sv1) c0 k) (nwS (gN v0) (gOd v0) (allO v0) (ndS v0 sv0 v1 sv1) (nwA v0 sv0 v1 sv1) c0 k)) ∧ Fg [(42, 44), (52, 62)] [(52, 52)] M U) (fun k _ => n - k) ?_ fu 0 M ⟨Nat.zero_le _, h, Fg.refl⟩ (by omega)
  clear h
  intro f0 k U ⟨hk, ⟨cn, ct, hU⟩, hFU2⟩ rec0
  show Wp (zX3_go_B2 (zX3_go_L2 f0) 52 (io n) (io k) U) _
  have hU9 := hU
  obtain ⟨hX, hY, hW, hcn, ⟨ds, hct⟩, hF, hS, hA⟩ := hU
  have hW9 := hW
  obtain ⟨w0, w1, w2, w3, w4, w5, w6⟩ := hW
  obtain ⟨ic, it⟩ := ca_of2 w6
  have hcn0 : (cn = 0) = False ∧ (ct = 0) = False := by rcases w6 with ⟨rfl, rfl⟩ | ⟨rfl, rfl⟩ <;> simp
  have e41 := hX.1.2.1
  have cz := hX.1.2.2.2.2.1.1
  unfold zX3_go_B2
  simp -dsimp (disch := first | assumption | omega) only [lit_0, lit_1, lit_2, lit_3, lit_4, lit_5, lit_6, lit_7, lit_8, lit_9, lit_10, lit_11, lit_12, lit_13, lit_14, lit_15, lit_16, lit_17, lit_18, lit_19, lit_20, lit_21, lit_22, lit_23, lit_24, lit_25, lit_26, lit_27, lit_28, lit_29, lit_30, lit_31, lit_32, lit_33, lit_34, lit_35, lit_36, lit_37, lit_38, lit_39, lit_40, lit_41, lit_42, lit_43, lit_44, lit_45, lit_46, lit_47, lit_48, lit_49, lit_50, lit_51, lit_52, lit_53, lit_54, lit_55, lit_56, lit_57, lit_58, lit_59, lit_60, lit_61, lit_62, lit_63, lit_64, lit_97, lit_99, lit_100, lit_122, lit_175, lit_176, lit_200, lit_255, lit_400, lit_700, lit_800, lit_999, lit_1000, lit_1400, lit_2000, lit_2033, lit_2038, lit_2100, lit_2124, lit_8000, lit_10000, lit_12345, lit_32767, lit_1000000, lit_1000000000, ↓bndX_h, ↓bndK_h, bxh_inl, bxh_inr, bkh_inl, bkh_inr, Nat.reduceEqDiff, ↓bnd_h, ↓lt_h, ↓ite_h, bh_some, lh_eq, ih_T, ih_F, ne_eq, not_false_eq_true, not_true_eq_false, eq_self, and_true, true_and, io_def, io_add, io_mul, io_sub, io_lt, io_le, io_eq, io_clamp, io_inbT, io_div, io_mod, io_m1, m1_io, m1_lt, m1_le, neg_1, gI_m1]
  refine Wp.csh (fun c => ?_) (fun c => ?_)
  · have : k = n := by omega
    subst this
    exact Wp.ret ⟨⟨cn, ct, _, _, _, _, hU9⟩, hF, hS, hA, hFU2⟩
  simp -dsimp (disch := first | assumption | omega) only [lit_0, lit_1, lit_2, lit_3, lit_4, lit_5, lit_6, lit_7, lit_8, lit_9, lit_10, lit_11, lit_12, lit_13, lit_14, lit_15, lit_16, lit_17, lit_18, lit_19, lit_20, lit_21, lit_22, lit_23, lit_24, lit_25, lit_26, lit_27, lit_28, lit_29, lit_30, lit_31, lit_32, lit_33, lit_34, lit_35, lit_36, lit_37, lit_38, lit_39, lit_40, lit_41, lit_42, lit_43, lit_44, lit_45, lit_46, lit_47, lit_48, lit_49, lit_50, lit_51, lit_52, lit_53, lit_54, lit_55, lit_56, lit_57, lit_58, lit_59, lit_60, lit_61, lit_62, lit_63, lit_64, lit_97, lit_99, lit_100, lit_122, lit_175, lit_176, lit_200, lit_255, lit_400, lit_700, lit_800, lit_999, lit_1000, lit_1400, lit_2000, lit_2033, lit_2038, lit_2100, lit_2124, lit_8000, lit_10000, lit_12345, lit_32767, lit_1000000, lit_1000000000, ↓bndX_h, ↓bndK_h, bxh_inl, bxh_inr, bkh_inl, bkh_inr, Nat.reduceEqDiff, ↓bnd_h, ↓lt_h, ↓ite_h, bh_some, lh_eq, ih_T, ih_F, ne_eq, not_false_eq_true, not_true_eq_false, eq_self, and_true, true_and, io_def, io_add, io_mul, io_sub, io_lt, io_le, io_eq, io_clamp, io_inbT, io_div, io_mod, io_m1, m1_io, m1_lt, m1_le, neg_1, gI_m1, w0, K0_41, e41, K0_r, ru_ne, cz]
  refine Wp.csh (fun c1 => ?_) (fun c1 => ?_)
  · have hg0 : gN v0 = 0 := by omega
    have ez : ∀ w j, nwS (gN v0) (gOd v0) (allO v0) (ndS v0 sv0 v1 sv1) w c0 j = 0 := fun w j => nw_none hg0
    refine Wp.ret ⟨⟨cn, ct, _, _, _, _, hU9⟩, ?_, ?_, ?_, hFU2⟩
    · rw [ez]; rw [ez] at hF; exact hF
    · rw [ez]; rw [ez] at hS; exact hS
    · rw [ez]; rw [ez] at hA; exact hA
  have hgp : 0 < gN v0 := by omega
  have hap := allO_pos hv0 hgp
  obtain ⟨hsum, hsu⟩ := hok hgp k
  have hcs1 := hcs k
  have hwF := hws (nwF v0 sv0) k
  have hwG := hws (nwG v0 sv0 v1 sv1) k
  have hwA := hws (nwA v0 sv0 v1 sv1) k
  generalize nrS (gN v0) (gOd v0) (allO v0) (ndS v0 sv0 v1 sv1) c0 k = cs at hcn hsum hsu hcs1 hwF hwG hwA hU9
  generalize nwS (gN v0) (gOd v0) (allO v0) (ndS v0 sv0 v1 sv1) (nwF v0 sv0) c0 k = F at hF hwF hU9
  generalize nwS (gN v0) (gOd v0) (allO v0) (ndS v0 sv0 v1 sv1) (nwG v0 sv0 v1 sv1) c0 k = S at hS hwG hU9
  generalize nwS (gN v0) (gOd v0) (allO v0) (ndS v0 sv0 v1 sv1) (nwA v0 sv0 v1 sv1) c0 k = A at hA hwA hU9
  have oc : ∀ o, (o = cn ∨ o = cn + 1 ∨ o = cn + 2 ∨ o = ct ∨ o = ct + 1 ∨ o = ct + 2) → (53 ≤ o ∧ o ≤ 58) := by
    intro o ho
    rcases w6 with ⟨rfl, rfl⟩ | ⟨rfl, rfl⟩ <;> omega
  have oct : ∀ o, (o < 53 ∨ 58 < o ∨ o = cn ∨ o = cn + 1 ∨ o = cn + 2) → ob [(ct, ct + 1)] o = true := fun o h => ob_1of (by rcases w6 with ⟨rfl, rfl⟩ | ⟨rfl, rfl⟩ <;> omega)
  obtain ⟨pl, h1, h2, h3, h4, h5, h6⟩ := hcn
  have hcn : CaI U cn 10000 cs := ⟨pl, h1, h2, h3, h4, h5, h6⟩
  have hlen : pl.length ≤ 10000 := nodup_len h1 (fun t ht => h3 t ((h2 t).mp ht))
  have hle : ∀ t, cs t ≤ 1000000000 := by
    intro t
    by_cases q : cs t = 0
    · omega
    · exact Nat.le_trans (sumN_mem (h3 t q)) hsum
  have hplN : ∀ f : Nat → Nat, (∀ t, cs t = 0 → f t = 0) → sumL pl f = sumN 10000 f := fun f hf => sumL_N h1 (fun t ht => h3 t ((h2 t).mp ht)) (fun t _ ht => hf t (Classical.byContradiction (fun q => ht ((h2 t).mpr q))))
  simp -dsimp (disch := first | assumption | omega) only [lit_0, lit_1, lit_2, lit_3, lit_4, lit_5, lit_6, lit_7, lit_8, lit_9, lit_10, lit_11, lit_12, lit_13, lit_14, lit_15, lit_16, lit_17, lit_18, lit_19, lit_20, lit_21, lit_22, lit_23, lit_24, lit_25, lit_26, lit_27, lit_28, lit_29, lit_30, lit_31, lit_32, lit_33, lit_34, lit_35, lit_36, lit_37, lit_38, lit_39, lit_40, lit_41, lit_42, lit_43, lit_44, lit_45, lit_46, lit_47, lit_48, lit_49, lit_50, lit_51, lit_52, lit_53, lit_54, lit_55, lit_56, lit_57, lit_58, lit_59, lit_60, lit_61, lit_62, lit_63, lit_64, lit_97, lit_99, lit_100, lit_122, lit_175, lit_176, lit_200, lit_255, lit_400, lit_700, lit_800, lit_999, lit_1000, lit_1400, lit_2000, lit_2033, lit_2038, lit_2100, lit_2124, lit_8000, lit_10000, lit_12345, lit_32767, lit_1000000, lit_1000000000, ↓bndX_h, ↓bndK_h, bxh_inl, bxh_inr, bkh_inl, bkh_inr, Nat.reduceEqDiff, ↓bnd_h, ↓lt_h, ↓ite_h, bh_some, lh_eq, ih_T, ih_F, ne_eq, not_false_eq_true, not_true_eq_false, eq_self, and_true, true_and, io_def, w3, hcn0.2, K0_ca it]
  refine Wp.seqh (c_clear it w5 hct) (fun _ M1 ⟨a1, a2⟩ => ?_)
  have a3 : Fg [(42, 44), (52, 62)] [] U M1 := a2.sub (fun o ho => oct o (by simp only [ob, Bool.and_true, Bool.and_eq_true, Bool.or_eq_true, decide_eq_true_eq] at ho; omega)) (fun _ q => q)
  simp -dsimp (disch := first | assumption | omega) only [lit_0, lit_1, lit_2, lit_3, lit_4, lit_5, lit_6, lit_7, lit_8, lit_9, lit_10, lit_11, lit_12, lit_13, lit_14, lit_15, lit_16, lit_17, lit_18, lit_19, lit_20, lit_21, lit_22, lit_23, lit_24, lit_25, lit_26, lit_27, lit_28, lit_29, lit_30, lit_31, lit_32, lit_33, lit_34, lit_35, lit_36, lit_37, lit_38, lit_39, lit_40, lit_41, lit_42, lit_43, lit_44, lit_45, lit_46, lit_47, lit_48, lit_49, lit_50, lit_51, lit_52, lit_53, lit_54, lit_55, lit_56, lit_57, lit_58, lit_59, lit_60, lit_61, lit_62, lit_63, lit_64, lit_97, lit_99, lit_100, lit_122, lit_175, lit_176, lit_200, lit_255, lit_400, lit_700, lit_800, lit_999, lit_1000, lit_1400, lit_2000, lit_2033, lit_2038, lit_2100, lit_2124, lit_8000, lit_10000, lit_12345, lit_32767, lit_1000000, lit_1000000000, ↓bndX_h, ↓bndK_h, bxh_inl, bxh_inr, bkh_inl, bkh_inr, Nat.reduceEqDiff, ↓bnd_h, ↓lt_h, ↓ite_h, bh_some, lh_eq, ih_T, ih_F, ne_eq, not_false_eq_true, not_true_eq_false, eq_self, and_true, true_and, io_def, hFF]
  refine loopW (L := fun f (i : Nat) N => zX3_go_L29 (zX3_go_L2 f0) f 52 (io n) (io k) (io i) N)
    (J := fun i N => i ≤ pl.length ∧ GX N r0 p0 v0 sv0 ∧ GY N r1 p1 v1 sv1 ∧ CaI N cn 10000 cs ∧ CaI N ct 10000 (fun u => sumL (pl.take i) (fun c => kC (gN v0) (gOd v0) (allO v0) (ndS v0 sv0 v1 sv1) cs u c (gN v0))) ∧ mL N 52 4 = lo (F + sumL (pl.take i) (fun c => kW (gN v0) (gOd v0) (allO v0) (nwF v0 sv0) cs c (gN v0))) ∧ mL N 52 5 = lo (S + sumL (pl.take i) (fun c => kW (gN v0) (gOd v0) (allO v0) (nwG v0 sv0 v1 sv1) cs c (gN v0))) ∧ mL N 52 6 = lo (A + sumL (pl.take i) (fun c => kW (gN v0) (gOd v0) (allO v0) (nwA v0 sv0 v1 sv1) cs c (gN v0))) ∧ mI N cn 2 = io pl.length ∧ (∀ i, (h : i < pl.length) → mI N (cn + 2) i = io pl[i]) ∧ Fg [(42, 44), (52, 62)] [] U N)
    (fun i _ => pl.length - i) ?_ fu 0 M1 ⟨Nat.zero_le _, hX.keepN hr0 hp0 a2 (fun o h => oct o (by omega)) (fun _ _ => rfl) (oct _ (by omega)), hY.keepN hr1 hp1 a2 (fun o h => oct o (by omega)) (fun _ _ => rfl) (oct _ (by omega)), hcn.keep a2 (oct _ (by omega)) (oct _ (by omega)) (oct _ (by omega)), a1, by rw [a2.L (oct _ (by omega)) (by omega)]; exact hF, by rw [a2.L (oct _ (by omega)) (by omega)]; exact hS, by rw [a2.L (oct _ (by omega)) (by omega)]; exact hA, by rw [a2.I (oct _ (by omega))]; exact h4, fun i hi => by rw [a2.I (oct _ (by omega))]; exact h5 i hi, a3⟩ (by omega)
  clear hX hY hct hF hS hA
  intro f i N ⟨hi, hX, hY, hcnN, hct, hF, hS, hA, hsz, hpl, hFr⟩ rec
  show Wp (zX3_go_B29 (zX3_go_L2 f0) (zX3_go_L29 (zX3_go_L2 f0) f) 52 (io n) (io k) (io i) N) _
  unfold zX3_go_B29
  have hW := hW9.R (fun o k => hFr.2.2 o rfl k)
  have hWN := hW
  obtain ⟨w0, w1, w2, w3, w4, w5, -⟩ := hW
  simp -dsimp (disch := first | assumption | omega) only [lit_0, lit_1, lit_2, lit_3, lit_4, lit_5, lit_6, lit_7, lit_8, lit_9, lit_10, lit_11, lit_12, lit_13, lit_14, lit_15, lit_16, lit_17, lit_18, lit_19, lit_20, lit_21, lit_22, lit_23, lit_24, lit_25, lit_26, lit_27, lit_28, lit_29, lit_30, lit_31, lit_32, lit_33, lit_34, lit_35, lit_36, lit_37, lit_38, lit_39, lit_40, lit_41, lit_42, lit_43, lit_44, lit_45, lit_46, lit_47, lit_48, lit_49, lit_50, lit_51, lit_52, lit_53, lit_54, lit_55, lit_56, lit_57, lit_58, lit_59, lit_60, lit_61, lit_62, lit_63, lit_64, lit_97, lit_99, lit_100, lit_122, lit_175, lit_176, lit_200, lit_255, lit_400, lit_700, lit_800, lit_999, lit_1000, lit_1400, lit_2000, lit_2033, lit_2038, lit_2100, lit_2124, lit_8000, lit_10000, lit_12345, lit_32767, lit_1000000, lit_1000000000, ↓bndX_h, ↓bndK_h, bxh_inl, bxh_inr, bkh_inl, bkh_inr, Nat.reduceEqDiff, ↓bnd_h, ↓lt_h, ↓ite_h, bh_some, lh_eq, ih_T, ih_F, ne_eq, not_false_eq_true, not_true_eq_false, eq_self, and_true, true_and, io_def, w2, hcn0.1, K0_ca ic, hsz, io_le]
  refine Wp.csh (fun c2 => ?_) (fun c2 => ?_)
  · have ei : i = pl.length := by omega
    subst ei
    rw [List.take_length] at *
    simp -dsimp (disch := first | assumption | omega) only [lit_0, lit_1, lit_2, lit_3, lit_4, lit_5, lit_6, lit_7, lit_8, lit_9, lit_10, lit_11, lit_12, lit_13, lit_14, lit_15, lit_16, lit_17, lit_18, lit_19, lit_20, lit_21, lit_22, lit_23, lit_24, lit_25, lit_26, lit_27, lit_28, lit_29, lit_30, lit_31, lit_32, lit_33, lit_34, lit_35, lit_36, lit_37, lit_38, lit_39, lit_40, lit_41, lit_42, lit_43, lit_44, lit_45, lit_46, lit_47, lit_48, lit_49, lit_50, lit_51, lit_52, lit_53, lit_54, lit_55, lit_56, lit_57, lit_58, lit_59, lit_60, lit_61, lit_62, lit_63, lit_64, lit_97, lit_99, lit_100, lit_122, lit_175, lit_176, lit_200, lit_255, lit_400, lit_700, lit_800, lit_999, lit_1000, lit_1400, lit_2000, lit_2033, lit_2038, lit_2100, lit_2124, lit_8000, lit_10000, lit_12345, lit_32767, lit_1000000, lit_1000000000, ↓bndX_h, ↓bndK_h, bxh_inl, bxh_inr, bkh_inl, bkh_inr, Nat.reduceEqDiff, ↓bnd_h, ↓lt_h, ↓ite_h, bh_some, lh_eq, ih_T, ih_F, ne_eq, not_false_eq_true, not_true_eq_false, eq_self, and_true, true_and, io_def, io_add, io_mul, io_sub, io_lt, io_le, io_eq, io_clamp, io_inbT, io_div, io_mod, io_m1, m1_io, m1_lt, m1_le, neg_1, gI_m1, w2, w3, hcn0.2]
    have hFs2 : Fg [] [(52, 52)] N (sR (sR N 52 2 ct) 52 3 cn) := (Fg.refl.sR rfl).sR rfl
    have e9 : ∀ o k, o ≠ 52 → mR (sR (sR N 52 2 ct) 52 3 cn) o k = mR N o k := fun o k ho => by rw [mR_sR, if_neg (fun z => ho z.1), mR_sR, if_neg (fun z => ho z.1)]
    have hne : cn ≠ 52 ∧ ct ≠ 52 := by have := oc cn (by omega); have := oc ct (by omega); omega
    have hFend : Fg [(42, 44), (52, 62)] [(52, 52)] M (sR (sR N 52 2 ct) 52 3 cn) := (hFU2.trans (hFr.sub (fun _ q => q) (fun _ _ => rfl))).trans (hFs2.sub (fun _ _ => rfl) (fun _ q => q))
    refine rec0 (k + 1) _ ⟨by omega, ⟨ct, cn, hX.keepN hr0 hp0 hFs2 (fun _ _ => rfl) (fun o h => ob_1of (by omega)) rfl, hY.keepN hr1 hp1 hFs2 (fun _ _ => rfl) (fun o h => ob_1of (by omega)) rfl, ?_, hct.ext (fun u => ?_), ⟨cs, hcnN⟩, ?_, ?_, ?_⟩, hFend⟩ (by omega)
    · refine ⟨by simp [mR_sR]; exact w0, by simp [mR_sR]; exact w1, by simp [mR_sR], by simp [mR_sR], ⟨(e9 _ _ hne.2).trans w5.1, (e9 _ _ hne.2).trans w5.2⟩, ⟨(e9 _ _ hne.1).trans w4.1, (e9 _ _ hne.1).trans w4.2⟩, by omega⟩
    · rw [hcs1, hplN _ (fun t ht => kC_zero ht)]; rfl
    · have e : skW (gN v0) (gOd v0) (allO v0) (nwF v0 sv0) cs = sumL pl (fun c => kW (gN v0) (gOd v0) (allO v0) (nwF v0 sv0) cs c (gN v0)) := (hplN _ (fun t ht => kW_zero ht)).symm
      rw [hwF, e]; exact hF
    · have e : skW (gN v0) (gOd v0) (allO v0) (nwG v0 sv0 v1 sv1) cs = sumL pl (fun c => kW (gN v0) (gOd v0) (allO v0) (nwG v0 sv0 v1 sv1) cs c (gN v0)) := (hplN _ (fun t ht => kW_zero ht)).symm
      rw [hwG, e]; exact hS
    · have e : skW (gN v0) (gOd v0) (allO v0) (nwA v0 sv0 v1 sv1) cs = sumL pl (fun c => kW (gN v0) (gOd v0) (allO v0) (nwA v0 sv0 v1 sv1) cs c (gN v0)) := (hplN _ (fun t ht => kW_zero ht)).symm
      rw [hwA, e]; exact hA
  · have hi2 : i < pl.length := by omega
    have hpi := hsu pl[i] ((h2 _).mp (List.getElem_mem hi2))
    have hds : ∀ u, sumL (pl.take i) (fun c => kC (gN v0) (gOd v0) (allO v0) (ndS v0 sv0 v1 sv1) cs u c (gN v0)) + cs pl[i] ≤ 2000000000 := by
      intro u
      have q1 : sumL (pl.take i) (fun c => kC (gN v0) (gOd v0) (allO v0) (ndS v0 sv0 v1 sv1) cs u c (gN v0)) ≤ sumL pl cs := Nat.le_trans (sumL_le (fun t => kC_le hall hap (Nat.le_refl _))) sumL_take_le
      rw [hplN cs (fun t ht => ht)] at q1
      have := hle pl[i]
      omega
    simp -dsimp (disch := first | assumption | omega) only [lit_0, lit_1, lit_2, lit_3, lit_4, lit_5, lit_6, lit_7, lit_8, lit_9, lit_10, lit_11, lit_12, lit_13, lit_14, lit_15, lit_16, lit_17, lit_18, lit_19, lit_20, lit_21, lit_22, lit_23, lit_24, lit_25, lit_26, lit_27, lit_28, lit_29, lit_30, lit_31, lit_32, lit_33, lit_34, lit_35, lit_36, lit_37, lit_38, lit_39, lit_40, lit_41, lit_42, lit_43, lit_44, lit_45, lit_46, lit_47, lit_48, lit_49, lit_50, lit_51, lit_52, lit_53, lit_54, lit_55, lit_56, lit_57, lit_58, lit_59, lit_60, lit_61, lit_62, lit_63, lit_64, lit_97, lit_99, lit_100, lit_122, lit_175, lit_176, lit_200, lit_255, lit_400, lit_700, lit_800, lit_999, lit_1000, lit_1400, lit_2000, lit_2033, lit_2038, lit_2100, lit_2124, lit_8000, lit_10000, lit_12345, lit_32767, lit_1000000, lit_1000000000, ↓bndX_h, ↓bndK_h, bxh_inl, bxh_inr, bkh_inl, bkh_inr, Nat.reduceEqDiff, ↓bnd_h, ↓lt_h, ↓ite_h, bh_some, lh_eq, ih_T, ih_F, ne_eq, not_false_eq_true, not_true_eq_false, eq_self, and_true, true_and, io_def, w2, hcn0.1, K0_ca ic, c_placeOf ic w4 hlen hpl hi2]
    refine Wp.seqh (c_nshare hr0 hp0 hr1 hp1 hv0 hs0 hv1 hs1 hX hY hWN hcnN hct hpi (hle _) hds hF hS hA) (fun _ N2 ⟨b1, b2, b3, b4, b5, b6, b7, bk, b8⟩ => ?_)
    simp -dsimp (disch := first | assumption | omega) only [lit_0, lit_1, lit_2, lit_3, lit_4, lit_5, lit_6, lit_7, lit_8, lit_9, lit_10, lit_11, lit_12, lit_13, lit_14, lit_15, lit_16, lit_17, lit_18, lit_19, lit_20, lit_21, lit_22, lit_23, lit_24, lit_25, lit_26, lit_27, lit_28, lit_29, lit_30, lit_31, lit_32, lit_33, lit_34, lit_35, lit_36, lit_37, lit_38, lit_39, lit_40, lit_41, lit_42, lit_43, lit_44, lit_45, lit_46, lit_47, lit_48, lit_49, lit_50, lit_51, lit_52, lit_53, lit_54, lit_55, lit_56, lit_57, lit_58, lit_59, lit_60, lit_61, lit_62, lit_63, lit_64, lit_97, lit_99, lit_100, lit_122, lit_175, lit_176, lit_200, lit_255, lit_400, lit_700, lit_800, lit_999, lit_1000, lit_1400, lit_2000, lit_2033, lit_2038, lit_2100, lit_2124, lit_8000, lit_10000, lit_12345, lit_32767, lit_1000000, lit_1000000000, ↓bndX_h, ↓bndK_h, bxh_inl, bxh_inr, bkh_inl, bkh_inr, Nat.reduceEqDiff, ↓bnd_h, ↓lt_h, ↓ite_h, bh_some, lh_eq, ih_T, ih_F, ne_eq, not_false_eq_true, not_true_eq_false, eq_self, and_true, true_and, io_def, io_add, io_mul, io_sub, io_lt, io_le, io_eq, io_clamp, io_inbT, io_div, io_mod, io_m1, m1_io, m1_lt, m1_le, neg_1, gI_m1]
    refine rec (i + 1) N2 ⟨by omega, b1, b2, b3, b4.ext (fun u => by rw [sumL_take hi2]), ?_, ?_, ?_, ?_, ?_, hFr.trans b8⟩ (by omega)
    · rw [b5, sumL_take hi2, Nat.add_assoc]
    · rw [b6, sumL_take hi2, Nat.add_assoc]
    · rw [b7, sumL_take hi2, Nat.add_assoc]
    · rw [bk cn (Or.inl rfl)]; exact hsz
    · intro j hj
      rw [bk (cn + 2) (Or.inr (Or.inr rfl))]; exact hpl j hj
