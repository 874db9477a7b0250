/-! ===== LEVEL 2: the class's comesOne, isLike, go ===== -/
theorem sumL_take {l : List Nat} {f : Nat → Nat} {i : Nat} (h : i < l.length) : sumL (l.take (i + 1)) f = sumL (l.take i) f + f l[i] := by
  induction l generalizing i with
  | nil => simp at h
  | cons a l ih =>
    cases i with
    | zero => simp [sumL]
    | succ i =>
      simp only [List.take_succ_cons, sumL, List.getElem_cons_succ]
      rw [ih (by simpa using h), Nat.add_assoc]
theorem sumL_le {l : List Nat} {f g : Nat → Nat} (h : ∀ t, f t ≤ g t) : sumL l f ≤ sumL l g := by
  induction l with
  | nil => exact Nat.le_refl _
  | cons a l ih => exact Nat.add_le_add (h a) ih
theorem sumL_take_le {l : List Nat} {f : Nat → Nat} {i : Nat} : sumL (l.take i) f ≤ sumL l f := by
  induction l generalizing i with
  | nil => simp
  | cons a l ih =>
    cases i with
    | zero => exact Nat.zero_le _
    | succ i => exact Nat.add_le_add_left ih _
theorem c_placeOf {M : Mem} {c N i : Nat} {pl : List Nat} (hc : isCa c N) (hP : PCa M c) (hlen : pl.length ≤ N) (hpl : ∀ i, (h : i < pl.length) → mI M (c + 2) i = io pl[i]) (hi : i < pl.length) : zX1_placeOf c (io i) M = some (io pl[i], M) := by
  have e := at_ca2 (M := M) hc (show i < N by omega)
  rw [hpl i hi] at e
  unfold zX1_placeOf
  simp -dsimp (disch := first | assumption | omega) only [lit_0, lit_1, lit_2, lit_3, lit_4, lit_5, lit_6, lit_7, lit_8, lit_9, lit_10, lit_11, lit_12, lit_13, lit_14, lit_15, lit_16, lit_17, lit_18, lit_19, lit_20, lit_21, lit_22, lit_23, lit_24, lit_25, lit_26, lit_27, lit_28, lit_29, lit_30, lit_31, lit_32, lit_33, lit_34, lit_35, lit_36, lit_37, lit_38, lit_39, lit_40, lit_41, lit_42, lit_43, lit_44, lit_45, lit_46, lit_47, lit_48, lit_49, lit_50, lit_51, lit_52, lit_53, lit_54, lit_55, lit_56, lit_57, lit_58, lit_59, lit_60, lit_61, lit_62, lit_63, lit_64, lit_97, lit_99, lit_100, lit_122, lit_175, lit_176, lit_200, lit_255, lit_400, lit_700, lit_800, lit_999, lit_1000, lit_1400, lit_2000, lit_2033, lit_2038, lit_2100, lit_2124, lit_8000, lit_10000, lit_12345, lit_32767, lit_1000000, lit_1000000000, ↓bndX_h, ↓bndK_h, bxh_inl, bxh_inr, bkh_inl, bkh_inr, Nat.reduceEqDiff, ↓bnd_h, ↓lt_h, ↓ite_h, bh_some, lh_eq, ih_T, ih_F, ne_eq, not_false_eq_true, not_true_eq_false, eq_self, and_true, true_and, io_def, K0_ca hc, hP.2, succ_ne, e]
theorem c_amountOf {M : Mem} {c N t : Nat} {cs : Nat → Nat} (hc : isCa c N) (hP : PCa M c) (h : CaI M c N cs) (ht : t < N) : zX1_amountOf c (io t) M = some (io (cs t), M) := by
  obtain ⟨_, _, _, _, _, _, a6⟩ := h
  have e := at_ca1 (M := M) hc ht
  rw [a6 t ht] at e
  unfold zX1_amountOf
  simp -dsimp (disch := first | assumption | omega) only [lit_0, lit_1, lit_2, lit_3, lit_4, lit_5, lit_6, lit_7, lit_8, lit_9, lit_10, lit_11, lit_12, lit_13, lit_14, lit_15, lit_16, lit_17, lit_18, lit_19, lit_20, lit_21, lit_22, lit_23, lit_24, lit_25, lit_26, lit_27, lit_28, lit_29, lit_30, lit_31, lit_32, lit_33, lit_34, lit_35, lit_36, lit_37, lit_38, lit_39, lit_40, lit_41, lit_42, lit_43, lit_44, lit_45, lit_46, lit_47, lit_48, lit_49, lit_50, lit_51, lit_52, lit_53, lit_54, lit_55, lit_56, lit_57, lit_58, lit_59, lit_60, lit_61, lit_62, lit_63, lit_64, lit_97, lit_99, lit_100, lit_122, lit_175, lit_176, lit_200, lit_255, lit_400, lit_700, lit_800, lit_999, lit_1000, lit_1400, lit_2000, lit_2033, lit_2038, lit_2100, lit_2124, lit_8000, lit_10000, lit_12345, lit_32767, lit_1000000, lit_1000000000, ↓bndX_h, ↓bndK_h, bxh_inl, bxh_inr, bkh_inl, bkh_inr, Nat.reduceEqDiff, ↓bnd_h, ↓lt_h, ↓ite_h, bh_some, lh_eq, ih_T, ih_F, ne_eq, not_false_eq_true, not_true_eq_false, eq_self, and_true, true_and, io_def, K0_ca hc, hP.1, succ_ne, e]
theorem c_isLike {M : Mem} {c d N : Nat} {a b : Nat → Nat} (hc : isCa c N) (hd : isCa d N) (hPc : PCa M c) (hPd : PCa M d) (ha : CaI M c N a) (hb : CaI M d N b) (hal : ∀ t, a t ≤ 2000000000) (hbl : ∀ t, b t ≤ 2000000000) (hs : sumN N a = sumN N b) :
    Wp (zX1_isLike c d M) (fun x M' => (x ≠ io 0 → ∀ t, a t = b t) ∧ (x = io 0 ∨ x = io 1) ∧ M' = M) := by
  have hN := ca_N hc
  have ha9 := ha
  obtain ⟨pl, h1, h2, h3, h4, h5, h6⟩ := ha
  have hlen : pl.length ≤ N := nodup_len h1 (fun t ht => h3 t ((h2 t).mp ht))
  obtain ⟨ql, g1, g2, g3, g4, g5, g6⟩ := hb
  have hlen2 : ql.length ≤ N := nodup_len g1 (fun t ht => g3 t ((g2 t).mp ht))
  have hb9 : CaI M d N b := ⟨ql, g1, g2, g3, g4, g5, g6⟩
  unfold zX1_isLike
  simp -dsimp (disch := first | assumption | omega) only [lit_0, lit_1, lit_2, lit_3, lit_4, lit_5, lit_6, lit_7, lit_8, lit_9, lit_10, lit_11, lit_12, lit_13, lit_14, lit_15, lit_16, lit_17, lit_18, lit_19, lit_20, lit_21, lit_22, lit_23, lit_24, lit_25, lit_26, lit_27, lit_28, lit_29, lit_30, lit_31, lit_32, lit_33, lit_34, lit_35, lit_36, lit_37, lit_38, lit_39, lit_40, lit_41, lit_42, lit_43, lit_44, lit_45, lit_46, lit_47, lit_48, lit_49, lit_50, lit_51, lit_52, lit_53, lit_54, lit_55, lit_56, lit_57, lit_58, lit_59, lit_60, lit_61, lit_62, lit_63, lit_64, lit_97, lit_99, lit_100, lit_122, lit_175, lit_176, lit_200, lit_255, lit_400, lit_700, lit_800, lit_999, lit_1000, lit_1400, lit_2000, lit_2033, lit_2038, lit_2100, lit_2124, lit_8000, lit_10000, lit_12345, lit_32767, lit_1000000, lit_1000000000, ↓bndX_h, ↓bndK_h, bxh_inl, bxh_inr, bkh_inl, bkh_inr, Nat.reduceEqDiff, ↓bnd_h, ↓lt_h, ↓ite_h, bh_some, lh_eq, ih_T, ih_F, ne_eq, not_false_eq_true, not_true_eq_false, eq_self, and_true, true_and, io_def, K0_ca hc, K0_ca hd, h4, g4, io_eq]
  refine Wp.csh (fun _ => ?_) (fun _ => Wp.ret ⟨fun q => absurd rfl q, Or.inl rfl, rfl⟩)
  refine loopW (L := fun f (i : Nat) U => zX1_isLike_L15 f c d (io i) U) (J := fun i U => i ≤ pl.length ∧ U = M ∧ ∀ j, (h : j < pl.length) → j < i → a pl[j] = b pl[j]) (fun i _ => pl.length - i) ?_ FU 0 M ⟨Nat.zero_le _, rfl, fun j _ hj => absurd hj (Nat.not_lt_zero _)⟩ (by rw [FU_val]; omega)
  intro f i U ⟨hi, hN2, hall⟩ rec
  subst hN2
  show Wp (zX1_isLike_B15 _ _ _ _ _) _
  unfold zX1_isLike_B15
  simp -dsimp (disch := first | assumption | omega) only [lit_0, lit_1, lit_2, lit_3, lit_4, lit_5, lit_6, lit_7, lit_8, lit_9, lit_10, lit_11, lit_12, lit_13, lit_14, lit_15, lit_16, lit_17, lit_18, lit_19, lit_20, lit_21, lit_22, lit_23, lit_24, lit_25, lit_26, lit_27, lit_28, lit_29, lit_30, lit_31, lit_32, lit_33, lit_34, lit_35, lit_36, lit_37, lit_38, lit_39, lit_40, lit_41, lit_42, lit_43, lit_44, lit_45, lit_46, lit_47, lit_48, lit_49, lit_50, lit_51, lit_52, lit_53, lit_54, lit_55, lit_56, lit_57, lit_58, lit_59, lit_60, lit_61, lit_62, lit_63, lit_64, lit_97, lit_99, lit_100, lit_122, lit_175, lit_176, lit_200, lit_255, lit_400, lit_700, lit_800, lit_999, lit_1000, lit_1400, lit_2000, lit_2033, lit_2038, lit_2100, lit_2124, lit_8000, lit_10000, lit_12345, lit_32767, lit_1000000, lit_1000000000, ↓bndX_h, ↓bndK_h, bxh_inl, bxh_inr, bkh_inl, bkh_inr, Nat.reduceEqDiff, ↓bnd_h, ↓lt_h, ↓ite_h, bh_some, lh_eq, ih_T, ih_F, ne_eq, not_false_eq_true, not_true_eq_false, eq_self, and_true, true_and, io_def, h4, io_le]
  refine Wp.csh (fun c1 => ?_) (fun c1 => ?_)
  · refine Wp.ret ⟨fun _ => ?_, Or.inr rfl, rfl⟩
    have hle : ∀ t, t < N → a t ≤ b t := by
      intro t ht
      by_cases q : a t = 0
      · omega
      · obtain ⟨j, hj, e⟩ := List.getElem_of_mem ((h2 t).mpr q)
        have := hall j hj (by omega)
        rw [e] at this
        omega
    have heq := sumN_eq_of_le hle hs
    intro t
    by_cases q : t < N
    · exact heq t q
    · have e1 : a t = 0 := Classical.byContradiction (fun z => q (h3 t z))
      have e2 : b t = 0 := Classical.byContradiction (fun z => q (g3 t z))
      rw [e1, e2]
  · have hi2 : i < pl.length := by omega
    have hpi := h3 pl[i] ((h2 _).mp (List.getElem_mem hi2))
    have e3 := at_ca2 (M := U) hc (show i < _ by omega)
    rw [h5 i hi2] at e3
    have hx1 := hal pl[i]
    have hx2 := hbl pl[i]
    simp -dsimp (disch := first | assumption | omega) only [lit_0, lit_1, lit_2, lit_3, lit_4, lit_5, lit_6, lit_7, lit_8, lit_9, lit_10, lit_11, lit_12, lit_13, lit_14, lit_15, lit_16, lit_17, lit_18, lit_19, lit_20, lit_21, lit_22, lit_23, lit_24, lit_25, lit_26, lit_27, lit_28, lit_29, lit_30, lit_31, lit_32, lit_33, lit_34, lit_35, lit_36, lit_37, lit_38, lit_39, lit_40, lit_41, lit_42, lit_43, lit_44, lit_45, lit_46, lit_47, lit_48, lit_49, lit_50, lit_51, lit_52, lit_53, lit_54, lit_55, lit_56, lit_57, lit_58, lit_59, lit_60, lit_61, lit_62, lit_63, lit_64, lit_97, lit_99, lit_100, lit_122, lit_175, lit_176, lit_200, lit_255, lit_400, lit_700, lit_800, lit_999, lit_1000, lit_1400, lit_2000, lit_2033, lit_2038, lit_2100, lit_2124, lit_8000, lit_10000, lit_12345, lit_32767, lit_1000000, lit_1000000000, ↓bndX_h, ↓bndK_h, bxh_inl, bxh_inr, bkh_inl, bkh_inr, Nat.reduceEqDiff, ↓bnd_h, ↓lt_h, ↓ite_h, bh_some, lh_eq, ih_T, ih_F, ne_eq, not_false_eq_true, not_true_eq_false, eq_self, and_true, true_and, io_def, io_add, io_mul, io_sub, io_lt, io_le, io_eq, io_clamp, io_inbT, io_div, io_mod, io_m1, m1_io, m1_lt, m1_le, neg_1, gI_m1, hPc.2, succ_ne, e3, c_amountOf hc hPc ha9 hpi, c_amountOf hd hPd hb9 hpi, K0_ca hd]
    refine Wp.csh (fun c2 => ?_) (fun c2 => Wp.ret ⟨fun q => absurd rfl q, Or.inl rfl, rfl⟩)
    simp -dsimp (disch := first | assumption | omega) only [lit_0, lit_1, lit_2, lit_3, lit_4, lit_5, lit_6, lit_7, lit_8, lit_9, lit_10, lit_11, lit_12, lit_13, lit_14, lit_15, lit_16, lit_17, lit_18, lit_19, lit_20, lit_21, lit_22, lit_23, lit_24, lit_25, lit_26, lit_27, lit_28, lit_29, lit_30, lit_31, lit_32, lit_33, lit_34, lit_35, lit_36, lit_37, lit_38, lit_39, lit_40, lit_41, lit_42, lit_43, lit_44, lit_45, lit_46, lit_47, lit_48, lit_49, lit_50, lit_51, lit_52, lit_53, lit_54, lit_55, lit_56, lit_57, lit_58, lit_59, lit_60, lit_61, lit_62, lit_63, lit_64, lit_97, lit_99, lit_100, lit_122, lit_175, lit_176, lit_200, lit_255, lit_400, lit_700, lit_800, lit_999, lit_1000, lit_1400, lit_2000, lit_2033, lit_2038, lit_2100, lit_2124, lit_8000, lit_10000, lit_12345, lit_32767, lit_1000000, lit_1000000000, ↓bndX_h, ↓bndK_h, bxh_inl, bxh_inr, bkh_inl, bkh_inr, Nat.reduceEqDiff, ↓bnd_h, ↓lt_h, ↓ite_h, bh_some, lh_eq, ih_T, ih_F, ne_eq, not_false_eq_true, not_true_eq_false, eq_self, and_true, true_and, io_def, io_add, io_mul, io_sub, io_lt, io_le, io_eq, io_clamp, io_inbT, io_div, io_mod, io_m1, m1_io, m1_lt, m1_le, neg_1, gI_m1]
    refine rec (i + 1) U ⟨by omega, rfl, fun j hj hji => ?_⟩ (by omega)
    rcases Nat.lt_or_ge j i with q | q
    · exact hall j hj q
    · have : j = i := by omega
      subst this
      exact c2
/-- the walk stands at the amounts cs, given G, away A -/
def WS (M : Mem) (r p : Nat) (v : GV) (sv : SV) (cn ct : Nat) (cs : Nat → Nat) (G A : Nat) : Prop := GX M r p v sv ∧ WK M cn ct ∧ CaI M cn 100 cs ∧ (∃ ds, CaI M ct 100 ds) ∧ mL M 45 3 = lo G ∧ mL M 45 4 = lo A
theorem WK.R {M M' : Mem} {cn ct : Nat} (h : WK M cn ct) (hR : ∀ o k, mR M' o k = mR M o k) : WK M' cn ct := by
  obtain ⟨a1, a2, a3, a4, a5, a6⟩ := h
  exact ⟨(hR _ _).trans a1, (hR _ _).trans a2, (hR _ _).trans a3, ⟨(hR _ _).trans a4.1, (hR _ _).trans a4.2⟩, ⟨(hR _ _).trans a5.1, (hR _ _).trans a5.2⟩, a6⟩
theorem GX.keepW {M M' : Mem} {r p : Nat} {v : GV} {sv : SV} (hr : isRu r) (hp : isSe p) (h : GX M r p v sv) (hF : Fg [(45, 51)] [(45, 45)] M M') : GX M' r p v sv :=
  ⟨h.1.keepW hr hp (hF.sub (fun o ho => by simp only [ob, Bool.and_true, Bool.or_eq_true, decide_eq_true_eq] at ho ⊢; omega) (fun _ h => h)), h.2.keep hF rfl⟩
theorem c_comesOne {M : Mem} {r p cn ct G A : Nat} {v : GV} {sv : SV} {cs : Nat → Nat} (hr : isRu r) (hp : isSe p) (hv : okG v) (hsv : okS sv) (h : WS M r p v sv cn ct cs G A) (hsum : sumN 100 cs ≤ 1000000000) (hsu : ∀ t, cs t ≠ 0 → t < stN (gSi v)) (hn0 : 0 < gN v) :
    Wp (zX10_comesOne 45 M) (fun _ M' => WS M' r p v sv ct cn (stepC (gN v) (gOd v) (allO v) (gSi v) (gfS v sv) cs) (G + stepG (gN v) (gOd v) (allO v) (gfS v sv) cs) (A + stepA (gN v) (gOd v) (allO v) (gfS v sv) cs) ∧ CaI M' cn 100 cs ∧ Fg [(42, 51)] [(45, 45)] M M') := by
  obtain ⟨hX, hW, hcn, ⟨ds, hct⟩, hG, hA⟩ := h
  have hW9 := hW
  obtain ⟨w0, w1, w2, w3, w4, w5⟩ := hW
  obtain ⟨ic, it⟩ := ca_of w5
  have hcn0 : (cn = 0) = False ∧ (ct = 0) = False := by rcases w5 with ⟨rfl, rfl⟩ | ⟨rfl, rfl⟩ <;> simp
  have hst := stN_le (gSi v)
  have hap := allO_pos hv hn0
  have hall : sumN (gN v) (gOd v) = allO v := rfl
  obtain ⟨pl, h1, h2, h3, h4, h5, h6⟩ := hcn
  have hcn : CaI M cn 100 cs := ⟨pl, h1, h2, h3, h4, h5, h6⟩
  have hlen : pl.length ≤ 100 := nodup_len h1 (fun t ht => h3 t ((h2 t).mp ht))
  have hle : ∀ t, cs t ≤ 1000000000 := by
    intro t
    by_cases q : cs t = 0
    · omega
    · exact Nat.le_trans (sumN_mem (h3 t q)) hsum
  have hplN : ∀ f : Nat → Nat, (∀ t, cs t = 0 → f t = 0) → sumL pl f = sumN 100 f := fun f hf => sumL_N h1 (fun t ht => h3 t ((h2 t).mp ht)) (fun t _ ht => hf t (Classical.byContradiction (fun q => ht ((h2 t).mpr q))))
  unfold zX10_comesOne
  simp -dsimp (disch := first | assumption | omega) only [lit_0, lit_1, lit_2, lit_3, lit_4, lit_5, lit_6, lit_7, lit_8, lit_9, lit_10, lit_11, lit_12, lit_13, lit_14, lit_15, lit_16, lit_17, lit_18, lit_19, lit_20, lit_21, lit_22, lit_23, lit_24, lit_25, lit_26, lit_27, lit_28, lit_29, lit_30, lit_31, lit_32, lit_33, lit_34, lit_35, lit_36, lit_37, lit_38, lit_39, lit_40, lit_41, lit_42, lit_43, lit_44, lit_45, lit_46, lit_47, lit_48, lit_49, lit_50, lit_51, lit_52, lit_53, lit_54, lit_55, lit_56, lit_57, lit_58, lit_59, lit_60, lit_61, lit_62, lit_63, lit_64, lit_97, lit_99, lit_100, lit_122, lit_175, lit_176, lit_200, lit_255, lit_400, lit_700, lit_800, lit_999, lit_1000, lit_1400, lit_2000, lit_2033, lit_2038, lit_2100, lit_2124, lit_8000, lit_10000, lit_12345, lit_32767, lit_1000000, lit_1000000000, ↓bndX_h, ↓bndK_h, bxh_inl, bxh_inr, bkh_inl, bkh_inr, Nat.reduceEqDiff, ↓bnd_h, ↓lt_h, ↓ite_h, bh_some, lh_eq, ih_T, ih_F, ne_eq, not_false_eq_true, not_true_eq_false, eq_self, and_true, true_and, io_def, K0_45, w2, hcn0.2, K0_ca it]
  have oct : ∀ o, (o = 42 ∨ o = 45 ∨ o = cn ∨ o = cn + 1 ∨ o = cn + 2) → ob [(ct, ct + 1)] o = true := by
    intro o ho
    simp only [ob, Bool.and_true, Bool.or_eq_true, decide_eq_true_eq]
    rcases w5 with ⟨rfl, rfl⟩ | ⟨rfl, rfl⟩ <;> omega
  refine Wp.seqh (c_clear it w4 hct) (fun _ M1 ⟨a1, a2⟩ => ?_)
  have a3 : Fg [(45, 51)] [] M M1 := a2.sub (fun o ho => by simp only [ob, Bool.and_true, Bool.or_eq_true, decide_eq_true_eq] at ho ⊢; rcases w5 with ⟨rfl, rfl⟩ | ⟨rfl, rfl⟩ <;> omega) (fun _ h => h)
  have a4 : Fg [(42, 51)] [] M M1 := a3.sub (fun o ho => by simp only [ob, Bool.and_true, Bool.or_eq_true, decide_eq_true_eq] at ho ⊢; omega) (fun _ h => h)
  refine loopW (L := fun f (i : Nat) N => zX10_comesOne_L9 f 45 (io i) N)
    (J := fun i N => i ≤ pl.length ∧ GX N r p v sv ∧ CaI N cn 100 cs ∧ CaI N ct 100 (fun u => sumL (pl.take i) (fun t => pC (gN v) (gOd v) (allO v) (gSi v) (gfS v sv) cs u t (gN v))) ∧ mL N 45 3 = lo (G + sumL (pl.take i) (fun t => pG (gN v) (gOd v) (allO v) (gfS v sv) cs t (gN v))) ∧ mL N 45 4 = lo (A + sumL (pl.take i) (fun t => pA (gN v) (gOd v) (allO v) (gfS v sv) cs t (gN v))) ∧ mI N cn 2 = io pl.length ∧ (∀ i, (h : i < pl.length) → mI N (cn + 2) i = io pl[i]) ∧ Fg [(42, 51)] [] M N)
    (fun i _ => pl.length - i) ?_ FU 0 M1 ⟨Nat.zero_le _, hX.keepW hr hp (a3.sub (fun _ h => h) (fun _ _ => rfl)), hcn.keep a2 (oct _ (by omega)) (oct _ (by omega)) (oct _ (by omega)), a1, by rw [a2.L (oct _ (by omega)) (by omega)]; exact hG, by rw [a2.L (oct _ (by omega)) (by omega)]; exact hA, by rw [a2.I (oct _ (by omega))]; exact h4, fun i hi => by rw [a2.I (oct _ (by omega))]; exact h5 i hi, a4⟩ (by rw [FU_val]; omega)
  intro f i N ⟨hi, hX, hcn, hct, hG, hA, hsz, hpl, hF⟩ rec
  show Wp (zX10_comesOne_B9 _ _ _ _) _
  unfold zX10_comesOne_B9
  have hW := hW9.R (fun o k => hF.2.2 o rfl k)
  obtain ⟨w0, w1, w2, w3, w4, -⟩ := hW
  simp -dsimp (disch := first | assumption | omega) only [lit_0, lit_1, lit_2, lit_3, lit_4, lit_5, lit_6, lit_7, lit_8, lit_9, lit_10, lit_11, lit_12, lit_13, lit_14, lit_15, lit_16, lit_17, lit_18, lit_19, lit_20, lit_21, lit_22, lit_23, lit_24, lit_25, lit_26, lit_27, lit_28, lit_29, lit_30, lit_31, lit_32, lit_33, lit_34, lit_35, lit_36, lit_37, lit_38, lit_39, lit_40, lit_41, lit_42, lit_43, lit_44, lit_45, lit_46, lit_47, lit_48, lit_49, lit_50, lit_51, lit_52, lit_53, lit_54, lit_55, lit_56, lit_57, lit_58, lit_59, lit_60, lit_61, lit_62, lit_63, lit_64, lit_97, lit_99, lit_100, lit_122, lit_175, lit_176, lit_200, lit_255, lit_400, lit_700, lit_800, lit_999, lit_1000, lit_1400, lit_2000, lit_2033, lit_2038, lit_2100, lit_2124, lit_8000, lit_10000, lit_12345, lit_32767, lit_1000000, lit_1000000000, ↓bndX_h, ↓bndK_h, bxh_inl, bxh_inr, bkh_inl, bkh_inr, Nat.reduceEqDiff, ↓bnd_h, ↓lt_h, ↓ite_h, bh_some, lh_eq, ih_T, ih_F, ne_eq, not_false_eq_true, not_true_eq_false, eq_self, and_true, true_and, io_def, w1, hcn0.1, K0_ca ic, hsz, io_le]
  refine Wp.csh (fun c => ?_) (fun c => ?_)
  · have ei : i = pl.length := by omega
    subst ei
    rw [List.take_length] at *
    simp -dsimp (disch := first | assumption | omega) only [lit_0, lit_1, lit_2, lit_3, lit_4, lit_5, lit_6, lit_7, lit_8, lit_9, lit_10, lit_11, lit_12, lit_13, lit_14, lit_15, lit_16, lit_17, lit_18, lit_19, lit_20, lit_21, lit_22, lit_23, lit_24, lit_25, lit_26, lit_27, lit_28, lit_29, lit_30, lit_31, lit_32, lit_33, lit_34, lit_35, lit_36, lit_37, lit_38, lit_39, lit_40, lit_41, lit_42, lit_43, lit_44, lit_45, lit_46, lit_47, lit_48, lit_49, lit_50, lit_51, lit_52, lit_53, lit_54, lit_55, lit_56, lit_57, lit_58, lit_59, lit_60, lit_61, lit_62, lit_63, lit_64, lit_97, lit_99, lit_100, lit_122, lit_175, lit_176, lit_200, lit_255, lit_400, lit_700, lit_800, lit_999, lit_1000, lit_1400, lit_2000, lit_2033, lit_2038, lit_2100, lit_2124, lit_8000, lit_10000, lit_12345, lit_32767, lit_1000000, lit_1000000000, ↓bndX_h, ↓bndK_h, bxh_inl, bxh_inr, bkh_inl, bkh_inr, Nat.reduceEqDiff, ↓bnd_h, ↓lt_h, ↓ite_h, bh_some, lh_eq, ih_T, ih_F, ne_eq, not_false_eq_true, not_true_eq_false, eq_self, and_true, true_and, io_def, w2, w1, hcn0.2]
    have hFs : Fg [(42, 51)] [(45, 45)] M (sR (sR N 45 1 ct) 45 2 cn) := ((hF.sub (fun _ h => h) (fun _ _ => rfl)).sR rfl).sR rfl
    have hFs2 : Fg [(45, 51)] [(45, 45)] N (sR (sR N 45 1 ct) 45 2 cn) := (Fg.refl.sR rfl).sR rfl
    refine Wp.ret ⟨⟨hX.keepW hr hp hFs2, ?_, hct.ext (fun u => ?_), ⟨cs, hcn⟩, ?_, ?_⟩, hcn, hFs⟩
    · have e9 : ∀ o k, o ≠ 45 → mR (sR (sR N 45 1 ct) 45 2 cn) o k = mR N o k := fun o k ho => by rw [mR_sR, if_neg (fun z => ho z.1), mR_sR, if_neg (fun z => ho z.1)]
      have hne : cn ≠ 45 ∧ ct ≠ 45 := by omega
      refine ⟨by simp [mR_sR]; exact w0, by simp [mR_sR], by simp [mR_sR], ⟨(e9 _ _ hne.2).trans w4.1, (e9 _ _ hne.2).trans w4.2⟩, ⟨(e9 _ _ hne.1).trans w3.1, (e9 _ _ hne.1).trans w3.2⟩, by omega⟩
    · rw [stepC_p (Nat.le_refl 100) (fun t ht => h3 t ht), hplN _ (fun t ht => pC_zero ht)]
    · show mL N 45 3 = _
      rw [hG, stepG_p (Nat.le_refl 100) (fun t ht => h3 t ht), hplN _ (fun t ht => pG_zero ht)]
    · show mL N 45 4 = _
      rw [hA, stepA_p (Nat.le_refl 100) (fun t ht => h3 t ht), hplN _ (fun t ht => pA_zero ht)]
  · have hi2 : i < pl.length := by omega
    have hpi := hsu pl[i] ((h2 _).mp (List.getElem_mem hi2))
    have hds : ∀ u, sumL (pl.take i) (fun t => pC (gN v) (gOd v) (allO v) (gSi v) (gfS v sv) cs u t (gN v)) + cs pl[i] ≤ 2000000000 := by
      intro u
      have q1 : sumL (pl.take i) (fun t => pC (gN v) (gOd v) (allO v) (gSi v) (gfS v sv) cs u t (gN v)) ≤ sumL pl cs := Nat.le_trans (sumL_le (fun t => pC_le hall hap (Nat.le_refl _))) sumL_take_le
      rw [hplN cs (fun t ht => ht)] at q1
      have := hle pl[i]
      omega
    simp -dsimp (disch := first | assumption | omega) only [lit_0, lit_1, lit_2, lit_3, lit_4, lit_5, lit_6, lit_7, lit_8, lit_9, lit_10, lit_11, lit_12, lit_13, lit_14, lit_15, lit_16, lit_17, lit_18, lit_19, lit_20, lit_21, lit_22, lit_23, lit_24, lit_25, lit_26, lit_27, lit_28, lit_29, lit_30, lit_31, lit_32, lit_33, lit_34, lit_35, lit_36, lit_37, lit_38, lit_39, lit_40, lit_41, lit_42, lit_43, lit_44, lit_45, lit_46, lit_47, lit_48, lit_49, lit_50, lit_51, lit_52, lit_53, lit_54, lit_55, lit_56, lit_57, lit_58, lit_59, lit_60, lit_61, lit_62, lit_63, lit_64, lit_97, lit_99, lit_100, lit_122, lit_175, lit_176, lit_200, lit_255, lit_400, lit_700, lit_800, lit_999, lit_1000, lit_1400, lit_2000, lit_2033, lit_2038, lit_2100, lit_2124, lit_8000, lit_10000, lit_12345, lit_32767, lit_1000000, lit_1000000000, ↓bndX_h, ↓bndK_h, bxh_inl, bxh_inr, bkh_inl, bkh_inr, Nat.reduceEqDiff, ↓bnd_h, ↓lt_h, ↓ite_h, bh_some, lh_eq, ih_T, ih_F, ne_eq, not_false_eq_true, not_true_eq_false, eq_self, and_true, true_and, io_def, w1, hcn0.1, K0_ca ic, c_placeOf ic w3 hlen hpl hi2]
    refine Wp.seqh (c_share hr hp hv hsv hX (hW9.R (fun o k => hF.2.2 o rfl k)) hcn hct hpi (hle _) hds hG hA) (fun _ N2 ⟨b1, b2, b3, b4, b5, bk, b6⟩ => ?_)
    simp -dsimp (disch := first | assumption | omega) only [lit_0, lit_1, lit_2, lit_3, lit_4, lit_5, lit_6, lit_7, lit_8, lit_9, lit_10, lit_11, lit_12, lit_13, lit_14, lit_15, lit_16, lit_17, lit_18, lit_19, lit_20, lit_21, lit_22, lit_23, lit_24, lit_25, lit_26, lit_27, lit_28, lit_29, lit_30, lit_31, lit_32, lit_33, lit_34, lit_35, lit_36, lit_37, lit_38, lit_39, lit_40, lit_41, lit_42, lit_43, lit_44, lit_45, lit_46, lit_47, lit_48, lit_49, lit_50, lit_51, lit_52, lit_53, lit_54, lit_55, lit_56, lit_57, lit_58, lit_59, lit_60, lit_61, lit_62, lit_63, lit_64, lit_97, lit_99, lit_100, lit_122, lit_175, lit_176, lit_200, lit_255, lit_400, lit_700, lit_800, lit_999, lit_1000, lit_1400, lit_2000, lit_2033, lit_2038, lit_2100, lit_2124, lit_8000, lit_10000, lit_12345, lit_32767, lit_1000000, lit_1000000000, ↓bndX_h, ↓bndK_h, bxh_inl, bxh_inr, bkh_inl, bkh_inr, Nat.reduceEqDiff, ↓bnd_h, ↓lt_h, ↓ite_h, bh_some, lh_eq, ih_T, ih_F, ne_eq, not_false_eq_true, not_true_eq_false, eq_self, and_true, true_and, io_def, io_add, io_mul, io_sub, io_lt, io_le, io_eq, io_clamp, io_inbT, io_div, io_mod, io_m1, m1_io, m1_lt, m1_le, neg_1, gI_m1]
    refine rec (i + 1) N2 ⟨by omega, b1, b2, b3.ext (fun u => by rw [sumL_take hi2]), ?_, ?_, ?_, ?_, hF.trans b6⟩ (by omega)
    · rw [b4, sumL_take hi2, Nat.add_assoc]
    · rw [b5, sumL_take hi2, Nat.add_assoc]
    · rw [bk cn (Or.inl rfl)]; exact hsz
    · intro j hj
      rw [bk (cn + 2) (Or.inr (Or.inr rfl))]; exact hpl j hj
theorem csV_pos {v : GV} {sv : SV} {seed k : Nat} (h : 0 < gN v) : csV v sv seed k = casesS (gN v) (gOd v) (allO v) (gSi v) (gfS v sv) seed k := by
  unfold csV
  rw [if_neg (by omega)]
theorem csV_none {v : GV} {sv : SV} {seed k j : Nat} (h : gN v = 0) : csV v sv seed k = csV v sv seed j := by
  unfold csV
  rw [if_pos h, if_pos h]
theorem csV_sum {v : GV} {sv : SV} {seed : Nat} (hv : okG v) (hs : seed < stN (gSi v)) (k : Nat) : sumN 100 (csV v sv seed k) = 1000000000 := by
  rcases Nat.eq_zero_or_pos (gN v) with h | h
  · unfold csV
    rw [if_pos h, sumN_one (Nat.lt_of_lt_of_le hs (stN_le _)) (fun i _ hi => if_neg hi), if_pos rfl]
  · rw [csV_pos h]
    exact (casesS_ok (WOK_of hv) h hs k).1
theorem c_go {M : Mem} {r p cn ct b n : Nat} {v : GV} {sv : SV} {seed : Nat} (hr : isRu r) (hp : isSe p) (hv : okG v) (hsv : okS sv) (hs : seed < stN (gSi v)) (hb : b ≤ 1000) (hn : n ≤ 400) (h : WS M r p v sv cn ct (csV v sv seed b) (gvV v sv seed b) (awV v sv seed b)) :
    Wp (zX10_go 45 (io n) M) (fun _ M' => (∃ cn' ct', WS M' r p v sv cn' ct' (csV v sv seed (b + n)) (gvV v sv seed (b + n)) (awV v sv seed (b + n))) ∧ Fg [(42, 51)] [(45, 45)] M M') := by
  unfold zX10_go
  simp -dsimp (disch := first | assumption | omega) only [lit_0, lit_1, lit_2, lit_3, lit_4, lit_5, lit_6, lit_7, lit_8, lit_9, lit_10, lit_11, lit_12, lit_13, lit_14, lit_15, lit_16, lit_17, lit_18, lit_19, lit_20, lit_21, lit_22, lit_23, lit_24, lit_25, lit_26, lit_27, lit_28, lit_29, lit_30, lit_31, lit_32, lit_33, lit_34, lit_35, lit_36, lit_37, lit_38, lit_39, lit_40, lit_41, lit_42, lit_43, lit_44, lit_45, lit_46, lit_47, lit_48, lit_49, lit_50, lit_51, lit_52, lit_53, lit_54, lit_55, lit_56, lit_57, lit_58, lit_59, lit_60, lit_61, lit_62, lit_63, lit_64, lit_97, lit_99, lit_100, lit_122, lit_175, lit_176, lit_200, lit_255, lit_400, lit_700, lit_800, lit_999, lit_1000, lit_1400, lit_2000, lit_2033, lit_2038, lit_2100, lit_2124, lit_8000, lit_10000, lit_12345, lit_32767, lit_1000000, lit_1000000000, ↓bndX_h, ↓bndK_h, bxh_inl, bxh_inr, bkh_inl, bkh_inr, Nat.reduceEqDiff, ↓bnd_h, ↓lt_h, ↓ite_h, bh_some, lh_eq, ih_T, ih_F, ne_eq, not_false_eq_true, not_true_eq_false, eq_self, and_true, true_and, io_def, K0_45]
  refine loopW (L := fun f (k : Nat) N => zX10_go_L2 f 45 (io n) (io (k + 1)) N) (J := fun k N => k ≤ n ∧ (∃ cn ct, WS N r p v sv cn ct (csV v sv seed (b + k)) (gvV v sv seed (b + k)) (awV v sv seed (b + k))) ∧ Fg [(42, 51)] [(45, 45)] M N) (fun k _ => n - k) ?_ FU 0 M ⟨Nat.zero_le _, ⟨cn, ct, h⟩, Fg.refl⟩ (by rw [FU_val]; omega)
  intro f k N ⟨hk, ⟨cn, ct, hS⟩, hF⟩ rec
  show Wp (zX10_go_B2 _ _ _ _ _) _
  unfold zX10_go_B2
  simp -dsimp (disch := first | assumption | omega) only [lit_0, lit_1, lit_2, lit_3, lit_4, lit_5, lit_6, lit_7, lit_8, lit_9, lit_10, lit_11, lit_12, lit_13, lit_14, lit_15, lit_16, lit_17, lit_18, lit_19, lit_20, lit_21, lit_22, lit_23, lit_24, lit_25, lit_26, lit_27, lit_28, lit_29, lit_30, lit_31, lit_32, lit_33, lit_34, lit_35, lit_36, lit_37, lit_38, lit_39, lit_40, lit_41, lit_42, lit_43, lit_44, lit_45, lit_46, lit_47, lit_48, lit_49, lit_50, lit_51, lit_52, lit_53, lit_54, lit_55, lit_56, lit_57, lit_58, lit_59, lit_60, lit_61, lit_62, lit_63, lit_64, lit_97, lit_99, lit_100, lit_122, lit_175, lit_176, lit_200, lit_255, lit_400, lit_700, lit_800, lit_999, lit_1000, lit_1400, lit_2000, lit_2033, lit_2038, lit_2100, lit_2124, lit_8000, lit_10000, lit_12345, lit_32767, lit_1000000, lit_1000000000, ↓bndX_h, ↓bndK_h, bxh_inl, bxh_inr, bkh_inl, bkh_inr, Nat.reduceEqDiff, ↓bnd_h, ↓lt_h, ↓ite_h, bh_some, lh_eq, ih_T, ih_F, ne_eq, not_false_eq_true, not_true_eq_false, eq_self, and_true, true_and, io_def, io_add, io_mul, io_sub, io_lt, io_le, io_eq, io_clamp, io_inbT, io_div, io_mod, io_m1, m1_io, m1_lt, m1_le, neg_1, gI_m1]
  refine Wp.csh (fun c => ?_) (fun c => ?_)
  · have : k = n := by omega
    subst this
    exact Wp.ret ⟨⟨cn, ct, hS⟩, hF⟩
  · have hS9 := hS
    obtain ⟨hX, hW, hcn, hct, hG, hA⟩ := hS
    obtain ⟨w0, w1, w2, w3, w4, w5⟩ := hW
    have hgn := okG_n hv
    have c0 := hX.1.2.2.2.2.1.1
    simp -dsimp (disch := first | assumption | omega) only [lit_0, lit_1, lit_2, lit_3, lit_4, lit_5, lit_6, lit_7, lit_8, lit_9, lit_10, lit_11, lit_12, lit_13, lit_14, lit_15, lit_16, lit_17, lit_18, lit_19, lit_20, lit_21, lit_22, lit_23, lit_24, lit_25, lit_26, lit_27, lit_28, lit_29, lit_30, lit_31, lit_32, lit_33, lit_34, lit_35, lit_36, lit_37, lit_38, lit_39, lit_40, lit_41, lit_42, lit_43, lit_44, lit_45, lit_46, lit_47, lit_48, lit_49, lit_50, lit_51, lit_52, lit_53, lit_54, lit_55, lit_56, lit_57, lit_58, lit_59, lit_60, lit_61, lit_62, lit_63, lit_64, lit_97, lit_99, lit_100, lit_122, lit_175, lit_176, lit_200, lit_255, lit_400, lit_700, lit_800, lit_999, lit_1000, lit_1400, lit_2000, lit_2033, lit_2038, lit_2100, lit_2124, lit_8000, lit_10000, lit_12345, lit_32767, lit_1000000, lit_1000000000, ↓bndX_h, ↓bndK_h, bxh_inl, bxh_inr, bkh_inl, bkh_inr, Nat.reduceEqDiff, ↓bnd_h, ↓lt_h, ↓ite_h, bh_some, lh_eq, ih_T, ih_F, ne_eq, not_false_eq_true, not_true_eq_false, eq_self, and_true, true_and, io_def, io_add, io_mul, io_sub, io_lt, io_le, io_eq, io_clamp, io_inbT, io_div, io_mod, io_m1, m1_io, m1_lt, m1_le, neg_1, gI_m1, K0_r, K0_r1, K0_r2, K0_r3, K0_r4, K0_r5, K0_r6, ru_ne, PR.p7, PR.p8, PR.p9, PR.p10, PR.p11, PR.p12, at_r1, at_r2, at_r3, at_r4, at_r5, succ_ne, w0, K0_41, hX.1.2.1, c0]
    refine Wp.csh (fun c1 => ?_) (fun c1 => ?_)
    · have h0 : gN v = 0 := by omega
      rw [csV_none (j := b + n) h0, gvV_none h0, awV_none h0] at hS9
      refine Wp.ret ⟨⟨cn, ct, ?_⟩, hF⟩
      rw [gvV_none h0, awV_none h0]
      exact hS9
    · have h0 : 0 < gN v := by omega
      have hcs := csV_pos (v := v) (sv := sv) (seed := seed) (k := b + k) h0
      have hcs1 := csV_pos (v := v) (sv := sv) (seed := seed) (k := b + k + 1) h0
      simp -dsimp (disch := first | assumption | omega) only [lit_0, lit_1, lit_2, lit_3, lit_4, lit_5, lit_6, lit_7, lit_8, lit_9, lit_10, lit_11, lit_12, lit_13, lit_14, lit_15, lit_16, lit_17, lit_18, lit_19, lit_20, lit_21, lit_22, lit_23, lit_24, lit_25, lit_26, lit_27, lit_28, lit_29, lit_30, lit_31, lit_32, lit_33, lit_34, lit_35, lit_36, lit_37, lit_38, lit_39, lit_40, lit_41, lit_42, lit_43, lit_44, lit_45, lit_46, lit_47, lit_48, lit_49, lit_50, lit_51, lit_52, lit_53, lit_54, lit_55, lit_56, lit_57, lit_58, lit_59, lit_60, lit_61, lit_62, lit_63, lit_64, lit_97, lit_99, lit_100, lit_122, lit_175, lit_176, lit_200, lit_255, lit_400, lit_700, lit_800, lit_999, lit_1000, lit_1400, lit_2000, lit_2033, lit_2038, lit_2100, lit_2124, lit_8000, lit_10000, lit_12345, lit_32767, lit_1000000, lit_1000000000, ↓bndX_h, ↓bndK_h, bxh_inl, bxh_inr, bkh_inl, bkh_inr, Nat.reduceEqDiff, ↓bnd_h, ↓lt_h, ↓ite_h, bh_some, lh_eq, ih_T, ih_F, ne_eq, not_false_eq_true, not_true_eq_false, eq_self, and_true, true_and, io_def, hG, hA]
      refine Wp.seqh (c_comesOne hr hp hv hsv hS9 (Nat.le_of_eq (csV_sum hv hs _)) (csV_su hv hs _) h0) (fun _ N2 ⟨b1, b2, b3⟩ => ?_)
      have eC : stepC (gN v) (gOd v) (allO v) (gSi v) (gfS v sv) (csV v sv seed (b + k)) = csV v sv seed (b + k + 1) := by rw [hcs, hcs1]; rfl
      have eG : gvV v sv seed (b + k) + stepG (gN v) (gOd v) (allO v) (gfS v sv) (csV v sv seed (b + k)) = gvV v sv seed (b + k + 1) := by rw [hcs]; rfl
      have eA : awV v sv seed (b + k) + stepA (gN v) (gOd v) (allO v) (gfS v sv) (csV v sv seed (b + k)) = awV v sv seed (b + k + 1) := by rw [hcs]; rfl
      rw [eC, eG, eA] at b1
      have b19 := b1
      obtain ⟨hX2, ⟨u0, u1, u2, u3, u4, u5⟩, hcn2, hct2, hG2, hA2⟩ := b1
      obtain ⟨it, ic⟩ := ca_of u5
      have hne : (cn = 0) = False ∧ (ct = 0) = False := by rcases w5 with ⟨rfl, rfl⟩ | ⟨rfl, rfl⟩ <;> simp
      simp -dsimp (disch := first | assumption | omega) only [lit_0, lit_1, lit_2, lit_3, lit_4, lit_5, lit_6, lit_7, lit_8, lit_9, lit_10, lit_11, lit_12, lit_13, lit_14, lit_15, lit_16, lit_17, lit_18, lit_19, lit_20, lit_21, lit_22, lit_23, lit_24, lit_25, lit_26, lit_27, lit_28, lit_29, lit_30, lit_31, lit_32, lit_33, lit_34, lit_35, lit_36, lit_37, lit_38, lit_39, lit_40, lit_41, lit_42, lit_43, lit_44, lit_45, lit_46, lit_47, lit_48, lit_49, lit_50, lit_51, lit_52, lit_53, lit_54, lit_55, lit_56, lit_57, lit_58, lit_59, lit_60, lit_61, lit_62, lit_63, lit_64, lit_97, lit_99, lit_100, lit_122, lit_175, lit_176, lit_200, lit_255, lit_400, lit_700, lit_800, lit_999, lit_1000, lit_1400, lit_2000, lit_2033, lit_2038, lit_2100, lit_2124, lit_8000, lit_10000, lit_12345, lit_32767, lit_1000000, lit_1000000000, ↓bndX_h, ↓bndK_h, bxh_inl, bxh_inr, bkh_inl, bkh_inr, Nat.reduceEqDiff, ↓bnd_h, ↓lt_h, ↓ite_h, bh_some, lh_eq, ih_T, ih_F, ne_eq, not_false_eq_true, not_true_eq_false, eq_self, and_true, true_and, io_def, u1, u2, hne.1, hne.2, K0_ca it]
      refine Wp.seqh (c_isLike it ic u3 u4 hcn2 b2 (fun t => Nat.le_trans (csV_le hv hs _ t) (by omega)) (fun t => Nat.le_trans (csV_le hv hs _ t) (by omega)) (by rw [csV_sum hv hs, csV_sum hv hs])) (fun x N3 ⟨d1, d2, d3⟩ => ?_)
      subst d3
      simp -dsimp (disch := first | assumption | omega) only [lit_0, lit_1, lit_2, lit_3, lit_4, lit_5, lit_6, lit_7, lit_8, lit_9, lit_10, lit_11, lit_12, lit_13, lit_14, lit_15, lit_16, lit_17, lit_18, lit_19, lit_20, lit_21, lit_22, lit_23, lit_24, lit_25, lit_26, lit_27, lit_28, lit_29, lit_30, lit_31, lit_32, lit_33, lit_34, lit_35, lit_36, lit_37, lit_38, lit_39, lit_40, lit_41, lit_42, lit_43, lit_44, lit_45, lit_46, lit_47, lit_48, lit_49, lit_50, lit_51, lit_52, lit_53, lit_54, lit_55, lit_56, lit_57, lit_58, lit_59, lit_60, lit_61, lit_62, lit_63, lit_64, lit_97, lit_99, lit_100, lit_122, lit_175, lit_176, lit_200, lit_255, lit_400, lit_700, lit_800, lit_999, lit_1000, lit_1400, lit_2000, lit_2033, lit_2038, lit_2100, lit_2124, lit_8000, lit_10000, lit_12345, lit_32767, lit_1000000, lit_1000000000, ↓bndX_h, ↓bndK_h, bxh_inl, bxh_inr, bkh_inl, bkh_inr, Nat.reduceEqDiff, ↓bnd_h, ↓lt_h, ↓ite_h, bh_some, lh_eq, ih_T, ih_F, ne_eq, not_false_eq_true, not_true_eq_false, eq_self, and_true, true_and, io_def, io_add, io_mul, io_sub, io_lt, io_le, io_eq, io_clamp, io_inbT, io_div, io_mod, io_m1, m1_io, m1_lt, m1_le, neg_1, gI_m1]
      refine Wp.csh (fun c2 => ?_) (fun c2 => ?_)
      · simp -dsimp (disch := first | assumption | omega) only [lit_0, lit_1, lit_2, lit_3, lit_4, lit_5, lit_6, lit_7, lit_8, lit_9, lit_10, lit_11, lit_12, lit_13, lit_14, lit_15, lit_16, lit_17, lit_18, lit_19, lit_20, lit_21, lit_22, lit_23, lit_24, lit_25, lit_26, lit_27, lit_28, lit_29, lit_30, lit_31, lit_32, lit_33, lit_34, lit_35, lit_36, lit_37, lit_38, lit_39, lit_40, lit_41, lit_42, lit_43, lit_44, lit_45, lit_46, lit_47, lit_48, lit_49, lit_50, lit_51, lit_52, lit_53, lit_54, lit_55, lit_56, lit_57, lit_58, lit_59, lit_60, lit_61, lit_62, lit_63, lit_64, lit_97, lit_99, lit_100, lit_122, lit_175, lit_176, lit_200, lit_255, lit_400, lit_700, lit_800, lit_999, lit_1000, lit_1400, lit_2000, lit_2033, lit_2038, lit_2100, lit_2124, lit_8000, lit_10000, lit_12345, lit_32767, lit_1000000, lit_1000000000, ↓bndX_h, ↓bndK_h, bxh_inl, bxh_inr, bkh_inl, bkh_inr, Nat.reduceEqDiff, ↓bnd_h, ↓lt_h, ↓ite_h, bh_some, lh_eq, ih_T, ih_F, ne_eq, not_false_eq_true, not_true_eq_false, eq_self, and_true, true_and, io_def, io_add, io_mul, io_sub, io_lt, io_le, io_eq, io_clamp, io_inbT, io_div, io_mod, io_m1, m1_io, m1_lt, m1_le, neg_1, gI_m1]
        refine rec (k + 1) N3 ⟨by omega, ⟨ct, cn, ?_⟩, hF.trans b3⟩ (by omega)
        exact b19
      · have still : casesS (gN v) (gOd v) (allO v) (gSi v) (gfS v sv) seed (b + k + 1) = casesS (gN v) (gOd v) (allO v) (gSi v) (gfS v sv) seed (b + k) := by
          rw [← hcs, ← hcs1]
          exact funext (d1 c2)
        have hsub : io n - io (k + 1) = io (n - (k + 1)) := io_sub (by omega)
        have hd1 : lo (gvV v sv seed (b + k + 1)) - lo (gvV v sv seed (b + k)) = lo (drV v sv seed (b + k)) := by
          rw [gvV_succ, lo_sub (by omega)]
          congr 1
          omega
        have hd2 : lo (awV v sv seed (b + k + 1)) - lo (awV v sv seed (b + k)) = lo (stepA (gN v) (gOd v) (allO v) (gfS v sv) (csV v sv seed (b + k))) := by
          rw [← eA, lo_sub (by omega)]
          congr 1
          omega
        have g1 := given_still still (n - k)
        have g2 := away_still still (n - k)
        have g3 := cases_still still (n - k)
        rw [show b + k + (n - k) = b + n by omega] at g1 g2 g3
        have eGn : gvV v sv seed (b + k + 1) + (n - (k + 1)) * drV v sv seed (b + k) = gvV v sv seed (b + n) := by
          show _ = givenS _ _ _ _ _ _ (b + n)
          rw [g1, gvV_succ]
          show gvV v sv seed (b + k) + drV v sv seed (b + k) + (n - (k + 1)) * drV v sv seed (b + k) = gvV v sv seed (b + k) + (n - k) * drV v sv seed (b + k)
          rw [show n - k = n - (k + 1) + 1 by omega, Nat.add_mul]
          omega
        have eAn : awV v sv seed (b + k + 1) + (n - (k + 1)) * stepA (gN v) (gOd v) (allO v) (gfS v sv) (csV v sv seed (b + k)) = awV v sv seed (b + n) := by
          show _ = awayS _ _ _ _ _ _ (b + n)
          rw [g2, ← eA, ← hcs]
          show awV v sv seed (b + k) + _ + (n - (k + 1)) * _ = awV v sv seed (b + k) + (n - k) * _
          rw [show n - k = n - (k + 1) + 1 by omega, Nat.add_mul (n - (k + 1)) 1]
          omega
        have eCn : csV v sv seed (b + n) = csV v sv seed (b + k + 1) := by
          rw [csV_pos h0, g3, hcs1, still]
        simp -dsimp (disch := first | assumption | omega) only [lit_0, lit_1, lit_2, lit_3, lit_4, lit_5, lit_6, lit_7, lit_8, lit_9, lit_10, lit_11, lit_12, lit_13, lit_14, lit_15, lit_16, lit_17, lit_18, lit_19, lit_20, lit_21, lit_22, lit_23, lit_24, lit_25, lit_26, lit_27, lit_28, lit_29, lit_30, lit_31, lit_32, lit_33, lit_34, lit_35, lit_36, lit_37, lit_38, lit_39, lit_40, lit_41, lit_42, lit_43, lit_44, lit_45, lit_46, lit_47, lit_48, lit_49, lit_50, lit_51, lit_52, lit_53, lit_54, lit_55, lit_56, lit_57, lit_58, lit_59, lit_60, lit_61, lit_62, lit_63, lit_64, lit_97, lit_99, lit_100, lit_122, lit_175, lit_176, lit_200, lit_255, lit_400, lit_700, lit_800, lit_999, lit_1000, lit_1400, lit_2000, lit_2033, lit_2038, lit_2100, lit_2124, lit_8000, lit_10000, lit_12345, lit_32767, lit_1000000, lit_1000000000, ↓bndX_h, ↓bndK_h, bxh_inl, bxh_inr, bkh_inl, bkh_inr, Nat.reduceEqDiff, ↓bnd_h, ↓lt_h, ↓ite_h, bh_some, lh_eq, ih_T, ih_F, ne_eq, not_false_eq_true, not_true_eq_false, eq_self, and_true, true_and, io_def, false_and, and_false, if_false, if_true, and_self, mI_sI, mI_sL, mL_sI, mL_sL, mR_sI, mR_sL, hG2, hA2, hsub, hd1, hd2, io_lo, lo_mul, lo_add, eGn, eAn, Nat.reduceEqDiff]
        refine Wp.ret ⟨⟨ct, cn, ?_⟩, ((hF.trans b3).sL (Or.inl rfl)).sL (Or.inl rfl)⟩
        rw [eCn]
        refine ⟨hX2, ⟨u0, u1, u2, u3, u4, u5⟩, hcn2, hct2, ?_, ?_⟩
        · simp [mL_sL]
        · simp [mL_sL]
