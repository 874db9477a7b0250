/-! ===== LEVEL 2: gate, the reference and both ===== -/
def ownF (o k : Nat) : Prop := (o = 72 ∧ (k = 2 ∨ (20 ≤ k ∧ k ≤ 30))) ∨ (o = 82 ∧ 1400 ≤ k) ∨ (o = 75 ∧ k = 2) ∨ (o = 76 ∧ 14 ≤ k ∧ k ≤ 20) ∨ (77 ≤ o ∧ o ≤ 81 ∧ 16 ≤ k ∧ k ≤ 23)
theorem FrN.G {N N' : Mem} (h : FrN N N') : GFr ownF N N' :=
  ⟨fun o k q => h.1 o k (by
    by_cases c : o = 72
    · right
      intro z
      simp only [fM, List.mem_cons, List.not_mem_nil, or_false] at z
      unfold ownF at q
      omega
    · exact Or.inl c) (by unfold ownF at q; omega) (by unfold ownF at q; omega) (by unfold ownF at q; omega) (by unfold ownF at q; omega), h.2.1, h.2.2⟩
theorem MG.low {N N' : Mem} {g : Nat} {v : GV} (hg : g < 2) (hn : gN v ≤ 8) (hL : gL v ≤ 700) (h : MG N g v) (e : ∀ o k, (o = 75 ∧ k = g) ∨ (o = 76 ∧ 7 * g ≤ k ∧ k < 7 * g + 7) ∨ (77 ≤ o ∧ o ≤ 81 ∧ 8 * g ≤ k ∧ k < 8 * g + 8) ∨ (o = 82 ∧ 700 * g ≤ k ∧ k < 700 * g + 700) → mI N' o k = mI N o k) : MG N' g v := by
  obtain ⟨a1, a2, a3, a4, a5, a6⟩ := h
  refine ⟨(e _ _ (by omega)).trans a1, (e _ _ (by omega)).trans a2, (e _ _ (by omega)).trans a3, (e _ _ (by omega)).trans a4, fun s hs => ?_, fun k hk => (e _ _ (by omega)).trans (a6 k hk)⟩
  obtain ⟨b1, b2, b3, b4, b5⟩ := a5 s hs
  exact ⟨(e _ _ (by omega)).trans b1, (e _ _ (by omega)).trans b2, (e _ _ (by omega)).trans b3, (e _ _ (by omega)).trans b4, (e _ _ (by omega)).trans b5⟩
theorem MS.low {N N' : Mem} {g : Nat} {s : SV} (h : MS N g s) (e : ∀ k, 7 * g ≤ k → k < 7 * g + 7 → mI N' 76 k = mI N 76 k) : MS N' g s := by
  obtain ⟨a1, a2, a3, a4⟩ := h
  exact ⟨(e _ (by omega) (by omega)).trans a1, (e _ (by omega) (by omega)).trans a2, (e _ (by omega) (by omega)).trans a3, (e _ (by omega) (by omega)).trans a4⟩
theorem IM.gtE {N N' : Mem} {V : VV} {e : Int32} (hV : okV V) (h : IM N V) (hF : GFr ownF N N') (h20 : mI N' 72 20 = io 0) (h29 : mI N' 72 29 = e) : IM N' (gtE V e) := by
  obtain ⟨h1, h2, h3, h4, h5, h6, h7, h8⟩ := h
  have hI : ∀ o k, 83 ≤ o → mI N' o k = mI N o k := fun o k ho => hF.1 _ _ (by unfold ownF; omega)
  refine ⟨hF.PM h1, fun g' hg' => ?_, ?_, fun i hi => ?_, fun q i hi => ?_, h20, fun k hk => absurd hk (Nat.not_lt_zero k), h29⟩
  · obtain ⟨a1, a2, a3, a4⟩ := h2 g' hg'
    obtain ⟨o1, o2, o3, o4⟩ := hV.1 g' hg'
    exact ⟨a1.low hg' o1.1 o1.2.2.2.2.2.1 (fun o k hok => hF.1 _ _ (by unfold ownF; omega)), a2.low (fun k k1 k2 => hF.1 _ _ (by unfold ownF; omega)), a3.keep hg' o3.2.2.1 (fun j _ _ => hI _ _ (by omega)) (fun k _ _ => hI _ _ (by omega)) (fun k _ _ => hI _ _ (by omega)), fun q => (a4 q).keep hg' (o4 q).2.2.1 (fun j _ _ => hI _ _ (by omega)) (fun k _ _ => hI _ _ (by omega)) (fun k _ _ => hI _ _ (by omega))⟩
  · rw [hF.1 _ _ (by unfold ownF; omega)]; exact h3
  · rw [hI _ _ (by omega)]; exact h4 i hi
  · rw [hI _ _ (by omega)]; exact h5 q i hi
theorem IM.gtV {N N4 N' : Mem} {P : Nat → Nat} {n g : Nat} {V : VV} {Z : ZV} (hV : okV V) (hn : n ≤ 700) (hg : g < 2) (h : IM N V) (hF : GFr ownF N N4) (hZ : okZ P n Z) (hZM : ZM N4 P n Z) (hT : (mI N' 75 g = mI N4 75 2 ∧ tk3 g (xL (zX Z)) N4 N' ∧ (∀ j, j < 8 → cp8 g N4 N' j) ∧ ∀ j, j < 7 → mI N' 76 (7 * g + j) = mI N4 76 (14 + j)) ∧ GFr (ownT 75 g) N4 N') (h20 : mI N4 72 20 = io 0) (h29 : mI N4 72 29 = m1) : IM N' (gtV V g Z) := by
  obtain ⟨h1, h2, h3, h4, h5, h6, h7, h8⟩ := h
  obtain ⟨⟨t1, ⟨t2, ⟨u1, u2, u3, u4, u5⟩, t3, t4⟩, t5, t6⟩, hF2⟩ := hT
  have hE : ∀ o k, ¬ ownF o k → ¬ ownT 75 g o k → mI N' o k = mI N o k := fun o k a b => (hF2.1 _ _ b).trans (hF.1 _ _ a)
  have hI : ∀ o k, 90 ≤ o → mI N' o k = mI N o k := fun o k ho => hE _ _ (by unfold ownF; omega) (by unfold ownT; omega)
  refine ⟨hF2.PM (hF.PM h1), fun g' hg' => ?_, t4, fun i hi => ?_, fun q i hi => (by cases q), ?_, fun k hk => absurd hk (Nat.not_lt_zero k), ?_⟩
  · obtain ⟨a1, a2, a3, a4⟩ := h2 g' hg'
    obtain ⟨o1, o2, o3, o4⟩ := hV.1 g' hg'
    show MG N' g' (if g' = g then gvZ Z else vG V g') ∧ MS N' g' (if g' = g then zS Z else vS V g') ∧ MBk N' 83 g' (if g' = g then b00 else vB V g') ∧ (false = true → _)
    by_cases q : g' = g
    · rw [if_pos q, if_pos q, if_pos q]
      subst q
      obtain ⟨c1, c2, c3, c4, c5⟩ := hZM.1
      obtain ⟨b1, b2, b3, b4, b5, ⟨s0, s1, s2, s3⟩⟩ := hZM.2
      have hgN := hZ.2.1
      have e0 := t6 0 (by omega)
      rw [Nat.add_zero] at e0
      refine ⟨⟨t1.trans b1, e0.trans b2, (t6 5 (by omega)).trans b3, (t6 6 (by omega)).trans b4, fun s hs => ?_, fun k hk => (t2 k hk).trans (c5 k hk)⟩, ⟨(t6 1 (by omega)).trans s0, (t6 2 (by omega)).trans s1, (t6 3 (by omega)).trans s2, (t6 4 (by omega)).trans s3⟩, ⟨u1, u2, u3, u4, u5, fun i hi => absurd hi (Nat.not_lt_zero i), fun j hj => t3 j hj⟩, fun z => by cases z⟩
      have hs' : s < gN (zV Z) := hs
      obtain ⟨d1, d2, d3, d4, d5⟩ := t5 s (by omega)
      obtain ⟨f1, f2, f3, f4, f5⟩ := b5 s hs'
      exact ⟨d1.trans f1, d2.trans f2, d3.trans f3, d4.trans f4, d5.trans f5⟩
    · rw [if_neg q, if_neg q, if_neg q]
      exact ⟨a1.low hg' o1.1 o1.2.2.2.2.2.1 (fun o k hok => hE _ _ (by unfold ownF; omega) (by unfold ownT; omega)), a2.low (fun k k1 k2 => hE _ _ (by unfold ownF; omega) (by unfold ownT; omega)), a3.keep hg' o3.2.2.1 (fun j _ _ => hE _ _ (by unfold ownF; omega) (by unfold ownT; omega)) (fun k _ _ => hE _ _ (by unfold ownF; omega) (by unfold ownT; omega)) (fun k _ _ => hE _ _ (by unfold ownF; omega) (by unfold ownT; omega)), fun z => by cases z⟩
  · rw [hI _ _ (by omega)]; exact h4 i hi
  · rw [hF2.1 _ _ (by unfold ownT; omega)]; exact h20
  · rw [hF2.1 _ _ (by unfold ownT; omega)]; exact h29
def up110 (o _k : Nat) : Prop := 72 ≤ o ∧ o ≤ 110
theorem GFr.Fg72 {own : Nat → Nat → Prop} {N N' : Mem} (h : GFr own N N') (hs : ∀ o k, own o k → 72 ≤ o ∧ o ≤ 110) : Fg [(72, 110)] [] N N' :=
  ⟨fun o ho k => h.1 o k (fun z => by
    have := hs o k z
    simp only [ob, Bool.and_true, Bool.or_eq_true, decide_eq_true_eq] at ho
    omega), fun o _ _ k => h.2.2 o k, fun o _ k => h.2.1 o k⟩
/-- the reference, from the range on -/
theorem m_gate {P : Nat → Nat} {n g s q k m : Nat} {o : (Nat × Nat) ⊕ ZV} {V : VV} {N : Mem} (hV : okV V) (hN : IM N V) (hg : g < 2) (hnF : n ≤ vF V) (hP : P = vP V) (hGd : GdO P n o)
    (hadv : ∀ N, MSt N P n → mI N 72 21 = io 0 → Wp (zX12_stepOn 72 N) (fun _ N' => TkM N' s q k m ∧ On 72 [21, 23, 24, 25, 26] N N'))
    (htx : ∀ f g x1 N Q, n - s + 1 < f → ZM N P n (Zst s q k m) → RT x1 0 → (∀ N', QM P n o N N' → Wp (zX12_gate_B100 72 (io g) N') Q) → Wp (zX12_gate_L77 f 72 (io g) (io x1) N) Q) :
    Wp (zX12_gate 72 (io g) (io n) N) (fun y N1 => (match o with
      | .inl p => y = io p.1 ∧ IM N1 (setT (gtE V (io p.2)) 0)
      | .inr Z => y = io 0 ∧ IM N1 (gtV V g Z)) ∧ mI N1 72 2 = io 0 ∧ Fg [(72, 110)] [] N N1) := by
  have hn : n ≤ 700 := by have := hV.2.1; omega
  have hP1 := hN.1
  have h20 : mI (sI N 72 2 (io 0)) 72 20 = io (vF V) := (mI_diff (by omega)).trans hN.2.2.2.2.2.1
  obtain ⟨M1, hM1⟩ : ∃ M1, M1 = sI (sI (sI (sI (sI (sI (sI N 72 2 (io 0)) 72 20 (io 0)) 72 22 (io n)) 72 21 (io 0)) 72 27 (io 0)) 72 29 m1) 72 30 (io 0) := ⟨_, rfl⟩
  have hPM1 : PM M1 := by rw [hM1]; exact hP1
  have hF1 : GFr ownF N M1 := by
    rw [hM1]
    exact ((((((GFr.refl.sI (by unfold ownF; omega)).sI (by unfold ownF; omega)).sI (by unfold ownF; omega)).sI (by unfold ownF; omega)).sI (by unfold ownF; omega)).sI (by unfold ownF; omega)).sI (by unfold ownF; omega)
  have hg1 : ∀ k, mI M1 72 k = if k = 30 then io 0 else if k = 29 then m1 else if k = 27 then io 0 else if k = 21 then io 0 else if k = 22 then io n else if k = 20 then io 0 else if k = 2 then io 0 else mI N 72 k := fun k => by
    rw [hM1]
    simp only [mI_sI, true_and]
  have heq : zX12_gate 72 (io g) (io n) N = bnd (zX12_atFirst 72 (io 2) M1) fun _ M15 => bnd (zX12_stepOn 72 M15) fun _ M16 => zX12_gate_L77 FU 72 (io g) (io 0) M16 := by
    have hF7 := hV.2.1
    unfold zX12_gate
    simp -dsimp (disch := first | assumption | omega) only [lit_0, lit_1, lit_2, lit_3, lit_4, lit_5, lit_6, lit_7, lit_8, lit_9, lit_10, lit_11, lit_12, lit_13, lit_14, lit_15, lit_16, lit_17, lit_18, lit_19, lit_20, lit_21, lit_22, lit_23, lit_24, lit_25, lit_26, lit_27, lit_28, lit_29, lit_30, lit_31, lit_32, lit_33, lit_34, lit_35, lit_36, lit_37, lit_38, lit_39, lit_40, lit_41, lit_42, lit_43, lit_44, lit_45, lit_46, lit_47, lit_48, lit_49, lit_50, lit_51, lit_52, lit_53, lit_54, lit_55, lit_56, lit_57, lit_58, lit_59, lit_60, lit_61, lit_62, lit_63, lit_64, lit_97, lit_99, lit_100, lit_122, lit_175, lit_176, lit_200, lit_255, lit_400, lit_700, lit_800, lit_999, lit_1000, lit_1400, lit_2000, lit_2033, lit_2038, lit_2100, lit_2124, lit_8000, lit_10000, lit_12345, lit_32767, lit_1000000, lit_1000000000, ↓bndX_h, ↓bndK_h, bxh_inl, bxh_inr, bkh_inl, bkh_inr, Nat.reduceEqDiff, ↓bnd_h, ↓lt_h, ↓ite_h, bh_some, lh_eq, ih_T, ih_F, ne_eq, not_false_eq_true, not_true_eq_false, eq_self, and_true, true_and, io_def, io_add, io_mul, io_sub, io_lt, io_le, io_eq, io_clamp, io_inbT, io_div, io_mod, io_m1, m1_io, m1_lt, m1_le, neg_1, gI_m1, PM.p0, PM.p1, PM.p3, PM.p4, PM.p5, PM.p6, PM.p7, PM.p8, PM.p9, PM.p10, PM.p11, PM.p12, PM.p13, PM.p14, PM.p15, PM.p16, PM.p17, PM.p18, PM.p19, PM.p31, PM.p32, PM.p33, PM.p34, PM.p38, PM.p39, PM.p40, PM.p41, PM.p42, PM.p46, PM.p47, PM.p50, PM.p51, PM.p52, PM.p53, PM.p54, PM.p55, PM.p56, PM.p57, K0_1, K0_2, K0_3, K0_4, K0_5, K0_6, K0_7, K0_8, K0_9, K0_10, K0_11, K0_12, K0_13, K0_14, K0_15, K0_16, K0_17, K0_18, K0_19, K0_20, K0_21, K0_22, K0_23, K0_24, K0_25, K0_26, K0_27, K0_28, K0_29, K0_30, K0_31, K0_32, K0_33, K0_34, K0_35, K0_36, K0_37, K0_38, K0_39, K0_40, K0_41, K0_42, K0_43, K0_44, K0_45, K0_46, K0_47, K0_48, K0_49, K0_50, K0_51, K0_52, K0_53, K0_54, K0_55, K0_56, K0_57, K0_58, K0_59, K0_60, K0_61, K0_62, K0_63, K0_64, K0_65, K0_66, K0_67, K0_68, K0_69, K0_70, K0_71, K0_72, K0_73, K0_74, K0_75, K0_76, K0_77, K0_78, K0_79, K0_80, K0_81, K0_82, K0_83, K0_84, K0_85, K0_86, K0_87, K0_88, K0_89, K0_90, K0_91, K0_92, K0_93, K0_94, K0_95, K0_96, K0_97, K0_98, K0_99, K0_100, K0_101, K0_102, K0_103, K0_104, K0_105, K0_106, K0_107, K0_108, K0_109, K0_110, K0_111, m_isGate_in, m_isGate_out, m_isIn_in, m_isIn_out, m_isInn_in, m_isInn_out, m_fail, false_and, and_false, if_false, if_true, and_self, mI_sI, mI_sL, mL_sI, mL_sL, mR_sI, mR_sL, h20, hnF, Nat.not_lt_zero] <;> (subst hM1; rfl)
  rw [heq]
  refine Wp.seq (m_atFirst hPM1) (fun _ N2 ⟨b1, b2⟩ => ?_)
  have hF2 : GFr ownF N N2 := hF1.trans (b2.sub (fun o k h => by unfold ownM at h; unfold ownF; omega))
  have h2m : ∀ k, mI N2 72 k = mI M1 72 k := fun k => b2.1 _ _ (by unfold ownM; omega)
  have hP2 : PM N2 := hF2.PM hP1
  have hSt : MSt N2 P n := ⟨hP2, by rw [h2m, hg1]; rfl, fun k hk => by
    rw [hF2.1 _ _ (by unfold ownF; omega), hP]
    exact hN.2.2.2.2.2.2.1 k (by omega)⟩
  refine Wp.seq (hadv N2 hSt (by rw [h2m, hg1]; rfl)) (fun _ N3 ⟨t1, t2⟩ => ?_)
  have hFM : FrM N2 N3 := t2.M (fun j hj => by simp only [fM, List.mem_cons, List.not_mem_nil, or_false] at hj ⊢; omega)
  have h3m : ∀ k, k ∉ [21, 23, 24, 25, 26] → mI N3 72 k = mI M1 72 k := fun k hk => (t2.1 _ _ (Or.inr hk)).trans (h2m k)
  have hZ3 : ZM N3 P n (Zst s q k m) := ⟨⟨hSt.keep t2 (by simp), by rw [h3m _ (by simp), hg1]; rfl, t1, by rw [h3m _ (by simp), hg1]; rfl, fun i hi => absurd hi (Nat.not_lt_zero i)⟩, BM.keep (show BM N2 (zV (Zst s q k m)) (zS (Zst s q k m)) from b1) hFM⟩
  have hF3 : GFr ownF N N3 := hF2.trans hFM.N.G
  refine htx FU g 0 N3 _ (by rw [FU_val]; omega) hZ3 ⟨0, Nat.zero_le _, rfl⟩ (fun N4 ⟨c1, c2⟩ => ?_)
  have hF4 : GFr ownF N N4 := hF3.trans c2.G
  have k4 : ∀ k, k ∉ fM → mI N4 72 k = mI N3 72 k := fun k hk => c2.1 _ _ (Or.inr hk) (Or.inl (by omega)) (Or.inl (by omega)) (Or.inl (by omega)) (Or.inl (by omega))
  have e20 : mI N4 72 20 = io 0 := by rw [k4 _ (by simp [fM]), h3m _ (by simp), hg1]; rfl
  have e2 : mI N4 72 2 = io 0 := by rw [k4 _ (by simp [fM]), h3m _ (by simp), hg1]; rfl
  have e29 : mI N4 72 29 = m1 := by rw [k4 _ (by simp [fM]), h3m _ (by simp), hg1]; rfl
  have hP4 : PM N4 := hF4.PM hP1
  cases o with
  | inl p =>
    obtain ⟨p1, p2, p3⟩ : 1 ≤ p.1 ∧ p.1 ≤ 4 ∧ p.2 ≤ n := hGd
    obtain ⟨d1, d2⟩ : BdM N4 p.1 p.2 := c1
    have hne : ¬ p.1 = 0 := by omega
    have hne' : ¬ (io p.1 = io 0) := by rw [io_eq (by omega) (by omega)]; exact hne
    have hF5 : GFr ownF N (sI N4 72 29 (io p.2)) := hF4.sI (by unfold ownF; omega)
    have hI5 : IM (sI N4 72 29 (io p.2)) (gtE V (io p.2)) := IM.gtE hV hN hF5 ((mI_diff (by omega)).trans e20) mI_same
    have hI6 := hI5.setT (k := 0) (by omega)
    have ht : mI (sI N4 72 29 (io p.2)) 90 0 = vT V 0 := hI5.2.2.2.1 0 (by omega)
    have e27 : mI (sI (sI N4 72 29 (io p.2)) 90 0 (vT V 0 + io 1)) 72 27 = io p.1 := ((mI_diff (by omega)).trans (mI_diff (by omega))).trans d1
    have hB : zX12_gate_B100 72 (io g) N4 = some (io p.1, sI (sI N4 72 29 (io p.2)) 90 0 (vT V 0 + io 1)) := by
      unfold zX12_gate_B100
      simp -dsimp (disch := first | assumption | omega) only [↓bndX_h, ↓bndK_h, bxh_inl, bxh_inr, bkh_inl, bkh_inr, Nat.reduceEqDiff, ↓bnd_h, ↓lt_h, ↓ite_h, bh_some, lh_eq, ih_T, ih_F, ne_eq, not_false_eq_true, not_true_eq_false, eq_self, and_true, true_and, io_def, lit_0, lit_1, io_add, io_mul, io_sub, io_lt, io_le, io_eq, io_clamp, io_inbT, io_div, io_mod, io_m1, m1_io, m1_lt, m1_le, neg_1, gI_m1, PM.p0, PM.p1, PM.p3, PM.p4, PM.p5, PM.p6, PM.p7, PM.p8, PM.p9, PM.p10, PM.p11, PM.p12, PM.p13, PM.p14, PM.p15, PM.p16, PM.p17, PM.p18, PM.p19, PM.p31, PM.p32, PM.p33, PM.p34, PM.p38, PM.p39, PM.p40, PM.p41, PM.p42, PM.p46, PM.p47, PM.p50, PM.p51, PM.p52, PM.p53, PM.p54, PM.p55, PM.p56, PM.p57, K0_1, K0_2, K0_3, K0_4, K0_5, K0_6, K0_7, K0_8, K0_9, K0_10, K0_11, K0_12, K0_13, K0_14, K0_15, K0_16, K0_17, K0_18, K0_19, K0_20, K0_21, K0_22, K0_23, K0_24, K0_25, K0_26, K0_27, K0_28, K0_29, K0_30, K0_31, K0_32, K0_33, K0_34, K0_35, K0_36, K0_37, K0_38, K0_39, K0_40, K0_41, K0_42, K0_43, K0_44, K0_45, K0_46, K0_47, K0_48, K0_49, K0_50, K0_51, K0_52, K0_53, K0_54, K0_55, K0_56, K0_57, K0_58, K0_59, K0_60, K0_61, K0_62, K0_63, K0_64, K0_65, K0_66, K0_67, K0_68, K0_69, K0_70, K0_71, K0_72, K0_73, K0_74, K0_75, K0_76, K0_77, K0_78, K0_79, K0_80, K0_81, K0_82, K0_83, K0_84, K0_85, K0_86, K0_87, K0_88, K0_89, K0_90, K0_91, K0_92, K0_93, K0_94, K0_95, K0_96, K0_97, K0_98, K0_99, K0_100, K0_101, K0_102, K0_103, K0_104, K0_105, K0_106, K0_107, K0_108, K0_109, K0_110, K0_111, mR_sI, d1, d2, hne, hP4, ht, e27]
    rw [hB]
    refine Wp.ret ⟨⟨rfl, hI6⟩, ((mI_diff (by omega)).trans (mI_diff (by omega))).trans e2, ?_⟩
    have hF6 : GFr up110 N (sI N4 72 29 (io p.2)) := hF5.sub (fun o k h => by unfold ownF at h; unfold up110; omega)
    exact (hF6.sI (o := 90) (k := 0) (x := vT V 0 + io 1) (by unfold up110; omega)).Fg72 (fun o k h => h)
  | inr Z =>
    have hZ : okZ P n Z := hGd
    have c1' : ZM N4 P n Z := c1
    have e27 : mI N4 72 27 = io 0 := c1'.1.2.1
    have hL : xL (zX Z) ≤ 700 := by have := hZ.1.2.1; have := hZ.1.1.1; have := hZ.1.1.2.1; omega
    have hB : zX12_gate_B100 72 (io g) N4 = bnd (zX12_take 72 (io g) N4) fun _ M2 => some (io 0, M2) := by
      unfold zX12_gate_B100
      rw [e27, lit_0, if_pos rfl]
    rw [hB]
    refine Wp.seq (m_take hP4 hg c1'.1.2.2.2.1 hL) (fun _ N5 hT => Wp.ret ⟨⟨rfl, IM.gtV hV hn hg hN hF4 hZ c1' hT e20 e29⟩, (hT.2.1 _ _ (by unfold ownT; omega)).trans e2, ?_⟩)
    have hF6 : GFr up110 N N4 := hF4.sub (fun o k h => by unfold ownF at h; unfold up110; omega)
    exact (hF6.trans (hT.2.sub (fun o k h => by unfold ownT at h; unfold up110; omega))).Fg72 (fun o k h => h)
