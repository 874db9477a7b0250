/-! ===== LEVEL 2: the best of many: seeded, card, best ===== -/
def bstP (ok : Nat → Bool) (f : Nat → Nat) : Nat → Nat × Nat
  | 0 => (0, 0)
  | k + 1 => if ok k = true ∧ (bstP ok f k).2 ≤ f k then (k + 1, f k + 1) else bstP ok f k
theorem bst_max {ok : Nat → Bool} {f : Nat → Nat} : ∀ {k j : Nat}, j < k → ok j = true → f j + 1 ≤ (bstP ok f k).2
  | 0, j, h, _ => absurd h (Nat.not_lt_zero _)
  | k + 1, j, h, hj => by
    show _ ≤ (if ok k = true ∧ (bstP ok f k).2 ≤ f k then (k + 1, f k + 1) else bstP ok f k).2
    by_cases q : j = k
    · subst q
      by_cases c : ok j = true ∧ (bstP ok f j).2 ≤ f j
      · rw [if_pos c]; exact Nat.le_refl _
      · rw [if_neg c]
        have : ¬ (bstP ok f j).2 ≤ f j := fun z => c ⟨hj, z⟩
        omega
    · have := bst_max (f := f) (show j < k by omega) hj
      by_cases c : ok k = true ∧ (bstP ok f k).2 ≤ f k
      · rw [if_pos c]
        show f j + 1 ≤ f k + 1
        omega
      · rw [if_neg c]; exact this
theorem bst_skip {ok : Nat → Bool} {f : Nat → Nat} {k j : Nat} (hj : j < k) (h1 : ok j = ok k) (h2 : f j = f k) : bstP ok f (k + 1) = bstP ok f k := by
  show (if ok k = true ∧ (bstP ok f k).2 ≤ f k then (k + 1, f k + 1) else bstP ok f k) = _
  rw [if_neg]
  rintro ⟨q1, q2⟩
  have := bst_max (f := f) hj (h1.trans q1)
  omega
theorem bst_le {ok : Nat → Bool} {f : Nat → Nat} {B : Nat} (h : ∀ k, f k ≤ B) : ∀ k, (bstP ok f k).1 ≤ k ∧ (bstP ok f k).2 ≤ B + 1
  | 0 => ⟨Nat.le_refl _, Nat.zero_le _⟩
  | k + 1 => by
    have ih := bst_le (ok := ok) h k
    show (if ok k = true ∧ (bstP ok f k).2 ≤ f k then (k + 1, f k + 1) else bstP ok f k).1 ≤ _ ∧ (if ok k = true ∧ (bstP ok f k).2 ≤ f k then (k + 1, f k + 1) else bstP ok f k).2 ≤ _
    split
    · exact ⟨Nat.le_refl _, Nat.succ_le_succ (h k)⟩
    · exact ⟨by omega, ih.2⟩
theorem io_le_gI {a m : Nat} (ha : a < 2147483648) (hm : m < 2147483648) : (io a ≤ gI m) = (a < m) := by
  unfold gI
  by_cases e : m = 0
  · rw [if_pos e, m1_le ha, e]
    exact propext ⟨fun h => h.elim, fun h => by omega⟩
  · rw [if_neg e, io_le ha (by omega)]
    exact propext ⟨fun h => by omega, fun h => by omega⟩
theorem gI_lt_io {a m : Nat} (ha : a < 2147483648) (hm : m < 2147483648) : (gI m < io a) = (m ≤ a) := by
  unfold gI
  by_cases e : m = 0
  · rw [if_pos e, m1_lt ha, e]
    exact propext ⟨fun h => by omega, fun h => trivial⟩
  · rw [if_neg e, io_lt (by omega) ha]
    exact propext ⟨fun h => by omega, fun h => by omega⟩
theorem gI_s (x : Nat) : gI (x + 1) = io x := rfl
theorem coin_le {v : GV} {sv : SV} {seed n : Nat} (hv : okG v) (hs : seed < stN (gSi v)) (hn : n ≤ 60) : gvV v sv seed n / 1000000 ≤ 540000 := by
  have := gvV_le (sv := sv) hv hs n
  omega
theorem m_seeded_e2 {N : Mem} {V : VV} {g : Nat} {b : Int32} (hg2 : g < 2) (h : b < io 0 ∨ io 60 < b) (hN : IM N V) : Wp (zX12_seeded 72 (io g) b N) (fun y N1 => agree (.inr 1) y (mI N1 72 2) ∧ IM N1 V ∧ Fg [(72, 110)] [] N N1) := by
  unfold zX12_seeded
  rw [if_pos K0_72]
  show Wp (bnd (zX12_isGate (io g) (sI N 72 2 0)) _) _
  rw [m_isGate_in hg2, bnd_some, if_neg (by decide)]
  rw [lit_0, show (60 : Int32) = io 60 from rfl, m_isIn_out h, bnd_some, if_pos rfl]
  rw [m_fail, bnd_some]
  exact Wp.ret (m_err2 hN rfl)
theorem m_seeded_in {N : Mem} {g n : Nat} (hg2 : g < 2) (hn : n ≤ 60) : zX12_seeded 72 (io g) (io n) N = zX12_seeded_L42 FU 72 (io g) (io n) (io 0) m1 (io 0) (sI N 72 2 (io 0)) := by
  unfold zX12_seeded
  rw [if_pos K0_72, lt_eq, m_isGate_in hg2, bnd_some, if_neg (by decide)]
  rw [lit_0, show (60 : Int32) = io 60 from rfl, m_isIn_in (Nat.zero_le n) hn (by omega), bnd_some, if_neg (by decide)]
  rfl
theorem op_seeded (a b : Int32) : OpR 1 (zX11_seeded 1 a b) (zX12_seeded 72 a b) := by
  intro M R V hV hIp hIs
  have hP1 := hIp.1
  rcases rg_le a 1 (by omega) with ⟨g, hg, rfl⟩ | h
  · have hg2 : g < 2 := by omega
    obtain ⟨hvg, hvs, hvb, -⟩ := hV.1 g hg2
    obtain ⟨hC, hS, -, -⟩ := hIp.2.2.1 g hg2
    have r0 := hIp.2.1.r0 hg2
    have hru := hIp.2.1.ru hg2
    have hse := isSe_of hru
    have hPR := hP1.PR hru
    have hst := stN_le (gSi (vG V g))
    rcases rg_le b 60 (by omega) with ⟨n, hn, rfl⟩ | h
    · obtain ⟨F, hFd⟩ : ∃ F : Nat → Nat, ∀ k, F k = if k < stN (gSi (vG V g)) then gvV (vG V g) (vS V g) k n / 1000000 else 0 := ⟨_, fun _ => rfl⟩
      have hF : ∀ k, F k ≤ 540000 := fun k => by
        rw [hFd]
        by_cases q : k < stN (gSi (vG V g))
        · rw [if_pos q]; exact coin_le hvg q hn
        · rw [if_neg q]; exact Nat.zero_le _
      have hFk : ∀ k, k < stN (gSi (vG V g)) → F k = gvV (vG V g) (vS V g) k n / 1000000 := fun k hk => by rw [hFd, if_pos hk]
      have hbl := bst_le (ok := fun _ => true) hF
      have hstep1 : ∀ k, (bstP (fun _ => true) F k).2 ≤ F k → bstP (fun _ => true) F (k + 1) = (k + 1, F k + 1) := fun k h => if_pos ⟨rfl, h⟩
      have hstep2 : ∀ k, ¬ (bstP (fun _ => true) F k).2 ≤ F k → bstP (fun _ => true) F (k + 1) = bstP (fun _ => true) F k := fun k h => if_neg (fun z => h z.2)
      refine ⟨R, V, .inl (io ((bstP (fun _ => true) F (stN (gSi (vG V g)))).1 - 1)), hV, trivial, ?_, fun N hN => ?_⟩
      · unfold zX11_seeded
        generalize hFU : FU = fu
        rw [FU_val] at hFU
        simp -dsimp (disch := first | assumption | omega) only [neg_1, lit_0, lit_1, lit_2, lit_3, lit_4, lit_5, lit_6, lit_7, lit_8, lit_9, lit_10, lit_11, lit_12, lit_13, lit_14, lit_15, lit_16, lit_17, lit_18, lit_19, lit_20, lit_21, lit_22, lit_23, lit_24, lit_25, lit_26, lit_27, lit_28, lit_29, lit_30, lit_31, lit_32, lit_33, lit_34, lit_35, lit_36, lit_37, lit_38, lit_39, lit_40, lit_41, lit_42, lit_43, lit_44, lit_45, lit_46, lit_47, lit_48, lit_49, lit_50, lit_51, lit_52, lit_53, lit_54, lit_55, lit_56, lit_57, lit_58, lit_59, lit_60, lit_61, lit_62, lit_63, lit_64, lit_97, lit_99, lit_100, lit_122, lit_175, lit_176, lit_200, lit_255, lit_400, lit_700, lit_800, lit_999, lit_1000, lit_1400, lit_2000, lit_2033, lit_2038, lit_2100, lit_2124, lit_8000, lit_10000, lit_12345, lit_32767, lit_1000000, lit_1000000000, ↓bndX_h, ↓bndK_h, bxh_inl, bxh_inr, bkh_inl, bkh_inr, Nat.reduceEqDiff, ↓bnd_h, ↓lt_h, ↓ite_h, bh_some, lh_eq, ih_T, ih_F, ne_eq, not_false_eq_true, not_true_eq_false, eq_self, and_true, true_and, io_def, io_add, io_mul, io_sub, io_lt, io_le, io_eq, io_clamp, io_inbT, io_div, io_mod, io_m1, m1_io, m1_lt, m1_le, neg_1, gI_m1, K0_1, PC1.p1_0, PC1.p1_1, PC1.p1_2, PC1.p1_3, PC1.p1_4, PC1.p1_7, PC1.p1_8, PC1.p1_9, PC1.p1_10, PC1.p1_11, PC1.p1_12, K0_2, K0_39, K0_40, K0_41, K0_45, K0_52, K0_63, K0_66, K0_71, K0_gid, gid_ne, K0_bid, bid_ne, K0_kid, kid_ne, K0_bid1, K0_bid2, K0_kid1, K0_kid2, GP.r1, GP.r2, GP.b5, GP.b6, GP.k5, GP.k6, c_gateOf, succ_ne, c_ask_in, c_ask_out, c_askn_in, c_askn_out, c_range_in, c_range_out, K0_r, K0_r1, K0_r2, K0_r3, K0_r4, K0_r5, K0_r6, ru_ne, PR.p7, PR.p8, PR.p9, PR.p10, PR.p11, PR.p12, at_r1, at_r2, at_r3, at_r4, at_r5, succ_ne, K0_se, se_ne, K0_r6, r0]
        refine Wp.seqh (c_gbegin hIp hIs hru hse hC hS) (fun _ M1 ⟨a1, a2, a3, a4⟩ => ?_)
        refine loopW (L := fun f (k : Nat) U => zX11_seeded_L40 f 1 (io n) (gid g) (io ((bstP (fun _ => true) F k).1 - 1)) (gI (bstP (fun _ => true) F k).2) (io k) U) (J := fun k U => k ≤ stN (gSi (vG V g)) ∧ GX U (R g) (R g + 6) (vG V g) (vS V g) ∧ ICp U R V ∧ ICs U ∧ FS M U) (fun k _ => stN (gSi (vG V g)) - k) ?_ fu 0 M1 ⟨Nat.zero_le _, a1, a2, a3, a4⟩ (by omega)
        intro f k U ⟨hk, h1, h2, h3, h4⟩ rec
        show Wp (zX11_seeded_B40 _ _ _ _ _ _ _ _) _
        unfold zX11_seeded_B40 zX11_seeded_B94
        have hP2 := h2.1
        have r1 : mR U (gid g) 0 = R g := h2.2.1.r0 hg2
        have e1 := c_states hru hvg (h2.2.2.1 g hg2).1.2.2.1
        simp -dsimp (disch := first | assumption | omega) only [neg_1, lit_0, lit_1, lit_2, lit_3, lit_4, lit_5, lit_6, lit_7, lit_8, lit_9, lit_10, lit_11, lit_12, lit_13, lit_14, lit_15, lit_16, lit_17, lit_18, lit_19, lit_20, lit_21, lit_22, lit_23, lit_24, lit_25, lit_26, lit_27, lit_28, lit_29, lit_30, lit_31, lit_32, lit_33, lit_34, lit_35, lit_36, lit_37, lit_38, lit_39, lit_40, lit_41, lit_42, lit_43, lit_44, lit_45, lit_46, lit_47, lit_48, lit_49, lit_50, lit_51, lit_52, lit_53, lit_54, lit_55, lit_56, lit_57, lit_58, lit_59, lit_60, lit_61, lit_62, lit_63, lit_64, lit_97, lit_99, lit_100, lit_122, lit_175, lit_176, lit_200, lit_255, lit_400, lit_700, lit_800, lit_999, lit_1000, lit_1400, lit_2000, lit_2033, lit_2038, lit_2100, lit_2124, lit_8000, lit_10000, lit_12345, lit_32767, lit_1000000, lit_1000000000, ↓bndX_h, ↓bndK_h, bxh_inl, bxh_inr, bkh_inl, bkh_inr, Nat.reduceEqDiff, ↓bnd_h, ↓lt_h, ↓ite_h, bh_some, lh_eq, ih_T, ih_F, ne_eq, not_false_eq_true, not_true_eq_false, eq_self, and_true, true_and, io_def, io_add, io_mul, io_sub, io_lt, io_le, io_eq, io_clamp, io_inbT, io_div, io_mod, io_m1, m1_io, m1_lt, m1_le, neg_1, gI_m1, K0_1, PC1.p1_0, PC1.p1_1, PC1.p1_2, PC1.p1_3, PC1.p1_4, PC1.p1_7, PC1.p1_8, PC1.p1_9, PC1.p1_10, PC1.p1_11, PC1.p1_12, K0_2, K0_39, K0_40, K0_41, K0_45, K0_52, K0_63, K0_66, K0_71, K0_gid, gid_ne, K0_bid, bid_ne, K0_kid, kid_ne, K0_bid1, K0_bid2, K0_kid1, K0_kid2, GP.r1, GP.r2, GP.b5, GP.b6, GP.k5, GP.k6, c_gateOf, succ_ne, c_ask_in, c_ask_out, c_askn_in, c_askn_out, c_range_in, c_range_out, K0_r, K0_r1, K0_r2, K0_r3, K0_r4, K0_r5, K0_r6, ru_ne, PR.p7, PR.p8, PR.p9, PR.p10, PR.p11, PR.p12, at_r1, at_r2, at_r3, at_r4, at_r5, succ_ne, K0_se, se_ne, K0_r6, r1, e1]
        refine Wp.csh (fun c => ?_) (fun c => ?_)
        · rw [show k = stN (gSi (vG V g)) by omega]
          exact Wp.ret ⟨rfl, h2, h3, h4.top⟩
        · have hk2 : k < stN (gSi (vG V g)) := by omega
          simp -dsimp (disch := first | assumption | omega) only [neg_1, lit_0, lit_1, lit_2, lit_3, lit_4, lit_5, lit_6, lit_7, lit_8, lit_9, lit_10, lit_11, lit_12, lit_13, lit_14, lit_15, lit_16, lit_17, lit_18, lit_19, lit_20, lit_21, lit_22, lit_23, lit_24, lit_25, lit_26, lit_27, lit_28, lit_29, lit_30, lit_31, lit_32, lit_33, lit_34, lit_35, lit_36, lit_37, lit_38, lit_39, lit_40, lit_41, lit_42, lit_43, lit_44, lit_45, lit_46, lit_47, lit_48, lit_49, lit_50, lit_51, lit_52, lit_53, lit_54, lit_55, lit_56, lit_57, lit_58, lit_59, lit_60, lit_61, lit_62, lit_63, lit_64, lit_97, lit_99, lit_100, lit_122, lit_175, lit_176, lit_200, lit_255, lit_400, lit_700, lit_800, lit_999, lit_1000, lit_1400, lit_2000, lit_2033, lit_2038, lit_2100, lit_2124, lit_8000, lit_10000, lit_12345, lit_32767, lit_1000000, lit_1000000000, ↓bndX_h, ↓bndK_h, bxh_inl, bxh_inr, bkh_inl, bkh_inr, Nat.reduceEqDiff, ↓bnd_h, ↓lt_h, ↓ite_h, bh_some, lh_eq, ih_T, ih_F, ne_eq, not_false_eq_true, not_true_eq_false, eq_self, and_true, true_and, io_def, io_add, io_mul, io_sub, io_lt, io_le, io_eq, io_clamp, io_inbT, io_div, io_mod, io_m1, m1_io, m1_lt, m1_le, neg_1, gI_m1, K0_1, PC1.p1_0, PC1.p1_1, PC1.p1_2, PC1.p1_3, PC1.p1_4, PC1.p1_7, PC1.p1_8, PC1.p1_9, PC1.p1_10, PC1.p1_11, PC1.p1_12, K0_2, K0_39, K0_40, K0_41, K0_45, K0_52, K0_63, K0_66, K0_71, K0_gid, gid_ne, K0_bid, bid_ne, K0_kid, kid_ne, K0_bid1, K0_bid2, K0_kid1, K0_kid2, GP.r1, GP.r2, GP.b5, GP.b6, GP.k5, GP.k6, c_gateOf, succ_ne, c_ask_in, c_ask_out, c_askn_in, c_askn_out, c_range_in, c_range_out, K0_r, K0_r1, K0_r2, K0_r3, K0_r4, K0_r5, K0_r6, ru_ne, PR.p7, PR.p8, PR.p9, PR.p10, PR.p11, PR.p12, at_r1, at_r2, at_r3, at_r4, at_r5, succ_ne, K0_se, se_ne, K0_r6]
          refine Wp.seqh (c_wbegin h2 h3 hru hse h1 (show k < 100 by omega)) (fun _ M3 ⟨d1, d2, d3, d4⟩ => ?_)
          have hP4 := d2.1
          simp -dsimp (disch := first | assumption | omega) only [neg_1, lit_0, lit_1, lit_2, lit_3, lit_4, lit_5, lit_6, lit_7, lit_8, lit_9, lit_10, lit_11, lit_12, lit_13, lit_14, lit_15, lit_16, lit_17, lit_18, lit_19, lit_20, lit_21, lit_22, lit_23, lit_24, lit_25, lit_26, lit_27, lit_28, lit_29, lit_30, lit_31, lit_32, lit_33, lit_34, lit_35, lit_36, lit_37, lit_38, lit_39, lit_40, lit_41, lit_42, lit_43, lit_44, lit_45, lit_46, lit_47, lit_48, lit_49, lit_50, lit_51, lit_52, lit_53, lit_54, lit_55, lit_56, lit_57, lit_58, lit_59, lit_60, lit_61, lit_62, lit_63, lit_64, lit_97, lit_99, lit_100, lit_122, lit_175, lit_176, lit_200, lit_255, lit_400, lit_700, lit_800, lit_999, lit_1000, lit_1400, lit_2000, lit_2033, lit_2038, lit_2100, lit_2124, lit_8000, lit_10000, lit_12345, lit_32767, lit_1000000, lit_1000000000, ↓bndX_h, ↓bndK_h, bxh_inl, bxh_inr, bkh_inl, bkh_inr, Nat.reduceEqDiff, ↓bnd_h, ↓lt_h, ↓ite_h, bh_some, lh_eq, ih_T, ih_F, ne_eq, not_false_eq_true, not_true_eq_false, eq_self, and_true, true_and, io_def, io_add, io_mul, io_sub, io_lt, io_le, io_eq, io_clamp, io_inbT, io_div, io_mod, io_m1, m1_io, m1_lt, m1_le, neg_1, gI_m1, K0_1, PC1.p1_0, PC1.p1_1, PC1.p1_2, PC1.p1_3, PC1.p1_4, PC1.p1_7, PC1.p1_8, PC1.p1_9, PC1.p1_10, PC1.p1_11, PC1.p1_12, K0_2, K0_39, K0_40, K0_41, K0_45, K0_52, K0_63, K0_66, K0_71, K0_gid, gid_ne, K0_bid, bid_ne, K0_kid, kid_ne, K0_bid1, K0_bid2, K0_kid1, K0_kid2, GP.r1, GP.r2, GP.b5, GP.b6, GP.k5, GP.k6, c_gateOf, succ_ne, c_ask_in, c_ask_out, c_askn_in, c_askn_out, c_range_in, c_range_out, K0_r, K0_r1, K0_r2, K0_r3, K0_r4, K0_r5, K0_r6, ru_ne, PR.p7, PR.p8, PR.p9, PR.p10, PR.p11, PR.p12, at_r1, at_r2, at_r3, at_r4, at_r5, succ_ne, K0_se, se_ne, K0_r6]
          refine Wp.seqh (c_wgo d2 d3 hru hse hvg hvs hk2 (by omega) (show n ≤ 400 by omega) d1) (fun _ M4 ⟨⟨cn, ct, f1⟩, f2, f3, f4⟩ => ?_)
          have hP5 := f2.1
          rw [Nat.zero_add] at f1
          have hGl := gvV_le (sv := vS V g) hvg hk2 n
          have hfk := hFk k hk2
          have hf540 := hF k
          have hm2 := (hbl k).2
          have hcg := c_given f1 (show _ < _ by omega)
          rw [← hfk] at hcg
          simp -dsimp (disch := first | assumption | omega) only [neg_1, lit_0, lit_1, lit_2, lit_3, lit_4, lit_5, lit_6, lit_7, lit_8, lit_9, lit_10, lit_11, lit_12, lit_13, lit_14, lit_15, lit_16, lit_17, lit_18, lit_19, lit_20, lit_21, lit_22, lit_23, lit_24, lit_25, lit_26, lit_27, lit_28, lit_29, lit_30, lit_31, lit_32, lit_33, lit_34, lit_35, lit_36, lit_37, lit_38, lit_39, lit_40, lit_41, lit_42, lit_43, lit_44, lit_45, lit_46, lit_47, lit_48, lit_49, lit_50, lit_51, lit_52, lit_53, lit_54, lit_55, lit_56, lit_57, lit_58, lit_59, lit_60, lit_61, lit_62, lit_63, lit_64, lit_97, lit_99, lit_100, lit_122, lit_175, lit_176, lit_200, lit_255, lit_400, lit_700, lit_800, lit_999, lit_1000, lit_1400, lit_2000, lit_2033, lit_2038, lit_2100, lit_2124, lit_8000, lit_10000, lit_12345, lit_32767, lit_1000000, lit_1000000000, ↓bndX_h, ↓bndK_h, bxh_inl, bxh_inr, bkh_inl, bkh_inr, Nat.reduceEqDiff, ↓bnd_h, ↓lt_h, ↓ite_h, bh_some, lh_eq, ih_T, ih_F, ne_eq, not_false_eq_true, not_true_eq_false, eq_self, and_true, true_and, io_def, io_add, io_mul, io_sub, io_lt, io_le, io_eq, io_clamp, io_inbT, io_div, io_mod, io_m1, m1_io, m1_lt, m1_le, neg_1, gI_m1, K0_1, PC1.p1_0, PC1.p1_1, PC1.p1_2, PC1.p1_3, PC1.p1_4, PC1.p1_7, PC1.p1_8, PC1.p1_9, PC1.p1_10, PC1.p1_11, PC1.p1_12, K0_2, K0_39, K0_40, K0_41, K0_45, K0_52, K0_63, K0_66, K0_71, K0_gid, gid_ne, K0_bid, bid_ne, K0_kid, kid_ne, K0_bid1, K0_bid2, K0_kid1, K0_kid2, GP.r1, GP.r2, GP.b5, GP.b6, GP.k5, GP.k6, c_gateOf, succ_ne, c_ask_in, c_ask_out, c_askn_in, c_askn_out, c_range_in, c_range_out, K0_r, K0_r1, K0_r2, K0_r3, K0_r4, K0_r5, K0_r6, ru_ne, PR.p7, PR.p8, PR.p9, PR.p10, PR.p11, PR.p12, at_r1, at_r2, at_r3, at_r4, at_r5, succ_ne, K0_se, se_ne, K0_r6, hcg, io_le_gI]
          refine Wp.csh (fun c2 => ?_) (fun c2 => ?_)
          · have e := hstep2 k (by omega)
            simp -dsimp (disch := first | assumption | omega) only [neg_1, lit_0, lit_1, lit_2, lit_3, lit_4, lit_5, lit_6, lit_7, lit_8, lit_9, lit_10, lit_11, lit_12, lit_13, lit_14, lit_15, lit_16, lit_17, lit_18, lit_19, lit_20, lit_21, lit_22, lit_23, lit_24, lit_25, lit_26, lit_27, lit_28, lit_29, lit_30, lit_31, lit_32, lit_33, lit_34, lit_35, lit_36, lit_37, lit_38, lit_39, lit_40, lit_41, lit_42, lit_43, lit_44, lit_45, lit_46, lit_47, lit_48, lit_49, lit_50, lit_51, lit_52, lit_53, lit_54, lit_55, lit_56, lit_57, lit_58, lit_59, lit_60, lit_61, lit_62, lit_63, lit_64, lit_97, lit_99, lit_100, lit_122, lit_175, lit_176, lit_200, lit_255, lit_400, lit_700, lit_800, lit_999, lit_1000, lit_1400, lit_2000, lit_2033, lit_2038, lit_2100, lit_2124, lit_8000, lit_10000, lit_12345, lit_32767, lit_1000000, lit_1000000000, ↓bndX_h, ↓bndK_h, bxh_inl, bxh_inr, bkh_inl, bkh_inr, Nat.reduceEqDiff, ↓bnd_h, ↓lt_h, ↓ite_h, bh_some, lh_eq, ih_T, ih_F, ne_eq, not_false_eq_true, not_true_eq_false, eq_self, and_true, true_and, io_def, io_add, io_mul, io_sub, io_lt, io_le, io_eq, io_clamp, io_inbT, io_div, io_mod, io_m1, m1_io, m1_lt, m1_le, neg_1, gI_m1, K0_1, PC1.p1_0, PC1.p1_1, PC1.p1_2, PC1.p1_3, PC1.p1_4, PC1.p1_7, PC1.p1_8, PC1.p1_9, PC1.p1_10, PC1.p1_11, PC1.p1_12, K0_2, K0_39, K0_40, K0_41, K0_45, K0_52, K0_63, K0_66, K0_71, K0_gid, gid_ne, K0_bid, bid_ne, K0_kid, kid_ne, K0_bid1, K0_bid2, K0_kid1, K0_kid2, GP.r1, GP.r2, GP.b5, GP.b6, GP.k5, GP.k6, c_gateOf, succ_ne, c_ask_in, c_ask_out, c_askn_in, c_askn_out, c_range_in, c_range_out, K0_r, K0_r1, K0_r2, K0_r3, K0_r4, K0_r5, K0_r6, ru_ne, PR.p7, PR.p8, PR.p9, PR.p10, PR.p11, PR.p12, at_r1, at_r2, at_r3, at_r4, at_r5, succ_ne, K0_se, se_ne, K0_r6]
            have rr := rec (k + 1) M4 ⟨by omega, f1.1, f2, f3, (h4.trans d4).trans f4⟩ (by omega)
            rw [e] at rr
            exact rr
          · have e := hstep1 k (by omega)
            simp -dsimp (disch := first | assumption | omega) only [neg_1, lit_0, lit_1, lit_2, lit_3, lit_4, lit_5, lit_6, lit_7, lit_8, lit_9, lit_10, lit_11, lit_12, lit_13, lit_14, lit_15, lit_16, lit_17, lit_18, lit_19, lit_20, lit_21, lit_22, lit_23, lit_24, lit_25, lit_26, lit_27, lit_28, lit_29, lit_30, lit_31, lit_32, lit_33, lit_34, lit_35, lit_36, lit_37, lit_38, lit_39, lit_40, lit_41, lit_42, lit_43, lit_44, lit_45, lit_46, lit_47, lit_48, lit_49, lit_50, lit_51, lit_52, lit_53, lit_54, lit_55, lit_56, lit_57, lit_58, lit_59, lit_60, lit_61, lit_62, lit_63, lit_64, lit_97, lit_99, lit_100, lit_122, lit_175, lit_176, lit_200, lit_255, lit_400, lit_700, lit_800, lit_999, lit_1000, lit_1400, lit_2000, lit_2033, lit_2038, lit_2100, lit_2124, lit_8000, lit_10000, lit_12345, lit_32767, lit_1000000, lit_1000000000, ↓bndX_h, ↓bndK_h, bxh_inl, bxh_inr, bkh_inl, bkh_inr, Nat.reduceEqDiff, ↓bnd_h, ↓lt_h, ↓ite_h, bh_some, lh_eq, ih_T, ih_F, ne_eq, not_false_eq_true, not_true_eq_false, eq_self, and_true, true_and, io_def, io_add, io_mul, io_sub, io_lt, io_le, io_eq, io_clamp, io_inbT, io_div, io_mod, io_m1, m1_io, m1_lt, m1_le, neg_1, gI_m1, K0_1, PC1.p1_0, PC1.p1_1, PC1.p1_2, PC1.p1_3, PC1.p1_4, PC1.p1_7, PC1.p1_8, PC1.p1_9, PC1.p1_10, PC1.p1_11, PC1.p1_12, K0_2, K0_39, K0_40, K0_41, K0_45, K0_52, K0_63, K0_66, K0_71, K0_gid, gid_ne, K0_bid, bid_ne, K0_kid, kid_ne, K0_bid1, K0_bid2, K0_kid1, K0_kid2, GP.r1, GP.r2, GP.b5, GP.b6, GP.k5, GP.k6, c_gateOf, succ_ne, c_ask_in, c_ask_out, c_askn_in, c_askn_out, c_range_in, c_range_out, K0_r, K0_r1, K0_r2, K0_r3, K0_r4, K0_r5, K0_r6, ru_ne, PR.p7, PR.p8, PR.p9, PR.p10, PR.p11, PR.p12, at_r1, at_r2, at_r3, at_r4, at_r5, succ_ne, K0_se, se_ne, K0_r6, hcg]
            have rr := rec (k + 1) M4 ⟨by omega, f1.1, f2, f3, (h4.trans d4).trans f4⟩ (by omega)
            rw [e] at rr
            exact rr
      · have hN0 := hN.code (x := io 0)
        have hMV := hN0.MV hg2
        rw [m_seeded_in hg2 hn]
        generalize hFU : FU = fu
        rw [FU_val] at hFU
        refine loopW (L := fun f (k : Nat) U => zX12_seeded_L42 f 72 (io g) (io n) (io ((bstP (fun _ => true) F k).1 - 1)) (gI (bstP (fun _ => true) F k).2) (io k) U) (J := fun k U => k ≤ stN (gSi (vG V g)) ∧ Fg [(92, 95)] [] (sI N 72 2 (io 0)) U) (fun k _ => stN (gSi (vG V g)) - k) ?_ fu 0 (sI N 72 2 (io 0)) ⟨Nat.zero_le _, Fg.refl⟩ (by omega)
        intro f k U ⟨hk, h1⟩ rec
        show Wp (zX12_seeded_B42 _ _ _ _ _ _ _ _) _
        unfold zX12_seeded_B42 zX12_seeded_B79
        have hMV2 := hMV.keep h1
        simp -dsimp (disch := first | assumption | omega) only [lit_0, lit_1, lit_2, lit_3, lit_4, lit_5, lit_6, lit_7, lit_8, lit_9, lit_10, lit_11, lit_12, lit_13, lit_14, lit_15, lit_16, lit_17, lit_18, lit_19, lit_20, lit_21, lit_22, lit_23, lit_24, lit_25, lit_26, lit_27, lit_28, lit_29, lit_30, lit_31, lit_32, lit_33, lit_34, lit_35, lit_36, lit_37, lit_38, lit_39, lit_40, lit_41, lit_42, lit_43, lit_44, lit_45, lit_46, lit_47, lit_48, lit_49, lit_50, lit_51, lit_52, lit_53, lit_54, lit_55, lit_56, lit_57, lit_58, lit_59, lit_60, lit_61, lit_62, lit_63, lit_64, lit_97, lit_99, lit_100, lit_122, lit_175, lit_176, lit_200, lit_255, lit_400, lit_700, lit_800, lit_999, lit_1000, lit_1400, lit_2000, lit_2033, lit_2038, lit_2100, lit_2124, lit_8000, lit_10000, lit_12345, lit_32767, lit_1000000, lit_1000000000, ↓bndX_h, ↓bndK_h, bxh_inl, bxh_inr, bkh_inl, bkh_inr, Nat.reduceEqDiff, ↓bnd_h, ↓lt_h, ↓ite_h, bh_some, lh_eq, ih_T, ih_F, ne_eq, not_false_eq_true, not_true_eq_false, eq_self, and_true, true_and, io_def, io_add, io_mul, io_sub, io_lt, io_le, io_eq, io_clamp, io_inbT, io_div, io_mod, io_m1, m1_io, m1_lt, m1_le, neg_1, gI_m1, PM.p0, PM.p1, PM.p3, PM.p4, PM.p5, PM.p6, PM.p7, PM.p8, PM.p9, PM.p10, PM.p11, PM.p12, PM.p13, PM.p14, PM.p15, PM.p16, PM.p17, PM.p18, PM.p19, PM.p31, PM.p32, PM.p33, PM.p34, PM.p38, PM.p39, PM.p40, PM.p41, PM.p42, PM.p46, PM.p47, PM.p50, PM.p51, PM.p52, PM.p53, PM.p54, PM.p55, PM.p56, PM.p57, K0_1, K0_2, K0_3, K0_4, K0_5, K0_6, K0_7, K0_8, K0_9, K0_10, K0_11, K0_12, K0_13, K0_14, K0_15, K0_16, K0_17, K0_18, K0_19, K0_20, K0_21, K0_22, K0_23, K0_24, K0_25, K0_26, K0_27, K0_28, K0_29, K0_30, K0_31, K0_32, K0_33, K0_34, K0_35, K0_36, K0_37, K0_38, K0_39, K0_40, K0_41, K0_42, K0_43, K0_44, K0_45, K0_46, K0_47, K0_48, K0_49, K0_50, K0_51, K0_52, K0_53, K0_54, K0_55, K0_56, K0_57, K0_58, K0_59, K0_60, K0_61, K0_62, K0_63, K0_64, K0_65, K0_66, K0_67, K0_68, K0_69, K0_70, K0_71, K0_72, K0_73, K0_74, K0_75, K0_76, K0_77, K0_78, K0_79, K0_80, K0_81, K0_82, K0_83, K0_84, K0_85, K0_86, K0_87, K0_88, K0_89, K0_90, K0_91, K0_92, K0_93, K0_94, K0_95, K0_96, K0_97, K0_98, K0_99, K0_100, K0_101, K0_102, K0_103, K0_104, K0_105, K0_106, K0_107, K0_108, K0_109, K0_110, K0_111, m_isGate_in, m_isGate_out, m_isIn_in, m_isIn_out, m_isInn_in, m_isInn_out, m_fail, false_and, and_false, if_false, if_true, and_self, mI_sI, mI_sL, mL_sI, mL_sL, mR_sI, mR_sL, m_statesOf hg2 hvg hMV2.1 hMV2.2.1]
        refine Wp.csh (fun c => ?_) (fun c => ?_)
        · rw [show k = stN (gSi (vG V g)) by omega]
          exact Wp.ret (m_okF hN h1 (fun o ho => ob_1of (by omega)) rfl)
        · have hk2 : k < stN (gSi (vG V g)) := by omega
          simp -dsimp (disch := first | assumption | omega) only [lit_0, lit_1, lit_2, lit_3, lit_4, lit_5, lit_6, lit_7, lit_8, lit_9, lit_10, lit_11, lit_12, lit_13, lit_14, lit_15, lit_16, lit_17, lit_18, lit_19, lit_20, lit_21, lit_22, lit_23, lit_24, lit_25, lit_26, lit_27, lit_28, lit_29, lit_30, lit_31, lit_32, lit_33, lit_34, lit_35, lit_36, lit_37, lit_38, lit_39, lit_40, lit_41, lit_42, lit_43, lit_44, lit_45, lit_46, lit_47, lit_48, lit_49, lit_50, lit_51, lit_52, lit_53, lit_54, lit_55, lit_56, lit_57, lit_58, lit_59, lit_60, lit_61, lit_62, lit_63, lit_64, lit_97, lit_99, lit_100, lit_122, lit_175, lit_176, lit_200, lit_255, lit_400, lit_700, lit_800, lit_999, lit_1000, lit_1400, lit_2000, lit_2033, lit_2038, lit_2100, lit_2124, lit_8000, lit_10000, lit_12345, lit_32767, lit_1000000, lit_1000000000, ↓bndX_h, ↓bndK_h, bxh_inl, bxh_inr, bkh_inl, bkh_inr, Nat.reduceEqDiff, ↓bnd_h, ↓lt_h, ↓ite_h, bh_some, lh_eq, ih_T, ih_F, ne_eq, not_false_eq_true, not_true_eq_false, eq_self, and_true, true_and, io_def, io_add, io_mul, io_sub, io_lt, io_le, io_eq, io_clamp, io_inbT, io_div, io_mod, io_m1, m1_io, m1_lt, m1_le, neg_1, gI_m1, PM.p0, PM.p1, PM.p3, PM.p4, PM.p5, PM.p6, PM.p7, PM.p8, PM.p9, PM.p10, PM.p11, PM.p12, PM.p13, PM.p14, PM.p15, PM.p16, PM.p17, PM.p18, PM.p19, PM.p31, PM.p32, PM.p33, PM.p34, PM.p38, PM.p39, PM.p40, PM.p41, PM.p42, PM.p46, PM.p47, PM.p50, PM.p51, PM.p52, PM.p53, PM.p54, PM.p55, PM.p56, PM.p57, K0_1, K0_2, K0_3, K0_4, K0_5, K0_6, K0_7, K0_8, K0_9, K0_10, K0_11, K0_12, K0_13, K0_14, K0_15, K0_16, K0_17, K0_18, K0_19, K0_20, K0_21, K0_22, K0_23, K0_24, K0_25, K0_26, K0_27, K0_28, K0_29, K0_30, K0_31, K0_32, K0_33, K0_34, K0_35, K0_36, K0_37, K0_38, K0_39, K0_40, K0_41, K0_42, K0_43, K0_44, K0_45, K0_46, K0_47, K0_48, K0_49, K0_50, K0_51, K0_52, K0_53, K0_54, K0_55, K0_56, K0_57, K0_58, K0_59, K0_60, K0_61, K0_62, K0_63, K0_64, K0_65, K0_66, K0_67, K0_68, K0_69, K0_70, K0_71, K0_72, K0_73, K0_74, K0_75, K0_76, K0_77, K0_78, K0_79, K0_80, K0_81, K0_82, K0_83, K0_84, K0_85, K0_86, K0_87, K0_88, K0_89, K0_90, K0_91, K0_92, K0_93, K0_94, K0_95, K0_96, K0_97, K0_98, K0_99, K0_100, K0_101, K0_102, K0_103, K0_104, K0_105, K0_106, K0_107, K0_108, K0_109, K0_110, K0_111, m_isGate_in, m_isGate_out, m_isIn_in, m_isIn_out, m_isInn_in, m_isInn_out, m_fail, false_and, and_false, if_false, if_true, and_self, mI_sI, mI_sL, mL_sI, mL_sL, mR_sI, mR_sL]
          refine Wp.seqh (m_coinOf hg2 hvg hvs hMV2 hk2 (show n ≤ 400 by omega)) (fun x N3 ⟨b1, b2, b3⟩ => ?_)
          have hfk := hFk k hk2
          rw [← hfk] at b1
          subst b1
          have hf540 := hF k
          have hm2 := (hbl k).2
          simp -dsimp (disch := first | assumption | omega) only [lit_0, lit_1, lit_2, lit_3, lit_4, lit_5, lit_6, lit_7, lit_8, lit_9, lit_10, lit_11, lit_12, lit_13, lit_14, lit_15, lit_16, lit_17, lit_18, lit_19, lit_20, lit_21, lit_22, lit_23, lit_24, lit_25, lit_26, lit_27, lit_28, lit_29, lit_30, lit_31, lit_32, lit_33, lit_34, lit_35, lit_36, lit_37, lit_38, lit_39, lit_40, lit_41, lit_42, lit_43, lit_44, lit_45, lit_46, lit_47, lit_48, lit_49, lit_50, lit_51, lit_52, lit_53, lit_54, lit_55, lit_56, lit_57, lit_58, lit_59, lit_60, lit_61, lit_62, lit_63, lit_64, lit_97, lit_99, lit_100, lit_122, lit_175, lit_176, lit_200, lit_255, lit_400, lit_700, lit_800, lit_999, lit_1000, lit_1400, lit_2000, lit_2033, lit_2038, lit_2100, lit_2124, lit_8000, lit_10000, lit_12345, lit_32767, lit_1000000, lit_1000000000, ↓bndX_h, ↓bndK_h, bxh_inl, bxh_inr, bkh_inl, bkh_inr, Nat.reduceEqDiff, ↓bnd_h, ↓lt_h, ↓ite_h, bh_some, lh_eq, ih_T, ih_F, ne_eq, not_false_eq_true, not_true_eq_false, eq_self, and_true, true_and, io_def, io_add, io_mul, io_sub, io_lt, io_le, io_eq, io_clamp, io_inbT, io_div, io_mod, io_m1, m1_io, m1_lt, m1_le, neg_1, gI_m1, PM.p0, PM.p1, PM.p3, PM.p4, PM.p5, PM.p6, PM.p7, PM.p8, PM.p9, PM.p10, PM.p11, PM.p12, PM.p13, PM.p14, PM.p15, PM.p16, PM.p17, PM.p18, PM.p19, PM.p31, PM.p32, PM.p33, PM.p34, PM.p38, PM.p39, PM.p40, PM.p41, PM.p42, PM.p46, PM.p47, PM.p50, PM.p51, PM.p52, PM.p53, PM.p54, PM.p55, PM.p56, PM.p57, K0_1, K0_2, K0_3, K0_4, K0_5, K0_6, K0_7, K0_8, K0_9, K0_10, K0_11, K0_12, K0_13, K0_14, K0_15, K0_16, K0_17, K0_18, K0_19, K0_20, K0_21, K0_22, K0_23, K0_24, K0_25, K0_26, K0_27, K0_28, K0_29, K0_30, K0_31, K0_32, K0_33, K0_34, K0_35, K0_36, K0_37, K0_38, K0_39, K0_40, K0_41, K0_42, K0_43, K0_44, K0_45, K0_46, K0_47, K0_48, K0_49, K0_50, K0_51, K0_52, K0_53, K0_54, K0_55, K0_56, K0_57, K0_58, K0_59, K0_60, K0_61, K0_62, K0_63, K0_64, K0_65, K0_66, K0_67, K0_68, K0_69, K0_70, K0_71, K0_72, K0_73, K0_74, K0_75, K0_76, K0_77, K0_78, K0_79, K0_80, K0_81, K0_82, K0_83, K0_84, K0_85, K0_86, K0_87, K0_88, K0_89, K0_90, K0_91, K0_92, K0_93, K0_94, K0_95, K0_96, K0_97, K0_98, K0_99, K0_100, K0_101, K0_102, K0_103, K0_104, K0_105, K0_106, K0_107, K0_108, K0_109, K0_110, K0_111, m_isGate_in, m_isGate_out, m_isIn_in, m_isIn_out, m_isInn_in, m_isInn_out, m_fail, false_and, and_false, if_false, if_true, and_self, mI_sI, mI_sL, mL_sI, mL_sL, mR_sI, mR_sL, gI_lt_io]
          refine Wp.csh (fun c2 => ?_) (fun c2 => ?_)
          · have e := hstep1 k c2
            simp -dsimp (disch := first | assumption | omega) only [lit_0, lit_1, lit_2, lit_3, lit_4, lit_5, lit_6, lit_7, lit_8, lit_9, lit_10, lit_11, lit_12, lit_13, lit_14, lit_15, lit_16, lit_17, lit_18, lit_19, lit_20, lit_21, lit_22, lit_23, lit_24, lit_25, lit_26, lit_27, lit_28, lit_29, lit_30, lit_31, lit_32, lit_33, lit_34, lit_35, lit_36, lit_37, lit_38, lit_39, lit_40, lit_41, lit_42, lit_43, lit_44, lit_45, lit_46, lit_47, lit_48, lit_49, lit_50, lit_51, lit_52, lit_53, lit_54, lit_55, lit_56, lit_57, lit_58, lit_59, lit_60, lit_61, lit_62, lit_63, lit_64, lit_97, lit_99, lit_100, lit_122, lit_175, lit_176, lit_200, lit_255, lit_400, lit_700, lit_800, lit_999, lit_1000, lit_1400, lit_2000, lit_2033, lit_2038, lit_2100, lit_2124, lit_8000, lit_10000, lit_12345, lit_32767, lit_1000000, lit_1000000000, ↓bndX_h, ↓bndK_h, bxh_inl, bxh_inr, bkh_inl, bkh_inr, Nat.reduceEqDiff, ↓bnd_h, ↓lt_h, ↓ite_h, bh_some, lh_eq, ih_T, ih_F, ne_eq, not_false_eq_true, not_true_eq_false, eq_self, and_true, true_and, io_def, io_add, io_mul, io_sub, io_lt, io_le, io_eq, io_clamp, io_inbT, io_div, io_mod, io_m1, m1_io, m1_lt, m1_le, neg_1, gI_m1, PM.p0, PM.p1, PM.p3, PM.p4, PM.p5, PM.p6, PM.p7, PM.p8, PM.p9, PM.p10, PM.p11, PM.p12, PM.p13, PM.p14, PM.p15, PM.p16, PM.p17, PM.p18, PM.p19, PM.p31, PM.p32, PM.p33, PM.p34, PM.p38, PM.p39, PM.p40, PM.p41, PM.p42, PM.p46, PM.p47, PM.p50, PM.p51, PM.p52, PM.p53, PM.p54, PM.p55, PM.p56, PM.p57, K0_1, K0_2, K0_3, K0_4, K0_5, K0_6, K0_7, K0_8, K0_9, K0_10, K0_11, K0_12, K0_13, K0_14, K0_15, K0_16, K0_17, K0_18, K0_19, K0_20, K0_21, K0_22, K0_23, K0_24, K0_25, K0_26, K0_27, K0_28, K0_29, K0_30, K0_31, K0_32, K0_33, K0_34, K0_35, K0_36, K0_37, K0_38, K0_39, K0_40, K0_41, K0_42, K0_43, K0_44, K0_45, K0_46, K0_47, K0_48, K0_49, K0_50, K0_51, K0_52, K0_53, K0_54, K0_55, K0_56, K0_57, K0_58, K0_59, K0_60, K0_61, K0_62, K0_63, K0_64, K0_65, K0_66, K0_67, K0_68, K0_69, K0_70, K0_71, K0_72, K0_73, K0_74, K0_75, K0_76, K0_77, K0_78, K0_79, K0_80, K0_81, K0_82, K0_83, K0_84, K0_85, K0_86, K0_87, K0_88, K0_89, K0_90, K0_91, K0_92, K0_93, K0_94, K0_95, K0_96, K0_97, K0_98, K0_99, K0_100, K0_101, K0_102, K0_103, K0_104, K0_105, K0_106, K0_107, K0_108, K0_109, K0_110, K0_111, m_isGate_in, m_isGate_out, m_isIn_in, m_isIn_out, m_isInn_in, m_isInn_out, m_fail, false_and, and_false, if_false, if_true, and_self, mI_sI, mI_sL, mL_sI, mL_sL, mR_sI, mR_sL]
            have rr := rec (k + 1) N3 ⟨by omega, h1.trans b3⟩ (by omega)
            rw [e] at rr
            exact rr
          · have e := hstep2 k c2
            simp -dsimp (disch := first | assumption | omega) only [lit_0, lit_1, lit_2, lit_3, lit_4, lit_5, lit_6, lit_7, lit_8, lit_9, lit_10, lit_11, lit_12, lit_13, lit_14, lit_15, lit_16, lit_17, lit_18, lit_19, lit_20, lit_21, lit_22, lit_23, lit_24, lit_25, lit_26, lit_27, lit_28, lit_29, lit_30, lit_31, lit_32, lit_33, lit_34, lit_35, lit_36, lit_37, lit_38, lit_39, lit_40, lit_41, lit_42, lit_43, lit_44, lit_45, lit_46, lit_47, lit_48, lit_49, lit_50, lit_51, lit_52, lit_53, lit_54, lit_55, lit_56, lit_57, lit_58, lit_59, lit_60, lit_61, lit_62, lit_63, lit_64, lit_97, lit_99, lit_100, lit_122, lit_175, lit_176, lit_200, lit_255, lit_400, lit_700, lit_800, lit_999, lit_1000, lit_1400, lit_2000, lit_2033, lit_2038, lit_2100, lit_2124, lit_8000, lit_10000, lit_12345, lit_32767, lit_1000000, lit_1000000000, ↓bndX_h, ↓bndK_h, bxh_inl, bxh_inr, bkh_inl, bkh_inr, Nat.reduceEqDiff, ↓bnd_h, ↓lt_h, ↓ite_h, bh_some, lh_eq, ih_T, ih_F, ne_eq, not_false_eq_true, not_true_eq_false, eq_self, and_true, true_and, io_def, io_add, io_mul, io_sub, io_lt, io_le, io_eq, io_clamp, io_inbT, io_div, io_mod, io_m1, m1_io, m1_lt, m1_le, neg_1, gI_m1, PM.p0, PM.p1, PM.p3, PM.p4, PM.p5, PM.p6, PM.p7, PM.p8, PM.p9, PM.p10, PM.p11, PM.p12, PM.p13, PM.p14, PM.p15, PM.p16, PM.p17, PM.p18, PM.p19, PM.p31, PM.p32, PM.p33, PM.p34, PM.p38, PM.p39, PM.p40, PM.p41, PM.p42, PM.p46, PM.p47, PM.p50, PM.p51, PM.p52, PM.p53, PM.p54, PM.p55, PM.p56, PM.p57, K0_1, K0_2, K0_3, K0_4, K0_5, K0_6, K0_7, K0_8, K0_9, K0_10, K0_11, K0_12, K0_13, K0_14, K0_15, K0_16, K0_17, K0_18, K0_19, K0_20, K0_21, K0_22, K0_23, K0_24, K0_25, K0_26, K0_27, K0_28, K0_29, K0_30, K0_31, K0_32, K0_33, K0_34, K0_35, K0_36, K0_37, K0_38, K0_39, K0_40, K0_41, K0_42, K0_43, K0_44, K0_45, K0_46, K0_47, K0_48, K0_49, K0_50, K0_51, K0_52, K0_53, K0_54, K0_55, K0_56, K0_57, K0_58, K0_59, K0_60, K0_61, K0_62, K0_63, K0_64, K0_65, K0_66, K0_67, K0_68, K0_69, K0_70, K0_71, K0_72, K0_73, K0_74, K0_75, K0_76, K0_77, K0_78, K0_79, K0_80, K0_81, K0_82, K0_83, K0_84, K0_85, K0_86, K0_87, K0_88, K0_89, K0_90, K0_91, K0_92, K0_93, K0_94, K0_95, K0_96, K0_97, K0_98, K0_99, K0_100, K0_101, K0_102, K0_103, K0_104, K0_105, K0_106, K0_107, K0_108, K0_109, K0_110, K0_111, m_isGate_in, m_isGate_out, m_isIn_in, m_isIn_out, m_isInn_in, m_isInn_out, m_fail, false_and, and_false, if_false, if_true, and_self, mI_sI, mI_sL, mL_sI, mL_sL, mR_sI, mR_sL]
            have rr := rec (k + 1) N3 ⟨by omega, h1.trans b3⟩ (by omega)
            rw [e] at rr
            exact rr
    · refine ⟨R, V, .inr 1, hV, Nat.le_refl _, ?_, fun N hN => ?_⟩
      · unfold zX11_seeded
        simp -dsimp (disch := first | assumption | omega) only [neg_1, lit_0, lit_1, lit_2, lit_3, lit_4, lit_5, lit_6, lit_7, lit_8, lit_9, lit_10, lit_11, lit_12, lit_13, lit_14, lit_15, lit_16, lit_17, lit_18, lit_19, lit_20, lit_21, lit_22, lit_23, lit_24, lit_25, lit_26, lit_27, lit_28, lit_29, lit_30, lit_31, lit_32, lit_33, lit_34, lit_35, lit_36, lit_37, lit_38, lit_39, lit_40, lit_41, lit_42, lit_43, lit_44, lit_45, lit_46, lit_47, lit_48, lit_49, lit_50, lit_51, lit_52, lit_53, lit_54, lit_55, lit_56, lit_57, lit_58, lit_59, lit_60, lit_61, lit_62, lit_63, lit_64, lit_97, lit_99, lit_100, lit_122, lit_175, lit_176, lit_200, lit_255, lit_400, lit_700, lit_800, lit_999, lit_1000, lit_1400, lit_2000, lit_2033, lit_2038, lit_2100, lit_2124, lit_8000, lit_10000, lit_12345, lit_32767, lit_1000000, lit_1000000000, ↓bndX_h, ↓bndK_h, bxh_inl, bxh_inr, bkh_inl, bkh_inr, Nat.reduceEqDiff, ↓bnd_h, ↓lt_h, ↓ite_h, bh_some, lh_eq, ih_T, ih_F, ne_eq, not_false_eq_true, not_true_eq_false, eq_self, and_true, true_and, io_def, io_add, io_mul, io_sub, io_lt, io_le, io_eq, io_clamp, io_inbT, io_div, io_mod, io_m1, m1_io, m1_lt, m1_le, neg_1, gI_m1, K0_1, PC1.p1_0, PC1.p1_1, PC1.p1_2, PC1.p1_3, PC1.p1_4, PC1.p1_7, PC1.p1_8, PC1.p1_9, PC1.p1_10, PC1.p1_11, PC1.p1_12, K0_2, K0_39, K0_40, K0_41, K0_45, K0_52, K0_63, K0_66, K0_71, K0_gid, gid_ne, K0_bid, bid_ne, K0_kid, kid_ne, K0_bid1, K0_bid2, K0_kid1, K0_kid2, GP.r1, GP.r2, GP.b5, GP.b6, GP.k5, GP.k6, c_gateOf, succ_ne, c_ask_in, c_ask_out, c_askn_in, c_askn_out, c_range_in, c_range_out, K0_r, K0_r1, K0_r2, K0_r3, K0_r4, K0_r5, K0_r6, ru_ne, PR.p7, PR.p8, PR.p9, PR.p10, PR.p11, PR.p12, at_r1, at_r2, at_r3, at_r4, at_r5, succ_ne, K0_se, se_ne, K0_r6]
        exact Wp.ret ⟨rfl, hIp, hIs, Fg.refl⟩
      · exact m_seeded_e2 hg2 h hN
  · refine ⟨R, V, .inr 0, hV, Nat.zero_le _, ?_, fun N hN => ?_⟩
    · unfold zX11_seeded
      simp -dsimp (disch := first | assumption | omega) only [neg_1, lit_0, lit_1, lit_2, lit_3, lit_4, lit_5, lit_6, lit_7, lit_8, lit_9, lit_10, lit_11, lit_12, lit_13, lit_14, lit_15, lit_16, lit_17, lit_18, lit_19, lit_20, lit_21, lit_22, lit_23, lit_24, lit_25, lit_26, lit_27, lit_28, lit_29, lit_30, lit_31, lit_32, lit_33, lit_34, lit_35, lit_36, lit_37, lit_38, lit_39, lit_40, lit_41, lit_42, lit_43, lit_44, lit_45, lit_46, lit_47, lit_48, lit_49, lit_50, lit_51, lit_52, lit_53, lit_54, lit_55, lit_56, lit_57, lit_58, lit_59, lit_60, lit_61, lit_62, lit_63, lit_64, lit_97, lit_99, lit_100, lit_122, lit_175, lit_176, lit_200, lit_255, lit_400, lit_700, lit_800, lit_999, lit_1000, lit_1400, lit_2000, lit_2033, lit_2038, lit_2100, lit_2124, lit_8000, lit_10000, lit_12345, lit_32767, lit_1000000, lit_1000000000, ↓bndX_h, ↓bndK_h, bxh_inl, bxh_inr, bkh_inl, bkh_inr, Nat.reduceEqDiff, ↓bnd_h, ↓lt_h, ↓ite_h, bh_some, lh_eq, ih_T, ih_F, ne_eq, not_false_eq_true, not_true_eq_false, eq_self, and_true, true_and, io_def, io_add, io_mul, io_sub, io_lt, io_le, io_eq, io_clamp, io_inbT, io_div, io_mod, io_m1, m1_io, m1_lt, m1_le, neg_1, gI_m1, K0_1, PC1.p1_0, PC1.p1_1, PC1.p1_2, PC1.p1_3, PC1.p1_4, PC1.p1_7, PC1.p1_8, PC1.p1_9, PC1.p1_10, PC1.p1_11, PC1.p1_12, K0_2, K0_39, K0_40, K0_41, K0_45, K0_52, K0_63, K0_66, K0_71, K0_gid, gid_ne, K0_bid, bid_ne, K0_kid, kid_ne, K0_bid1, K0_bid2, K0_kid1, K0_kid2, GP.r1, GP.r2, GP.b5, GP.b6, GP.k5, GP.k6, c_gateOf, succ_ne, c_ask_in, c_ask_out, c_askn_in, c_askn_out, c_range_in, c_range_out, K0_r, K0_r1, K0_r2, K0_r3, K0_r4, K0_r5, K0_r6, ru_ne, PR.p7, PR.p8, PR.p9, PR.p10, PR.p11, PR.p12, at_r1, at_r2, at_r3, at_r4, at_r5, succ_ne, K0_se, se_ne, K0_r6, c_gateOf_out h]
      exact Wp.ret ⟨rfl, hIp, hIs, Fg.refl⟩
    · unfold zX12_seeded
      simp -dsimp (disch := first | assumption | omega) only [lit_0, lit_1, lit_2, lit_3, lit_4, lit_5, lit_6, lit_7, lit_8, lit_9, lit_10, lit_11, lit_12, lit_13, lit_14, lit_15, lit_16, lit_17, lit_18, lit_19, lit_20, lit_21, lit_22, lit_23, lit_24, lit_25, lit_26, lit_27, lit_28, lit_29, lit_30, lit_31, lit_32, lit_33, lit_34, lit_35, lit_36, lit_37, lit_38, lit_39, lit_40, lit_41, lit_42, lit_43, lit_44, lit_45, lit_46, lit_47, lit_48, lit_49, lit_50, lit_51, lit_52, lit_53, lit_54, lit_55, lit_56, lit_57, lit_58, lit_59, lit_60, lit_61, lit_62, lit_63, lit_64, lit_97, lit_99, lit_100, lit_122, lit_175, lit_176, lit_200, lit_255, lit_400, lit_700, lit_800, lit_999, lit_1000, lit_1400, lit_2000, lit_2033, lit_2038, lit_2100, lit_2124, lit_8000, lit_10000, lit_12345, lit_32767, lit_1000000, lit_1000000000, ↓bndX_h, ↓bndK_h, bxh_inl, bxh_inr, bkh_inl, bkh_inr, Nat.reduceEqDiff, ↓bnd_h, ↓lt_h, ↓ite_h, bh_some, lh_eq, ih_T, ih_F, ne_eq, not_false_eq_true, not_true_eq_false, eq_self, and_true, true_and, io_def, io_add, io_mul, io_sub, io_lt, io_le, io_eq, io_clamp, io_inbT, io_div, io_mod, io_m1, m1_io, m1_lt, m1_le, neg_1, gI_m1, PM.p0, PM.p1, PM.p3, PM.p4, PM.p5, PM.p6, PM.p7, PM.p8, PM.p9, PM.p10, PM.p11, PM.p12, PM.p13, PM.p14, PM.p15, PM.p16, PM.p17, PM.p18, PM.p19, PM.p31, PM.p32, PM.p33, PM.p34, PM.p38, PM.p39, PM.p40, PM.p41, PM.p42, PM.p46, PM.p47, PM.p50, PM.p51, PM.p52, PM.p53, PM.p54, PM.p55, PM.p56, PM.p57, K0_1, K0_2, K0_3, K0_4, K0_5, K0_6, K0_7, K0_8, K0_9, K0_10, K0_11, K0_12, K0_13, K0_14, K0_15, K0_16, K0_17, K0_18, K0_19, K0_20, K0_21, K0_22, K0_23, K0_24, K0_25, K0_26, K0_27, K0_28, K0_29, K0_30, K0_31, K0_32, K0_33, K0_34, K0_35, K0_36, K0_37, K0_38, K0_39, K0_40, K0_41, K0_42, K0_43, K0_44, K0_45, K0_46, K0_47, K0_48, K0_49, K0_50, K0_51, K0_52, K0_53, K0_54, K0_55, K0_56, K0_57, K0_58, K0_59, K0_60, K0_61, K0_62, K0_63, K0_64, K0_65, K0_66, K0_67, K0_68, K0_69, K0_70, K0_71, K0_72, K0_73, K0_74, K0_75, K0_76, K0_77, K0_78, K0_79, K0_80, K0_81, K0_82, K0_83, K0_84, K0_85, K0_86, K0_87, K0_88, K0_89, K0_90, K0_91, K0_92, K0_93, K0_94, K0_95, K0_96, K0_97, K0_98, K0_99, K0_100, K0_101, K0_102, K0_103, K0_104, K0_105, K0_106, K0_107, K0_108, K0_109, K0_110, K0_111, m_isGate_in, m_isGate_out, m_isIn_in, m_isIn_out, m_isInn_in, m_isInn_out, m_fail, false_and, and_false, if_false, if_true, and_self, mI_sI, mI_sL, mL_sI, mL_sL, mR_sI, mR_sL, m_isGate_out h]
      exact Wp.ret (m_err hN rfl)
/-! what no EXPR asks for makes no difference -/
theorem evalS_congr {vals vals' : Nat → Int32} {c : Nat → Nat} : ∀ (m k : Nat) (st : List Int32), (∀ i, k ≤ i → i < k + m → 1000 ≤ c i → c i < 2000 → vals (c i - 1000) = vals' (c i - 1000)) → evalS vals c k m st = evalS vals' c k m st
  | 0, _, _, _ => rfl
  | m + 1, k, st, h => by
    show evalS vals c (k + 1) m (stepS vals (c k) st) = evalS vals' c (k + 1) m (stepS vals' (c k) st)
    have e : stepS vals (c k) st = stepS vals' (c k) st := by
      unfold stepS
      by_cases h1 : c k < 1000
      · rw [if_pos h1, if_pos h1]
      · rw [if_neg h1, if_neg h1]
        by_cases h2 : c k < 2000
        · rw [if_pos h2, if_pos h2, h k (Nat.le_refl _) (by omega) (by omega) h2]
        · rw [if_neg h2, if_neg h2]
    rw [e]
    exact evalS_congr m (k + 1) _ (fun i h1 h2 => h i (by omega) (by omega))
theorem stepC_congr {n all si : Nat} {od : Nat → Nat} {gf gf' : Nat → Nat → Nat} {cs : Nat → Nat} (h : ∀ s t, s < n → gf s t = gf' s t) : stepC n od all si gf cs = stepC n od all si gf' cs := by
  funext u
  exact sumN_congr (fun t _ => sumN_congr (fun s hs => by rw [h s t hs]))
theorem casesS_congr {n all si seed : Nat} {od : Nat → Nat} {gf gf' : Nat → Nat → Nat} (h : ∀ s t, s < n → gf s t = gf' s t) : ∀ k, casesS n od all si gf seed k = casesS n od all si gf' seed k
  | 0 => rfl
  | k + 1 => by
    show stepC n od all si gf (casesS n od all si gf seed k) = stepC n od all si gf' (casesS n od all si gf' seed k)
    rw [casesS_congr h k, stepC_congr h]
theorem gvV_congr {v : GV} {sv sv' : SV} (h : ∀ s t, s < gN v → gfS v sv s t = gfS v sv' s t) (seed n : Nat) : gvV v sv seed n = gvV v sv' seed n ∧ awV v sv seed n = awV v sv' seed n := by
  constructor
  · refine sumN_congr (fun j _ => ?_)
    rw [casesS_congr h j]
    exact sumN_congr (fun t _ => sumN_congr (fun s hs => by rw [h s t hs]))
  · refine sumN_congr (fun j _ => ?_)
    rw [casesS_congr h j]
    exact sumN_congr (fun t _ => sumN_congr (fun s hs => by rw [h s t hs]))
theorem gfS_congr {v : GV} {sv sv' : SV} (hv : okG v) (hl : sLe sv = sLe sv') (h : ∀ s t m w, s < gN v → w < 9 → (∃ i, i < gL v ∧ gC v i = 1000 + w) → valS v sv s t m w = valS v sv' s t m w) : ∀ s t, s < gN v → gfS v sv s t = gfS v sv' s t := by
  intro s t hs
  obtain ⟨p1, p2, p3, p4, p5, p6, p7⟩ := hv.2.2.2.2.2.2 s hs
  show giftQ v sv s t (gPu v s - 0) = giftQ v sv' s t (gPu v s - 0)
  generalize gPu v s - 0 = m
  have hok : ∀ (m k h : Nat), hgt (gC v) k m h = true → ∀ i, k ≤ i → i < k + m → okTok (gC v i) = true := by
    intro m
    induction m with
    | zero => intro k h _ i h1 h2; omega
    | succ m ih =>
      intro k h hh i h1 h2
      simp only [hgt, Bool.and_eq_true] at hh
      by_cases q : i = k
      · subst q; exact hh.1
      · have h3 := hh.2
        by_cases c1 : gC v k < 2000
        · rw [if_pos c1, Bool.and_eq_true] at h3
          exact ih (k + 1) _ h3.2 i (by omega) (by omega)
        · rw [if_neg c1] at h3
          by_cases c2 : gC v k = 2033
          · rw [if_pos c2, Bool.and_eq_true] at h3
            exact ih (k + 1) _ h3.2 i (by omega) (by omega)
          · rw [if_neg c2, Bool.and_eq_true] at h3
            exact ih (k + 1) _ h3.2 i (by omega) (by omega)
  have e : wishS v sv s t m = wishS v sv' s t m := by
    unfold wishS
    rw [evalS_congr (vals' := valS v sv' s t m) _ _ _ (fun i h1 h2 h3 h4 => ?_)]
    have := okTok_val (hok _ _ _ p7 i h1 (by omega)) h4
    exact h s t m _ hs (by omega) ⟨i, by omega, by omega⟩
  unfold giftQ
  rw [e, hl]
theorem asks_dec : ∀ a : Fin 512, ∀ w : Fin 9, decide (((io a.val >>> (io w.val &&& io 31)) &&& io 1) = io 1) = a.val.testBit w.val := by decide +kernel
theorem c_asks {M : Mem} {r a w : Nat} (hr : isRu r) (h5 : mI M r 5 = io a) (ha : a < 512) (hw : w < 9) : zX8_asks r (io w) M = some (if a.testBit w = true then io 1 else io 0, M) := by
  have e := asks_dec ⟨a, ha⟩ ⟨w, hw⟩
  simp only at e
  unfold zX8_asks
  rw [if_pos (K0_r hr), h5, lit_31, lit_1, lit_0]
  by_cases c : ((io a >>> (io w &&& io 31)) &&& io 1) = io 1
  · rw [if_pos c, if_pos (by rw [← e]; exact decide_eq_true c)]
  · rw [if_neg c, if_neg (by rw [← e]; simpa using c)]
