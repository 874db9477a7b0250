/-! ===== LEVEL 2: mixed ===== -/
theorem succ_div_z {k e : Nat} (he : 0 < e) (h : (k + 1) % e = 0) : (k + 1) / e = k / e + 1 := by
  have h1 := Nat.div_add_mod (k + 1) e
  rw [h, Nat.add_zero] at h1
  obtain ⟨q, hq⟩ : ∃ q, (k + 1) / e = q + 1 := Nat.exists_eq_add_one_of_ne_zero (fun z => by rw [z] at h1; simp at h1)
  rw [hq] at h1 ⊢
  have h2 : k = e * q + (e - 1) := by
    rw [Nat.mul_add, Nat.mul_one] at h1
    omega
  have h3 : k / e = q := by
    rw [h2, Nat.mul_add_div he, Nat.div_eq_of_lt (by omega), Nat.add_zero]
  rw [h3]
theorem succ_div_n {k e : Nat} (he : 0 < e) (h : ¬ (k + 1) % e = 0) : (k + 1) / e = k / e := by
  have h1 := Nat.div_add_mod (k + 1) e
  have h4 := Nat.mod_lt (k + 1) he
  have h5 : (k + 1) % e - 1 < e := by
    generalize (k + 1) % e = r at h4 ⊢
    omega
  have h2 : k = e * ((k + 1) / e) + ((k + 1) % e - 1) := by
    generalize (k + 1) % e = r at h h1 ⊢
    generalize e * ((k + 1) / e) = w at h1 ⊢
    omega
  have h3 : k / e = (k + 1) / e := by
    calc k / e = (e * ((k + 1) / e) + ((k + 1) % e - 1)) / e := by rw [← h2]
      _ = (k + 1) / e + ((k + 1) % e - 1) / e := Nat.mul_add_div he _ _
      _ = (k + 1) / e := by rw [Nat.div_eq_of_lt h5, Nat.add_zero]
  rw [h3]
/-- the reference stands k persons behind the start, with x more given -/
def MLx (M : Mem) (v : GV) (sv : SV) (seed k x : Nat) : Prop := MC M (csV v sv seed k) (gvV v sv seed k + x) (awV v sv seed k) ∧ MT M (gN v) (gSi v) (gfS v sv)
theorem m_nextX {g : Nat} {v : GV} {sv : SV} {M : Mem} {seed k x : Nat} (hg : g < 2) (hv : okG v) (hP : PM M) (hG : MG M g v) (hs : seed < stN (gSi v)) (h0 : 0 < gN v) (h : MLx M v sv seed k x) :
    Wp (zX12_person 72 (io g) M) (fun _ M' => MLx M' v sv seed (k + 1) x ∧ Fg [(93, 94)] [] M M') := by
  have W := WOK_of (sv := sv) hv
  refine (m_person hg hv hP hG h.2 (fun s t h1 h2 => W.2.2.2.2 s t h1 h2) h.1 (csV_le hv hs k) (csV_su hv hs k)).mono (fun _ M' ⟨a1, a2, a3, a4⟩ => ⟨⟨?_, fun t s ht hs' => ?_⟩, a4⟩)
  · have := a1 h0
    have e1 : csV v sv seed k = casesS (gN v) (gOd v) (allO v) (gSi v) (gfS v sv) seed k := csV_pos h0
    have e2 : csV v sv seed (k + 1) = casesS (gN v) (gOd v) (allO v) (gSi v) (gfS v sv) seed (k + 1) := csV_pos h0
    rw [e1] at this
    rw [e2, show gvV v sv seed (k + 1) + x = gvV v sv seed k + x + stepG (gN v) (gOd v) (allO v) (gfS v sv) (casesS (gN v) (gOd v) (allO v) (gSi v) (gfS v sv) seed k) by rw [gvV_succ]; show _ + drV v sv seed k + x = _ + x + drV v sv seed k; omega]
    exact this
  · rw [a4.I rfl]
    exact h.2 t s ht hs'
def mixS (v : GV) (sv : SV) (seed n q p : Nat) : Nat := gvV v sv seed (n - q) + q * (if allO v = 0 then 0 else 1000000000 * poS v p / allO v * p)
theorem parts_le {v : GV} {p : Nat} (hv : okG v) (hp : p ≤ 9) : (if allO v = 0 then 0 else 1000000000 * poS v p / allO v) ≤ 1000000000 := by
  have h := poS_le (v := v) (p := p)
  by_cases e : allO v = 0
  · rw [if_pos e]; exact Nat.zero_le _
  · rw [if_neg e]
    calc 1000000000 * poS v p / allO v ≤ 1000000000 * allO v / allO v := Nat.div_le_div_right (Nat.mul_le_mul_left _ h)
      _ = 1000000000 := Nat.mul_div_cancel _ (by omega)
theorem c_partsAt {M : Mem} {r p : Nat} {v : GV} (hr : isRu r) (hv : okG v) (hPR : PR M r) (hC : CG M r v) (hp : p ≤ 9) : zX8_partsAt r (io p) M = some (lo (if allO v = 0 then 0 else 1000000000 * poS v p / allO v * p), M) := by
  have c1 := hC.2.1
  have hal := allO_le hv
  have hpo := poS_le (v := v) (p := p)
  refine Wp.eq ?_
  unfold zX8_partsAt
  simp -dsimp (disch := first | assumption | omega) only [lit_0, lit_1, lit_2, lit_3, lit_4, lit_5, lit_6, lit_7, lit_8, lit_9, lit_10, lit_11, lit_12, lit_13, lit_14, lit_15, lit_16, lit_17, lit_18, lit_19, lit_20, lit_21, lit_22, lit_23, lit_24, lit_25, lit_26, lit_27, lit_28, lit_29, lit_30, lit_31, lit_32, lit_33, lit_34, lit_35, lit_36, lit_37, lit_38, lit_39, lit_40, lit_41, lit_42, lit_43, lit_44, lit_45, lit_46, lit_47, lit_48, lit_49, lit_50, lit_51, lit_52, lit_53, lit_54, lit_55, lit_56, lit_57, lit_58, lit_59, lit_60, lit_61, lit_62, lit_63, lit_64, lit_97, lit_99, lit_100, lit_122, lit_175, lit_176, lit_200, lit_255, lit_400, lit_700, lit_800, lit_999, lit_1000, lit_1400, lit_2000, lit_2033, lit_2038, lit_2100, lit_2124, lit_8000, lit_10000, lit_12345, lit_32767, lit_1000000, lit_1000000000, ↓bndX_h, ↓bndK_h, bxh_inl, bxh_inr, bkh_inl, bkh_inr, Nat.reduceEqDiff, ↓bnd_h, ↓lt_h, ↓ite_h, bh_some, lh_eq, ih_T, ih_F, ne_eq, not_false_eq_true, not_true_eq_false, eq_self, and_true, true_and, io_def, io_add, io_mul, io_sub, io_lt, io_le, io_eq, io_clamp, io_inbT, io_div, io_mod, io_m1, m1_io, m1_lt, m1_le, neg_1, gI_m1, K0_r, K0_r1, K0_r2, K0_r3, K0_r4, K0_r5, K0_r6, ru_ne, PR.p7, PR.p8, PR.p9, PR.p10, PR.p11, PR.p12, at_r1, at_r2, at_r3, at_r4, at_r5, succ_ne, c1]
  refine Wp.csh (fun c => ?_) (fun c => ?_)
  · rw [if_pos (by omega)]; exact Wp.ret ⟨rfl, rfl⟩
  · have h0 : ¬ allO v = 0 := by omega
    simp -dsimp (disch := first | assumption | omega) only [lit_0, lit_1, lit_2, lit_3, lit_4, lit_5, lit_6, lit_7, lit_8, lit_9, lit_10, lit_11, lit_12, lit_13, lit_14, lit_15, lit_16, lit_17, lit_18, lit_19, lit_20, lit_21, lit_22, lit_23, lit_24, lit_25, lit_26, lit_27, lit_28, lit_29, lit_30, lit_31, lit_32, lit_33, lit_34, lit_35, lit_36, lit_37, lit_38, lit_39, lit_40, lit_41, lit_42, lit_43, lit_44, lit_45, lit_46, lit_47, lit_48, lit_49, lit_50, lit_51, lit_52, lit_53, lit_54, lit_55, lit_56, lit_57, lit_58, lit_59, lit_60, lit_61, lit_62, lit_63, lit_64, lit_97, lit_99, lit_100, lit_122, lit_175, lit_176, lit_200, lit_255, lit_400, lit_700, lit_800, lit_999, lit_1000, lit_1400, lit_2000, lit_2033, lit_2038, lit_2100, lit_2124, lit_8000, lit_10000, lit_12345, lit_32767, lit_1000000, lit_1000000000, ↓bndX_h, ↓bndK_h, bxh_inl, bxh_inr, bkh_inl, bkh_inr, Nat.reduceEqDiff, ↓bnd_h, ↓lt_h, ↓ite_h, bh_some, lh_eq, ih_T, ih_F, ne_eq, not_false_eq_true, not_true_eq_false, eq_self, and_true, true_and, io_def, io_add, io_mul, io_sub, io_lt, io_le, io_eq, io_clamp, io_inbT, io_div, io_mod, io_m1, m1_io, m1_lt, m1_le, neg_1, gI_m1, K0_r, K0_r1, K0_r2, K0_r3, K0_r4, K0_r5, K0_r6, ru_ne, PR.p7, PR.p8, PR.p9, PR.p10, PR.p11, PR.p12, at_r1, at_r2, at_r3, at_r4, at_r5, succ_ne, c1, c_paying hr hv hPR hC hp, lit64_b, lit64_0, lit64_1, lit64_m, lit64_b, lo_add, lo_mul, lo_div, lo_lt, lo_le, lo_eq, io_lo, lo_io, h0]
    exact Wp.ret ⟨by rw [if_neg (fun h : False => h)], rfl⟩
theorem m_mixed_e {N : Mem} {V : VV} {g : Nat} {b c d : Int32} (hg : g < 2) (h : (b < io 0 ∨ io 400 < b) ∨ (∃ n, n ≤ 400 ∧ b = io n) ∧ ((c < io 2 ∨ io 50 < c) ∨ (∃ e, 2 ≤ e ∧ e ≤ 50 ∧ c = io e) ∧ (d < io 0 ∨ io 9 < d))) (hN : IM N V) : Wp (zX12_mixed 72 (io g) b c d N) (fun y N1 => agree (.inr 1) y (mI N1 72 2) ∧ IM N1 V ∧ Fg [(72, 110)] [] N N1) := by
  unfold zX12_mixed zX12_mixed_B50
  rw [if_pos K0_72, lt_eq, m_isGate_in hg, bnd_some, if_neg (by decide), lit_0, show (400 : Int32) = io 400 from rfl]
  rcases h with h | ⟨⟨n, hn, rfl⟩, h⟩
  · rw [m_isIn_out h, bnd_some, if_pos rfl, m_fail, bnd_some]
    exact Wp.ret (m_err2 hN rfl)
  · rw [m_isIn_in (Nat.zero_le n) hn (by omega), bnd_some, if_neg (by decide), show (2 : Int32) = io 2 from rfl, show (50 : Int32) = io 50 from rfl]
    rcases h with h | ⟨⟨e, he1, he2, rfl⟩, h⟩
    · rw [m_isIn_out h, bnd_some, if_pos rfl, m_fail, bnd_some]
      exact Wp.ret (m_err2 hN rfl)
    · rw [m_isIn_in he1 he2 (by omega), bnd_some, if_neg (by decide), show (9 : Int32) = io 9 from rfl, m_isIn_out h, bnd_some, if_pos rfl, m_fail, bnd_some]
      exact Wp.ret (m_err2 hN rfl)
theorem m_mixed_e1 {N : Mem} {V : VV} {a b c d : Int32} (h : a < io 0 ∨ io 1 < a) (hN : IM N V) : Wp (zX12_mixed 72 a b c d N) (fun y N1 => agree (.inr 0) y (mI N1 72 2) ∧ IM N1 V ∧ Fg [(72, 110)] [] N N1) := by
  unfold zX12_mixed
  rw [if_pos K0_72, lt_eq, m_isGate_out h, bnd_some, lit_0, if_pos rfl, m_fail, bnd_some]
  exact Wp.ret (m_err hN rfl)
def mixedBody (g n e p : Nat) (N : Mem) : Option (Int32 × Mem) :=
          if mR N 72 3 ≠ 0 then
          if (K0 (mR N 72 3)).1 = 1 ∧ inb (io g) (K0 (mR N 72 3)).2 = true then
          if (mI N (mR N 72 3) (Int32.toNatClampNeg (io g))) = 0 then
            some (0, N)
          else
            bnd (zX12_oddsThatPay 72 (io g) (io p) N) fun v19 M20 =>
            bnd (zX12_oddsOf 72 (io g) M20) fun v21 M22 =>
            if ¬ (Int32.toInt64 v21) = 0 then
            lt ((1000000000 * (Int32.toInt64 v19)) / (Int32.toInt64 v21)) fun v24 =>
            bnd (zX12_tellGifts 72 (io g) M22) fun _ M25 =>
            if mR M25 72 11 ≠ 0 then
            if (K0 (mR M25 72 11)).1 = 1 ∧ inb (io g) (K0 (mR M25 72 11)).2 = true then
            bnd (zX12_startAt 72 (mI M25 (mR M25 72 11) (Int32.toNatClampNeg (io g))) M25) fun _ M28 =>
            zX12_mixed_L106 FU 72 (io g) (io n) (io e) (io p) v24 1 M28
            else none
            else none
            else none
          else none
          else none
theorem m_mixed_in {N : Mem} {g n e p : Nat} (hg : g < 2) (hn : n ≤ 400) (he1 : 2 ≤ e) (he2 : e ≤ 50) (hp : p ≤ 9) : zX12_mixed 72 (io g) (io n) (io e) (io p) N = mixedBody g n e p (sI N 72 2 (io 0)) := by
  unfold zX12_mixed
  rw [if_pos K0_72, lt_eq, m_isGate_in hg, bnd_some, if_neg (by decide), lit_0, show (400 : Int32) = io 400 from rfl, m_isIn_in (Nat.zero_le n) hn (by omega), bnd_some, if_neg (by decide), show (2 : Int32) = io 2 from rfl, show (50 : Int32) = io 50 from rfl, m_isIn_in he1 he2 (by omega), bnd_some, if_neg (by decide), show (9 : Int32) = io 9 from rfl, m_isIn_in (Nat.zero_le p) hp (by omega), bnd_some, if_neg (by decide)]
  rfl
theorem op_mixed (a b c d : Int32) : OpR 1 (zX11_mixed 1 a b c d) (zX12_mixed 72 a b c d) := by
  intro M R V hV hIp hIs
  have hP1 := hIp.1
  rcases rg_le a 1 (by omega) with ⟨g, hg, rfl⟩ | h
  · have hg2 : g < 2 := by omega
    obtain ⟨hvg, hvs, hvb, -⟩ := hV.1 g hg2
    have hn8 := okG_n hvg
    have hal := allO_le hvg
    have hru := hIp.2.1.ru hg2
    have hst := stN_le (gSi (vG V g))
    have hsd := hvb.1
    rcases rg_le b 400 (by omega) with ⟨n, hn, rfl⟩ | h
    · rcases rg_in c 2 50 (by omega) (by omega) with ⟨e, he1, he2, rfl⟩ | h
      · rcases rg_le d 9 (by omega) with ⟨p, hp, rfl⟩ | h
        · have hdle : n / e ≤ 200 := Nat.le_trans (Nat.div_le_div_left he1 (by omega)) (by omega)
          have hdn : n / e ≤ n := Nat.div_le_self n e
          obtain ⟨q, hq⟩ : ∃ q, n / e = q := ⟨_, rfl⟩
          rw [hq] at hdle hdn
          have hpl := parts_le (v := vG V g) (p := p) hvg hp
          have hpp : (if allO (vG V g) = 0 then 0 else 1000000000 * poS (vG V g) p / allO (vG V g) * p) ≤ 9000000000 := by
            by_cases z : allO (vG V g) = 0
            · rw [if_pos z]; exact Nat.zero_le _
            · rw [if_neg z] at hpl ⊢
              exact Nat.le_trans (Nat.mul_le_mul hpl hp) (by omega)
          have hgl := gvV_le (sv := vS V g) hvg hsd (n - q)
          have hprod : q * (if allO (vG V g) = 0 then 0 else 1000000000 * poS (vG V g) p / allO (vG V g) * p) ≤ 1800000000000 := Nat.le_trans (Nat.mul_le_mul hdle hpp) (by omega)
          have hml : mixS (vG V g) (vS V g) (bSe (vB V g)) n q p ≤ 5400000000000 := by unfold mixS; omega
          refine ⟨R, V, .inl (io (mixS (vG V g) (vS V g) (bSe (vB V g)) n q p / 1000000)), hV, trivial, ?_, fun N hN => ?_⟩
          · unfold zX11_mixed zX11_mixed_B41
            have hsub : io n - io q = io (n - q) := io_sub hdn
            simp -dsimp (disch := first | assumption | omega) only [neg_1, lit_0, lit_1, lit_2, lit_3, lit_4, lit_5, lit_6, lit_7, lit_8, lit_9, lit_10, lit_11, lit_12, lit_13, lit_14, lit_15, lit_16, lit_17, lit_18, lit_19, lit_20, lit_21, lit_22, lit_23, lit_24, lit_25, lit_26, lit_27, lit_28, lit_29, lit_30, lit_31, lit_32, lit_33, lit_34, lit_35, lit_36, lit_37, lit_38, lit_39, lit_40, lit_41, lit_42, lit_43, lit_44, lit_45, lit_46, lit_47, lit_48, lit_49, lit_50, lit_51, lit_52, lit_53, lit_54, lit_55, lit_56, lit_57, lit_58, lit_59, lit_60, lit_61, lit_62, lit_63, lit_64, lit_97, lit_99, lit_100, lit_122, lit_175, lit_176, lit_200, lit_255, lit_400, lit_700, lit_800, lit_999, lit_1000, lit_1400, lit_2000, lit_2033, lit_2038, lit_2100, lit_2124, lit_8000, lit_10000, lit_12345, lit_32767, lit_1000000, lit_1000000000, ↓bndX_h, ↓bndK_h, bxh_inl, bxh_inr, bkh_inl, bkh_inr, Nat.reduceEqDiff, ↓bnd_h, ↓lt_h, ↓ite_h, bh_some, lh_eq, ih_T, ih_F, ne_eq, not_false_eq_true, not_true_eq_false, eq_self, and_true, true_and, io_def, io_add, io_mul, io_sub, io_lt, io_le, io_eq, io_clamp, io_inbT, io_div, io_mod, io_m1, m1_io, m1_lt, m1_le, neg_1, gI_m1, K0_1, PC1.p1_0, PC1.p1_1, PC1.p1_2, PC1.p1_3, PC1.p1_4, PC1.p1_7, PC1.p1_8, PC1.p1_9, PC1.p1_10, PC1.p1_11, PC1.p1_12, K0_2, K0_39, K0_40, K0_41, K0_45, K0_52, K0_63, K0_66, K0_71, K0_gid, gid_ne, K0_bid, bid_ne, K0_kid, kid_ne, K0_bid1, K0_bid2, K0_kid1, K0_kid2, GP.r1, GP.r2, GP.b5, GP.b6, GP.k5, GP.k6, c_gateOf, succ_ne, c_ask_in, c_ask_out, c_askn_in, c_askn_out, c_range_in, c_range_out, K0_r, K0_r1, K0_r2, K0_r3, K0_r4, K0_r5, K0_r6, ru_ne, PR.p7, PR.p8, PR.p9, PR.p10, PR.p11, PR.p12, at_r1, at_r2, at_r3, at_r4, at_r5, succ_ne, K0_se, se_ne, K0_r6, show ¬ e ≤ 0 from by omega, show ¬ e = 0 from by omega, hq, hsub]
            refine Wp.seqh (c_walkAlong hV hIp hIs hg2 (show n - q ≤ 400 by omega)) (fun _ M1 ⟨⟨cn, ct, a1⟩, a2, a3, a4⟩ => ?_)
            have hP1' := a2.1
            have r1 : mR M1 (gid g) 0 = R g := a2.2.1.r0 hg2
            have hG45 := a1.2.2.2.2.1
            have hpa := c_partsAt hru hvg (hP1'.PR hru) (a2.2.2.1 g hg2).1 hp
            simp -dsimp (disch := first | assumption | omega) only [neg_1, lit_0, lit_1, lit_2, lit_3, lit_4, lit_5, lit_6, lit_7, lit_8, lit_9, lit_10, lit_11, lit_12, lit_13, lit_14, lit_15, lit_16, lit_17, lit_18, lit_19, lit_20, lit_21, lit_22, lit_23, lit_24, lit_25, lit_26, lit_27, lit_28, lit_29, lit_30, lit_31, lit_32, lit_33, lit_34, lit_35, lit_36, lit_37, lit_38, lit_39, lit_40, lit_41, lit_42, lit_43, lit_44, lit_45, lit_46, lit_47, lit_48, lit_49, lit_50, lit_51, lit_52, lit_53, lit_54, lit_55, lit_56, lit_57, lit_58, lit_59, lit_60, lit_61, lit_62, lit_63, lit_64, lit_97, lit_99, lit_100, lit_122, lit_175, lit_176, lit_200, lit_255, lit_400, lit_700, lit_800, lit_999, lit_1000, lit_1400, lit_2000, lit_2033, lit_2038, lit_2100, lit_2124, lit_8000, lit_10000, lit_12345, lit_32767, lit_1000000, lit_1000000000, ↓bndX_h, ↓bndK_h, bxh_inl, bxh_inr, bkh_inl, bkh_inr, Nat.reduceEqDiff, ↓bnd_h, ↓lt_h, ↓ite_h, bh_some, lh_eq, ih_T, ih_F, ne_eq, not_false_eq_true, not_true_eq_false, eq_self, and_true, true_and, io_def, io_add, io_mul, io_sub, io_lt, io_le, io_eq, io_clamp, io_inbT, io_div, io_mod, io_m1, m1_io, m1_lt, m1_le, neg_1, gI_m1, K0_1, PC1.p1_0, PC1.p1_1, PC1.p1_2, PC1.p1_3, PC1.p1_4, PC1.p1_7, PC1.p1_8, PC1.p1_9, PC1.p1_10, PC1.p1_11, PC1.p1_12, K0_2, K0_39, K0_40, K0_41, K0_45, K0_52, K0_63, K0_66, K0_71, K0_gid, gid_ne, K0_bid, bid_ne, K0_kid, kid_ne, K0_bid1, K0_bid2, K0_kid1, K0_kid2, GP.r1, GP.r2, GP.b5, GP.b6, GP.k5, GP.k6, c_gateOf, succ_ne, c_ask_in, c_ask_out, c_askn_in, c_askn_out, c_range_in, c_range_out, K0_r, K0_r1, K0_r2, K0_r3, K0_r4, K0_r5, K0_r6, ru_ne, PR.p7, PR.p8, PR.p9, PR.p10, PR.p11, PR.p12, at_r1, at_r2, at_r3, at_r4, at_r5, succ_ne, K0_se, se_ne, K0_r6, r1, ru_ne, K0_r, hpa, hG45]
            refine Wp.ret ⟨?_, a2, a3, a4.top⟩
            rw [hq, io_lo (by omega), lo_mul, lo_add, div64 (by unfold mixS at hml; omega)]
            rfl
          · have hN0 := hN.code (x := io 0)
            have hMV := hN0.MV hg2
            have hP := hMV.1
            have c0 := hMV.2.1.1
            have hz := allO_zero hvg
            rw [m_mixed_in hg2 hn he1 he2 hp]
            unfold mixedBody
            generalize hFU : FU = fu
            rw [FU_val] at hFU
            rw [hP.p3]
            refine Wp.pos (by omega) (Wp.chk ⟨rfl, by rw [K0_75]; show inb (io g) 3 = true; rw [io_inbT (by omega) (by omega)]; trivial⟩ ?_)
            rw [io_clamp (by omega), c0]
            refine Wp.cs (fun q2 => ?_) (fun q2 => ?_)
            · have hn0 : gN (vG V g) = 0 := by rw [lit_0, io_eq (by omega) (by omega)] at q2; exact q2
              refine Wp.ret (m_ok hN rfl ?_)
              unfold mixS
              rw [gvV_none hn0, if_pos (hz.mpr hn0), Nat.mul_zero]
              rfl
            · have hn0 : 0 < gN (vG V g) := by rw [lit_0, io_eq (by omega) (by omega)] at q2; omega
              have hap := allO_pos hvg hn0
              have hna : ¬ allO (vG V g) = 0 := by omega
              have hpo := poS_le (v := vG V g) (p := p)
              rw [if_neg hna] at hpl hpp hprod
              have hmix : mixS (vG V g) (vS V g) (bSe (vB V g)) n q p = gvV (vG V g) (vS V g) (bSe (vB V g)) (n - q) + q * (1000000000 * poS (vG V g) p / allO (vG V g) * p) := by unfold mixS; rw [if_neg hna]
              rw [m_paying hg2 hvg hP hMV.2.1 hp, bnd_some, m_oddsOf hg2 hvg hP hMV.2.1, bnd_some]
              refine Wp.chk (by rw [io_lo (by omega), lit64_0, lo_eq (by omega) (by omega)]; exact hna) ?_
              rw [io_lo (by omega), io_lo (by omega), lit64_b, lo_mul, lo_div (by omega) (by omega), lt_eq]
              refine Wp.seq (m_tell hg2 hvg hvs hMV) (fun _ N1 ⟨t1, t2⟩ => ?_)
              have hP1 := t2.PM hP
              have hse : mI N1 83 g = io (bSe (vB V g)) := by rw [t2.I rfl]; exact hN0.seed hg2
              rw [hP1.p11]
              refine Wp.chk (by omega) (Wp.chk ⟨rfl, by rw [K0_83]; show inb (io g) 2 = true; rw [io_inbT (by omega) (by omega)]; trivial⟩ ?_)
              show Wp (bnd (zX12_startAt 72 (mI N1 83 g) N1) _) _
              rw [hse]
              refine Wp.seq (m_start hP1 (show bSe (vB V g) < 100 by omega)) (fun _ N2 ⟨s1, s2⟩ => ?_)
              have hF2 : Fg [(92, 95)] [] (sI N 72 2 (io 0)) N2 := (t2.in95 (by intro o ho; simp only [ob, Bool.and_true, Bool.and_eq_true, Bool.or_eq_true, decide_eq_true_eq] at ho ⊢; omega)).trans (s2.in95 (by intro o ho; simp only [ob, Bool.and_true, Bool.and_eq_true, Bool.or_eq_true, decide_eq_true_eq] at ho ⊢; omega))
              have hL2 : MLx N2 (vG V g) (vS V g) (bSe (vB V g)) 0 0 := by
                refine ⟨?_, fun t s ht hs' => ?_⟩
                · have e : csV (vG V g) (vS V g) (bSe (vB V g)) 0 = (fun t => if t = bSe (vB V g) then 1000000000 else 0) := by unfold csV; split <;> rfl
                  rw [e]
                  exact s1
                · rw [s2.I rfl]
                  exact t1 t s ht hs'
              have hd0 : (0 : Nat) / e = 0 := Nat.zero_div e
              obtain ⟨PP, hPP⟩ : ∃ PP, PP = 1000000000 * poS (vG V g) p / allO (vG V g) := ⟨_, rfl⟩
              rw [← hPP] at hmix hpl hpp ⊢
              refine loopW (L := fun f (k : Nat) U => zX12_mixed_L106 f 72 (io g) (io n) (io e) (io p) (lo PP) (io (k + 1)) U) (J := fun k U => k ≤ n ∧ MLx U (vG V g) (vS V g) (bSe (vB V g)) (k - k / e) (k / e * (PP * p)) ∧ Fg [(92, 95)] [] (sI N 72 2 (io 0)) U) (fun k _ => n - k) ?_ fu 0 N2 ⟨Nat.zero_le _, by rw [hd0, Nat.zero_mul]; exact hL2, hF2⟩ (by omega)
              intro f k U ⟨hk, hL, hF⟩ rec
              show Wp (zX12_mixed_B106 _ _ _ _ _ _ _ _ _) _
              unfold zX12_mixed_B106 zX12_mixed_B142
              have hkd : k / e ≤ k := Nat.div_le_self k e
              have hz1 := fun c2 => succ_div_z (k := k) (show 0 < e by omega) c2
              have hz2 := fun c2 => succ_div_n (k := k) (show 0 < e by omega) c2
              generalize hkq : k / e = kq at hkd hL hz1 hz2
              simp -dsimp (disch := first | assumption | omega) only [lit_0, lit_1, lit_2, lit_3, lit_4, lit_5, lit_6, lit_7, lit_8, lit_9, lit_10, lit_11, lit_12, lit_13, lit_14, lit_15, lit_16, lit_17, lit_18, lit_19, lit_20, lit_21, lit_22, lit_23, lit_24, lit_25, lit_26, lit_27, lit_28, lit_29, lit_30, lit_31, lit_32, lit_33, lit_34, lit_35, lit_36, lit_37, lit_38, lit_39, lit_40, lit_41, lit_42, lit_43, lit_44, lit_45, lit_46, lit_47, lit_48, lit_49, lit_50, lit_51, lit_52, lit_53, lit_54, lit_55, lit_56, lit_57, lit_58, lit_59, lit_60, lit_61, lit_62, lit_63, lit_64, lit_97, lit_99, lit_100, lit_122, lit_175, lit_176, lit_200, lit_255, lit_400, lit_700, lit_800, lit_999, lit_1000, lit_1400, lit_2000, lit_2033, lit_2038, lit_2100, lit_2124, lit_8000, lit_10000, lit_12345, lit_32767, lit_1000000, lit_1000000000, ↓bndX_h, ↓bndK_h, bxh_inl, bxh_inr, bkh_inl, bkh_inr, Nat.reduceEqDiff, ↓bnd_h, ↓lt_h, ↓ite_h, bh_some, lh_eq, ih_T, ih_F, ne_eq, not_false_eq_true, not_true_eq_false, eq_self, and_true, true_and, io_def, io_add, io_mul, io_sub, io_lt, io_le, io_eq, io_clamp, io_inbT, io_div, io_mod, io_m1, m1_io, m1_lt, m1_le, neg_1, gI_m1, PM.p0, PM.p1, PM.p3, PM.p4, PM.p5, PM.p6, PM.p7, PM.p8, PM.p9, PM.p10, PM.p11, PM.p12, PM.p13, PM.p14, PM.p15, PM.p16, PM.p17, PM.p18, PM.p19, PM.p31, PM.p32, PM.p33, PM.p34, PM.p38, PM.p39, PM.p40, PM.p41, PM.p42, PM.p46, PM.p47, PM.p50, PM.p51, PM.p52, PM.p53, PM.p54, PM.p55, PM.p56, PM.p57, K0_1, K0_2, K0_3, K0_4, K0_5, K0_6, K0_7, K0_8, K0_9, K0_10, K0_11, K0_12, K0_13, K0_14, K0_15, K0_16, K0_17, K0_18, K0_19, K0_20, K0_21, K0_22, K0_23, K0_24, K0_25, K0_26, K0_27, K0_28, K0_29, K0_30, K0_31, K0_32, K0_33, K0_34, K0_35, K0_36, K0_37, K0_38, K0_39, K0_40, K0_41, K0_42, K0_43, K0_44, K0_45, K0_46, K0_47, K0_48, K0_49, K0_50, K0_51, K0_52, K0_53, K0_54, K0_55, K0_56, K0_57, K0_58, K0_59, K0_60, K0_61, K0_62, K0_63, K0_64, K0_65, K0_66, K0_67, K0_68, K0_69, K0_70, K0_71, K0_72, K0_73, K0_74, K0_75, K0_76, K0_77, K0_78, K0_79, K0_80, K0_81, K0_82, K0_83, K0_84, K0_85, K0_86, K0_87, K0_88, K0_89, K0_90, K0_91, K0_92, K0_93, K0_94, K0_95, K0_96, K0_97, K0_98, K0_99, K0_100, K0_101, K0_102, K0_103, K0_104, K0_105, K0_106, K0_107, K0_108, K0_109, K0_110, K0_111, m_isGate_in, m_isGate_out, m_isIn_in, m_isIn_out, m_isInn_in, m_isInn_out, m_fail, false_and, and_false, if_false, if_true, and_self, mI_sI, mI_sL, mL_sI, mL_sL, mR_sI, mR_sL, show ¬ e = 0 from by omega]
              refine Wp.csh (fun c => ?_) (fun c => ?_)
              · have hkn : k = n := by omega
                subst hkn
                rw [hq] at hkq
                subst hkq
                rw [hL.1.2.1, div64 (by omega), ← hmix]
                exact Wp.ret (m_okF hN hF (fun o ho => ob_1of (by omega)) rfl)
              · have hmod : (k + 1) % e < 2147483648 := Nat.lt_of_le_of_lt (Nat.mod_le _ _) (by omega)
                simp -dsimp (disch := first | assumption | omega) only [lit_0, lit_1, lit_2, lit_3, lit_4, lit_5, lit_6, lit_7, lit_8, lit_9, lit_10, lit_11, lit_12, lit_13, lit_14, lit_15, lit_16, lit_17, lit_18, lit_19, lit_20, lit_21, lit_22, lit_23, lit_24, lit_25, lit_26, lit_27, lit_28, lit_29, lit_30, lit_31, lit_32, lit_33, lit_34, lit_35, lit_36, lit_37, lit_38, lit_39, lit_40, lit_41, lit_42, lit_43, lit_44, lit_45, lit_46, lit_47, lit_48, lit_49, lit_50, lit_51, lit_52, lit_53, lit_54, lit_55, lit_56, lit_57, lit_58, lit_59, lit_60, lit_61, lit_62, lit_63, lit_64, lit_97, lit_99, lit_100, lit_122, lit_175, lit_176, lit_200, lit_255, lit_400, lit_700, lit_800, lit_999, lit_1000, lit_1400, lit_2000, lit_2033, lit_2038, lit_2100, lit_2124, lit_8000, lit_10000, lit_12345, lit_32767, lit_1000000, lit_1000000000, ↓bndX_h, ↓bndK_h, bxh_inl, bxh_inr, bkh_inl, bkh_inr, Nat.reduceEqDiff, ↓bnd_h, ↓lt_h, ↓ite_h, bh_some, lh_eq, ih_T, ih_F, ne_eq, not_false_eq_true, not_true_eq_false, eq_self, and_true, true_and, io_def, io_add, io_mul, io_sub, io_lt, io_le, io_eq, io_clamp, io_inbT, io_div, io_mod, io_m1, m1_io, m1_lt, m1_le, neg_1, gI_m1, PM.p0, PM.p1, PM.p3, PM.p4, PM.p5, PM.p6, PM.p7, PM.p8, PM.p9, PM.p10, PM.p11, PM.p12, PM.p13, PM.p14, PM.p15, PM.p16, PM.p17, PM.p18, PM.p19, PM.p31, PM.p32, PM.p33, PM.p34, PM.p38, PM.p39, PM.p40, PM.p41, PM.p42, PM.p46, PM.p47, PM.p50, PM.p51, PM.p52, PM.p53, PM.p54, PM.p55, PM.p56, PM.p57, K0_1, K0_2, K0_3, K0_4, K0_5, K0_6, K0_7, K0_8, K0_9, K0_10, K0_11, K0_12, K0_13, K0_14, K0_15, K0_16, K0_17, K0_18, K0_19, K0_20, K0_21, K0_22, K0_23, K0_24, K0_25, K0_26, K0_27, K0_28, K0_29, K0_30, K0_31, K0_32, K0_33, K0_34, K0_35, K0_36, K0_37, K0_38, K0_39, K0_40, K0_41, K0_42, K0_43, K0_44, K0_45, K0_46, K0_47, K0_48, K0_49, K0_50, K0_51, K0_52, K0_53, K0_54, K0_55, K0_56, K0_57, K0_58, K0_59, K0_60, K0_61, K0_62, K0_63, K0_64, K0_65, K0_66, K0_67, K0_68, K0_69, K0_70, K0_71, K0_72, K0_73, K0_74, K0_75, K0_76, K0_77, K0_78, K0_79, K0_80, K0_81, K0_82, K0_83, K0_84, K0_85, K0_86, K0_87, K0_88, K0_89, K0_90, K0_91, K0_92, K0_93, K0_94, K0_95, K0_96, K0_97, K0_98, K0_99, K0_100, K0_101, K0_102, K0_103, K0_104, K0_105, K0_106, K0_107, K0_108, K0_109, K0_110, K0_111, m_isGate_in, m_isGate_out, m_isIn_in, m_isIn_out, m_isInn_in, m_isInn_out, m_fail, false_and, and_false, if_false, if_true, and_self, mI_sI, mI_sL, mL_sI, mL_sL, mR_sI, mR_sL, show ¬ e = 0 from by omega]
                refine Wp.csh (fun c2 => ?_) (fun c2 => ?_)
                · have hdv := hz1 c2
                  have hX := hL.1.2.1
                  simp -dsimp (disch := first | assumption | omega) only [lit_0, lit_1, lit_2, lit_3, lit_4, lit_5, lit_6, lit_7, lit_8, lit_9, lit_10, lit_11, lit_12, lit_13, lit_14, lit_15, lit_16, lit_17, lit_18, lit_19, lit_20, lit_21, lit_22, lit_23, lit_24, lit_25, lit_26, lit_27, lit_28, lit_29, lit_30, lit_31, lit_32, lit_33, lit_34, lit_35, lit_36, lit_37, lit_38, lit_39, lit_40, lit_41, lit_42, lit_43, lit_44, lit_45, lit_46, lit_47, lit_48, lit_49, lit_50, lit_51, lit_52, lit_53, lit_54, lit_55, lit_56, lit_57, lit_58, lit_59, lit_60, lit_61, lit_62, lit_63, lit_64, lit_97, lit_99, lit_100, lit_122, lit_175, lit_176, lit_200, lit_255, lit_400, lit_700, lit_800, lit_999, lit_1000, lit_1400, lit_2000, lit_2033, lit_2038, lit_2100, lit_2124, lit_8000, lit_10000, lit_12345, lit_32767, lit_1000000, lit_1000000000, ↓bndX_h, ↓bndK_h, bxh_inl, bxh_inr, bkh_inl, bkh_inr, Nat.reduceEqDiff, ↓bnd_h, ↓lt_h, ↓ite_h, bh_some, lh_eq, ih_T, ih_F, ne_eq, not_false_eq_true, not_true_eq_false, eq_self, and_true, true_and, io_def, io_add, io_mul, io_sub, io_lt, io_le, io_eq, io_clamp, io_inbT, io_div, io_mod, io_m1, m1_io, m1_lt, m1_le, neg_1, gI_m1, PM.p0, PM.p1, PM.p3, PM.p4, PM.p5, PM.p6, PM.p7, PM.p8, PM.p9, PM.p10, PM.p11, PM.p12, PM.p13, PM.p14, PM.p15, PM.p16, PM.p17, PM.p18, PM.p19, PM.p31, PM.p32, PM.p33, PM.p34, PM.p38, PM.p39, PM.p40, PM.p41, PM.p42, PM.p46, PM.p47, PM.p50, PM.p51, PM.p52, PM.p53, PM.p54, PM.p55, PM.p56, PM.p57, K0_1, K0_2, K0_3, K0_4, K0_5, K0_6, K0_7, K0_8, K0_9, K0_10, K0_11, K0_12, K0_13, K0_14, K0_15, K0_16, K0_17, K0_18, K0_19, K0_20, K0_21, K0_22, K0_23, K0_24, K0_25, K0_26, K0_27, K0_28, K0_29, K0_30, K0_31, K0_32, K0_33, K0_34, K0_35, K0_36, K0_37, K0_38, K0_39, K0_40, K0_41, K0_42, K0_43, K0_44, K0_45, K0_46, K0_47, K0_48, K0_49, K0_50, K0_51, K0_52, K0_53, K0_54, K0_55, K0_56, K0_57, K0_58, K0_59, K0_60, K0_61, K0_62, K0_63, K0_64, K0_65, K0_66, K0_67, K0_68, K0_69, K0_70, K0_71, K0_72, K0_73, K0_74, K0_75, K0_76, K0_77, K0_78, K0_79, K0_80, K0_81, K0_82, K0_83, K0_84, K0_85, K0_86, K0_87, K0_88, K0_89, K0_90, K0_91, K0_92, K0_93, K0_94, K0_95, K0_96, K0_97, K0_98, K0_99, K0_100, K0_101, K0_102, K0_103, K0_104, K0_105, K0_106, K0_107, K0_108, K0_109, K0_110, K0_111, m_isGate_in, m_isGate_out, m_isIn_in, m_isIn_out, m_isInn_in, m_isInn_out, m_fail, false_and, and_false, if_false, if_true, and_self, mI_sI, mI_sL, mL_sI, mL_sL, mR_sI, mR_sL, hX, lit64_0, lit64_1, lit64_m, lit64_b, lo_add, lo_mul, lo_div, lo_lt, lo_le, lo_eq, io_lo, lo_io]
                  have hL3 : MLx (sL U 72 35 (lo (gvV (vG V g) (vS V g) (bSe (vB V g)) (k - kq) + kq * (PP * p) + PP * p))) (vG V g) (vS V g) (bSe (vB V g)) (k + 1 - (k + 1) / e) ((k + 1) / e * (PP * p)) := by
                    rw [hdv, show k + 1 - (kq + 1) = k - kq by omega, Nat.add_mul, Nat.one_mul]
                    refine ⟨⟨fun t ht => ?_, ?_, ?_⟩, hL.2⟩
                    · rw [mL_sL, if_neg (by omega)]; exact hL.1.1 t ht
                    · rw [mL_sL, if_pos ⟨rfl, rfl⟩, Nat.add_assoc]
                    · rw [mL_sL, if_neg (by omega)]; exact hL.1.2.2
                  exact rec (k + 1) _ ⟨by omega, hL3, hF.sL (Or.inr rfl)⟩ (by omega)
                · have hdv := hz2 c2
                  refine Wp.seq (m_nextX hg2 hvg (hF.PM hMV.1) (hF.MG (fun o _ h2 => ob_lo (by omega)) hMV.2.1) hsd hn0 hL) (fun _ U2 ⟨b1, b3⟩ => ?_)
                  rw [show k - kq + 1 = k + 1 - kq by omega, ← hdv] at b1
                  simp -dsimp (disch := first | assumption | omega) only [lit_0, lit_1, lit_2, lit_3, lit_4, lit_5, lit_6, lit_7, lit_8, lit_9, lit_10, lit_11, lit_12, lit_13, lit_14, lit_15, lit_16, lit_17, lit_18, lit_19, lit_20, lit_21, lit_22, lit_23, lit_24, lit_25, lit_26, lit_27, lit_28, lit_29, lit_30, lit_31, lit_32, lit_33, lit_34, lit_35, lit_36, lit_37, lit_38, lit_39, lit_40, lit_41, lit_42, lit_43, lit_44, lit_45, lit_46, lit_47, lit_48, lit_49, lit_50, lit_51, lit_52, lit_53, lit_54, lit_55, lit_56, lit_57, lit_58, lit_59, lit_60, lit_61, lit_62, lit_63, lit_64, lit_97, lit_99, lit_100, lit_122, lit_175, lit_176, lit_200, lit_255, lit_400, lit_700, lit_800, lit_999, lit_1000, lit_1400, lit_2000, lit_2033, lit_2038, lit_2100, lit_2124, lit_8000, lit_10000, lit_12345, lit_32767, lit_1000000, lit_1000000000, ↓bndX_h, ↓bndK_h, bxh_inl, bxh_inr, bkh_inl, bkh_inr, Nat.reduceEqDiff, ↓bnd_h, ↓lt_h, ↓ite_h, bh_some, lh_eq, ih_T, ih_F, ne_eq, not_false_eq_true, not_true_eq_false, eq_self, and_true, true_and, io_def, io_add, io_mul, io_sub, io_lt, io_le, io_eq, io_clamp, io_inbT, io_div, io_mod, io_m1, m1_io, m1_lt, m1_le, neg_1, gI_m1, PM.p0, PM.p1, PM.p3, PM.p4, PM.p5, PM.p6, PM.p7, PM.p8, PM.p9, PM.p10, PM.p11, PM.p12, PM.p13, PM.p14, PM.p15, PM.p16, PM.p17, PM.p18, PM.p19, PM.p31, PM.p32, PM.p33, PM.p34, PM.p38, PM.p39, PM.p40, PM.p41, PM.p42, PM.p46, PM.p47, PM.p50, PM.p51, PM.p52, PM.p53, PM.p54, PM.p55, PM.p56, PM.p57, K0_1, K0_2, K0_3, K0_4, K0_5, K0_6, K0_7, K0_8, K0_9, K0_10, K0_11, K0_12, K0_13, K0_14, K0_15, K0_16, K0_17, K0_18, K0_19, K0_20, K0_21, K0_22, K0_23, K0_24, K0_25, K0_26, K0_27, K0_28, K0_29, K0_30, K0_31, K0_32, K0_33, K0_34, K0_35, K0_36, K0_37, K0_38, K0_39, K0_40, K0_41, K0_42, K0_43, K0_44, K0_45, K0_46, K0_47, K0_48, K0_49, K0_50, K0_51, K0_52, K0_53, K0_54, K0_55, K0_56, K0_57, K0_58, K0_59, K0_60, K0_61, K0_62, K0_63, K0_64, K0_65, K0_66, K0_67, K0_68, K0_69, K0_70, K0_71, K0_72, K0_73, K0_74, K0_75, K0_76, K0_77, K0_78, K0_79, K0_80, K0_81, K0_82, K0_83, K0_84, K0_85, K0_86, K0_87, K0_88, K0_89, K0_90, K0_91, K0_92, K0_93, K0_94, K0_95, K0_96, K0_97, K0_98, K0_99, K0_100, K0_101, K0_102, K0_103, K0_104, K0_105, K0_106, K0_107, K0_108, K0_109, K0_110, K0_111, m_isGate_in, m_isGate_out, m_isIn_in, m_isIn_out, m_isInn_in, m_isInn_out, m_fail, false_and, and_false, if_false, if_true, and_self, mI_sI, mI_sL, mL_sI, mL_sL, mR_sI, mR_sL]
                  exact rec (k + 1) U2 ⟨by omega, b1, hF.trans (b3.in95 (by intro o ho; simp only [ob, Bool.and_true, Bool.and_eq_true, Bool.or_eq_true, decide_eq_true_eq] at ho ⊢; omega))⟩ (by omega)
        · refine ⟨R, V, .inr 1, hV, Nat.le_refl _, ?_, fun N hN => m_mixed_e hg2 (Or.inr ⟨⟨n, hn, rfl⟩, Or.inr ⟨⟨e, he1, he2, rfl⟩, h⟩⟩) hN⟩
          unfold zX11_mixed
          simp -dsimp (disch := first | assumption | omega) only [neg_1, lit_0, lit_1, lit_2, lit_3, lit_4, lit_5, lit_6, lit_7, lit_8, lit_9, lit_10, lit_11, lit_12, lit_13, lit_14, lit_15, lit_16, lit_17, lit_18, lit_19, lit_20, lit_21, lit_22, lit_23, lit_24, lit_25, lit_26, lit_27, lit_28, lit_29, lit_30, lit_31, lit_32, lit_33, lit_34, lit_35, lit_36, lit_37, lit_38, lit_39, lit_40, lit_41, lit_42, lit_43, lit_44, lit_45, lit_46, lit_47, lit_48, lit_49, lit_50, lit_51, lit_52, lit_53, lit_54, lit_55, lit_56, lit_57, lit_58, lit_59, lit_60, lit_61, lit_62, lit_63, lit_64, lit_97, lit_99, lit_100, lit_122, lit_175, lit_176, lit_200, lit_255, lit_400, lit_700, lit_800, lit_999, lit_1000, lit_1400, lit_2000, lit_2033, lit_2038, lit_2100, lit_2124, lit_8000, lit_10000, lit_12345, lit_32767, lit_1000000, lit_1000000000, ↓bndX_h, ↓bndK_h, bxh_inl, bxh_inr, bkh_inl, bkh_inr, Nat.reduceEqDiff, ↓bnd_h, ↓lt_h, ↓ite_h, bh_some, lh_eq, ih_T, ih_F, ne_eq, not_false_eq_true, not_true_eq_false, eq_self, and_true, true_and, io_def, io_add, io_mul, io_sub, io_lt, io_le, io_eq, io_clamp, io_inbT, io_div, io_mod, io_m1, m1_io, m1_lt, m1_le, neg_1, gI_m1, K0_1, PC1.p1_0, PC1.p1_1, PC1.p1_2, PC1.p1_3, PC1.p1_4, PC1.p1_7, PC1.p1_8, PC1.p1_9, PC1.p1_10, PC1.p1_11, PC1.p1_12, K0_2, K0_39, K0_40, K0_41, K0_45, K0_52, K0_63, K0_66, K0_71, K0_gid, gid_ne, K0_bid, bid_ne, K0_kid, kid_ne, K0_bid1, K0_bid2, K0_kid1, K0_kid2, GP.r1, GP.r2, GP.b5, GP.b6, GP.k5, GP.k6, c_gateOf, succ_ne, c_ask_in, c_ask_out, c_askn_in, c_askn_out, c_range_in, c_range_out, K0_r, K0_r1, K0_r2, K0_r3, K0_r4, K0_r5, K0_r6, ru_ne, PR.p7, PR.p8, PR.p9, PR.p10, PR.p11, PR.p12, at_r1, at_r2, at_r3, at_r4, at_r5, succ_ne, K0_se, se_ne, K0_r6]
          exact Wp.ret ⟨rfl, hIp, hIs, Fg.refl⟩
      · refine ⟨R, V, .inr 1, hV, Nat.le_refl _, ?_, fun N hN => m_mixed_e hg2 (Or.inr ⟨⟨n, hn, rfl⟩, Or.inl h⟩) hN⟩
        unfold zX11_mixed
        simp -dsimp (disch := first | assumption | omega) only [neg_1, lit_0, lit_1, lit_2, lit_3, lit_4, lit_5, lit_6, lit_7, lit_8, lit_9, lit_10, lit_11, lit_12, lit_13, lit_14, lit_15, lit_16, lit_17, lit_18, lit_19, lit_20, lit_21, lit_22, lit_23, lit_24, lit_25, lit_26, lit_27, lit_28, lit_29, lit_30, lit_31, lit_32, lit_33, lit_34, lit_35, lit_36, lit_37, lit_38, lit_39, lit_40, lit_41, lit_42, lit_43, lit_44, lit_45, lit_46, lit_47, lit_48, lit_49, lit_50, lit_51, lit_52, lit_53, lit_54, lit_55, lit_56, lit_57, lit_58, lit_59, lit_60, lit_61, lit_62, lit_63, lit_64, lit_97, lit_99, lit_100, lit_122, lit_175, lit_176, lit_200, lit_255, lit_400, lit_700, lit_800, lit_999, lit_1000, lit_1400, lit_2000, lit_2033, lit_2038, lit_2100, lit_2124, lit_8000, lit_10000, lit_12345, lit_32767, lit_1000000, lit_1000000000, ↓bndX_h, ↓bndK_h, bxh_inl, bxh_inr, bkh_inl, bkh_inr, Nat.reduceEqDiff, ↓bnd_h, ↓lt_h, ↓ite_h, bh_some, lh_eq, ih_T, ih_F, ne_eq, not_false_eq_true, not_true_eq_false, eq_self, and_true, true_and, io_def, io_add, io_mul, io_sub, io_lt, io_le, io_eq, io_clamp, io_inbT, io_div, io_mod, io_m1, m1_io, m1_lt, m1_le, neg_1, gI_m1, K0_1, PC1.p1_0, PC1.p1_1, PC1.p1_2, PC1.p1_3, PC1.p1_4, PC1.p1_7, PC1.p1_8, PC1.p1_9, PC1.p1_10, PC1.p1_11, PC1.p1_12, K0_2, K0_39, K0_40, K0_41, K0_45, K0_52, K0_63, K0_66, K0_71, K0_gid, gid_ne, K0_bid, bid_ne, K0_kid, kid_ne, K0_bid1, K0_bid2, K0_kid1, K0_kid2, GP.r1, GP.r2, GP.b5, GP.b6, GP.k5, GP.k6, c_gateOf, succ_ne, c_ask_in, c_ask_out, c_askn_in, c_askn_out, c_range_in, c_range_out, K0_r, K0_r1, K0_r2, K0_r3, K0_r4, K0_r5, K0_r6, ru_ne, PR.p7, PR.p8, PR.p9, PR.p10, PR.p11, PR.p12, at_r1, at_r2, at_r3, at_r4, at_r5, succ_ne, K0_se, se_ne, K0_r6]
        exact Wp.ret ⟨rfl, hIp, hIs, Fg.refl⟩
    · refine ⟨R, V, .inr 1, hV, Nat.le_refl _, ?_, fun N hN => m_mixed_e hg2 (Or.inl h) hN⟩
      unfold zX11_mixed
      simp -dsimp (disch := first | assumption | omega) only [neg_1, lit_0, lit_1, lit_2, lit_3, lit_4, lit_5, lit_6, lit_7, lit_8, lit_9, lit_10, lit_11, lit_12, lit_13, lit_14, lit_15, lit_16, lit_17, lit_18, lit_19, lit_20, lit_21, lit_22, lit_23, lit_24, lit_25, lit_26, lit_27, lit_28, lit_29, lit_30, lit_31, lit_32, lit_33, lit_34, lit_35, lit_36, lit_37, lit_38, lit_39, lit_40, lit_41, lit_42, lit_43, lit_44, lit_45, lit_46, lit_47, lit_48, lit_49, lit_50, lit_51, lit_52, lit_53, lit_54, lit_55, lit_56, lit_57, lit_58, lit_59, lit_60, lit_61, lit_62, lit_63, lit_64, lit_97, lit_99, lit_100, lit_122, lit_175, lit_176, lit_200, lit_255, lit_400, lit_700, lit_800, lit_999, lit_1000, lit_1400, lit_2000, lit_2033, lit_2038, lit_2100, lit_2124, lit_8000, lit_10000, lit_12345, lit_32767, lit_1000000, lit_1000000000, ↓bndX_h, ↓bndK_h, bxh_inl, bxh_inr, bkh_inl, bkh_inr, Nat.reduceEqDiff, ↓bnd_h, ↓lt_h, ↓ite_h, bh_some, lh_eq, ih_T, ih_F, ne_eq, not_false_eq_true, not_true_eq_false, eq_self, and_true, true_and, io_def, io_add, io_mul, io_sub, io_lt, io_le, io_eq, io_clamp, io_inbT, io_div, io_mod, io_m1, m1_io, m1_lt, m1_le, neg_1, gI_m1, K0_1, PC1.p1_0, PC1.p1_1, PC1.p1_2, PC1.p1_3, PC1.p1_4, PC1.p1_7, PC1.p1_8, PC1.p1_9, PC1.p1_10, PC1.p1_11, PC1.p1_12, K0_2, K0_39, K0_40, K0_41, K0_45, K0_52, K0_63, K0_66, K0_71, K0_gid, gid_ne, K0_bid, bid_ne, K0_kid, kid_ne, K0_bid1, K0_bid2, K0_kid1, K0_kid2, GP.r1, GP.r2, GP.b5, GP.b6, GP.k5, GP.k6, c_gateOf, succ_ne, c_ask_in, c_ask_out, c_askn_in, c_askn_out, c_range_in, c_range_out, K0_r, K0_r1, K0_r2, K0_r3, K0_r4, K0_r5, K0_r6, ru_ne, PR.p7, PR.p8, PR.p9, PR.p10, PR.p11, PR.p12, at_r1, at_r2, at_r3, at_r4, at_r5, succ_ne, K0_se, se_ne, K0_r6]
      exact Wp.ret ⟨rfl, hIp, hIs, Fg.refl⟩
  · refine ⟨R, V, .inr 0, hV, Nat.zero_le _, ?_, fun N hN => m_mixed_e1 h hN⟩
    unfold zX11_mixed
    simp -dsimp (disch := first | assumption | omega) only [neg_1, lit_0, lit_1, lit_2, lit_3, lit_4, lit_5, lit_6, lit_7, lit_8, lit_9, lit_10, lit_11, lit_12, lit_13, lit_14, lit_15, lit_16, lit_17, lit_18, lit_19, lit_20, lit_21, lit_22, lit_23, lit_24, lit_25, lit_26, lit_27, lit_28, lit_29, lit_30, lit_31, lit_32, lit_33, lit_34, lit_35, lit_36, lit_37, lit_38, lit_39, lit_40, lit_41, lit_42, lit_43, lit_44, lit_45, lit_46, lit_47, lit_48, lit_49, lit_50, lit_51, lit_52, lit_53, lit_54, lit_55, lit_56, lit_57, lit_58, lit_59, lit_60, lit_61, lit_62, lit_63, lit_64, lit_97, lit_99, lit_100, lit_122, lit_175, lit_176, lit_200, lit_255, lit_400, lit_700, lit_800, lit_999, lit_1000, lit_1400, lit_2000, lit_2033, lit_2038, lit_2100, lit_2124, lit_8000, lit_10000, lit_12345, lit_32767, lit_1000000, lit_1000000000, ↓bndX_h, ↓bndK_h, bxh_inl, bxh_inr, bkh_inl, bkh_inr, Nat.reduceEqDiff, ↓bnd_h, ↓lt_h, ↓ite_h, bh_some, lh_eq, ih_T, ih_F, ne_eq, not_false_eq_true, not_true_eq_false, eq_self, and_true, true_and, io_def, io_add, io_mul, io_sub, io_lt, io_le, io_eq, io_clamp, io_inbT, io_div, io_mod, io_m1, m1_io, m1_lt, m1_le, neg_1, gI_m1, K0_1, PC1.p1_0, PC1.p1_1, PC1.p1_2, PC1.p1_3, PC1.p1_4, PC1.p1_7, PC1.p1_8, PC1.p1_9, PC1.p1_10, PC1.p1_11, PC1.p1_12, K0_2, K0_39, K0_40, K0_41, K0_45, K0_52, K0_63, K0_66, K0_71, K0_gid, gid_ne, K0_bid, bid_ne, K0_kid, kid_ne, K0_bid1, K0_bid2, K0_kid1, K0_kid2, GP.r1, GP.r2, GP.b5, GP.b6, GP.k5, GP.k6, c_gateOf, succ_ne, c_ask_in, c_ask_out, c_askn_in, c_askn_out, c_range_in, c_range_out, K0_r, K0_r1, K0_r2, K0_r3, K0_r4, K0_r5, K0_r6, ru_ne, PR.p7, PR.p8, PR.p9, PR.p10, PR.p11, PR.p12, at_r1, at_r2, at_r3, at_r4, at_r5, succ_ne, K0_se, se_ne, K0_r6, c_gateOf_out h]
    exact Wp.ret ⟨rfl, hIp, hIs, Fg.refl⟩
