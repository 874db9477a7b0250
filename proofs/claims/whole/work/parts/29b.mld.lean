/-! ===== LEVEL 2: the reference's lead, coinOf ===== -/
def gfS (v : GV) (sv : SV) : Nat → Nat → Nat := fun s t => giftS v sv s t 0
def csV (v : GV) (sv : SV) (seed k : Nat) : Nat → Nat := if gN v = 0 then (fun t => if t = seed then 1000000000 else 0) else casesS (gN v) (gOd v) (allO v) (gSi v) (gfS v sv) seed k
def gvV (v : GV) (sv : SV) (seed k : Nat) : Nat := givenS (gN v) (gOd v) (allO v) (gSi v) (gfS v sv) seed k
def awV (v : GV) (sv : SV) (seed k : Nat) : Nat := awayS (gN v) (gOd v) (allO v) (gSi v) (gfS v sv) seed k
/-- what the k-th and one person gives -/
def drV (v : GV) (sv : SV) (seed k : Nat) : Nat := stepG (gN v) (gOd v) (allO v) (gfS v sv) (casesS (gN v) (gOd v) (allO v) (gSi v) (gfS v sv) seed k)
theorem gvV_succ (v : GV) (sv : SV) (seed k : Nat) : gvV v sv seed (k + 1) = gvV v sv seed k + drV v sv seed k := rfl
theorem WOK_of {v : GV} {sv : SV} (hv : okG v) : WOK (gN v) (gOd v) (allO v) (gSi v) (gfS v sv) := by
  refine ⟨okG_n hv, rfl, fun s hs => okG_od hv hs, okG_si hv, fun s t hs _ => ?_⟩
  have := (hv.2.2.2.2.2.2 s hs).2.2.2.1
  exact giftQ_le (by omega)
theorem stepG_none {od : Nat → Nat} {all : Nat} {gf : Nat → Nat → Nat} {cs : Nat → Nat} : stepG 0 od all gf cs = 0 := sumN_zero (fun _ _ => rfl)
theorem stepA_none {od : Nat → Nat} {all : Nat} {gf : Nat → Nat → Nat} {cs : Nat → Nat} : stepA 0 od all gf cs = 0 := sumN_zero (fun _ _ => rfl)
theorem drV_none {v : GV} {sv : SV} {seed k : Nat} (h : gN v = 0) : drV v sv seed k = 0 := by
  unfold drV
  rw [h]
  exact stepG_none
theorem gvV_none {v : GV} {sv : SV} {seed k : Nat} (h : gN v = 0) : gvV v sv seed k = 0 := by
  unfold gvV givenS
  rw [h]
  exact sumN_zero (fun _ _ => stepG_none)
theorem awV_none {v : GV} {sv : SV} {seed k : Nat} (h : gN v = 0) : awV v sv seed k = 0 := by
  unfold awV awayS
  rw [h]
  exact sumN_zero (fun _ _ => stepA_none)
theorem csV_le {v : GV} {sv : SV} {seed : Nat} (hv : okG v) (hs : seed < stN (gSi v)) (k t : Nat) : csV v sv seed k t ≤ 1000000000 := by
  unfold csV
  split
  · show (if t = seed then 1000000000 else 0) ≤ 1000000000
    split <;> omega
  · exact casesS_le (WOK_of hv) (by omega) hs k t
theorem csV_su {v : GV} {sv : SV} {seed : Nat} (hv : okG v) (hs : seed < stN (gSi v)) (k t : Nat) : csV v sv seed k t ≠ 0 → t < stN (gSi v) := by
  unfold csV
  split
  · intro h
    by_cases q : t = seed
    · exact q ▸ hs
    · exact absurd (if_neg q) h
  · exact (casesS_ok (WOK_of hv) (by omega) hs k).2 t
theorem gvV_le {v : GV} {sv : SV} {seed : Nat} (hv : okG v) (hs : seed < stN (gSi v)) (k : Nat) : gvV v sv seed k ≤ k * 9000000000 := by
  rcases Nat.eq_zero_or_pos (gN v) with h | h
  · rw [gvV_none h]; exact Nat.zero_le _
  · exact givenS_le (WOK_of hv) h hs k
theorem awV_le {v : GV} {sv : SV} {seed : Nat} (hv : okG v) (hs : seed < stN (gSi v)) (k : Nat) : awV v sv seed k ≤ k * 1000000000 := by
  rcases Nat.eq_zero_or_pos (gN v) with h | h
  · rw [awV_none h]; exact Nat.zero_le _
  · exact awayS_le (WOK_of hv) h hs k
theorem drV_le {v : GV} {sv : SV} {seed : Nat} (hv : okG v) (hs : seed < stN (gSi v)) (k : Nat) : drV v sv seed k ≤ 9000000000 := by
  rcases Nat.eq_zero_or_pos (gN v) with h | h
  · rw [drV_none h]; exact Nat.zero_le _
  · have h1 := stepG_le (WOK_of (sv := sv) hv) h (casesS_ok (WOK_of (sv := sv) hv) h hs k).2
    rw [(casesS_ok (WOK_of hv) h hs k).1] at h1
    exact h1
/-- the reference stands k persons behind the start -/
def ML (M : Mem) (v : GV) (sv : SV) (seed k : Nat) : Prop := MC M (csV v sv seed k) (gvV v sv seed k) (awV v sv seed k) ∧ MT M (gN v) (gSi v) (gfS v sv)
theorem Fg.PM {p : List (Nat × Nat)} {M M' : Mem} (hF : Fg p [] M M') (hP : PM M) : PM M' := fun t ht => by rw [hF.R rfl]; exact hP t ht
theorem Fg.MG {p : List (Nat × Nat)} {M M' : Mem} {g : Nat} {v : GV} (hF : Fg p [] M M') (hp : ∀ o, 75 ≤ o → o ≤ 82 → ob p o = true) (h : MG M g v) : MG M' g v := h.keep (fun o h1 h2 k => hF.I (hp o h1 h2))
theorem ob_lo {a b o : Nat} (h : o < a) : ob [(a, b)] o = true := by
  simp only [ob, Bool.and_true, Bool.or_eq_true, decide_eq_true_eq]
  omega
theorem m_next {g : Nat} {v : GV} {sv : SV} {M : Mem} {seed k : Nat} (hg : g < 2) (hv : okG v) (hP : PM M) (hG : MG M g v) (hs : seed < stN (gSi v)) (h : ML M v sv seed k) :
    Wp (zX12_person 72 (io g) M) (fun _ M' => ML M' v sv seed (k + 1) ∧ mL M' 72 37 = lo (drV v sv seed k) ∧ Fg [(93, 94)] [] M M') := by
  have W := WOK_of (sv := sv) hv
  refine (m_person hg hv hP hG h.2 (fun s t h1 h2 => W.2.2.2.2 s t h1 h2) h.1 (csV_le hv hs k) (csV_su hv hs k)).mono (fun _ M' ⟨a1, a2, a3, a4⟩ => ⟨⟨?_, fun t s ht hs' => ?_⟩, ?_, a4⟩)
  · rcases Nat.eq_zero_or_pos (gN v) with h0 | h0
    · have := a2 h0
      rw [show csV v sv seed (k + 1) = csV v sv seed k by unfold csV; rw [if_pos h0, if_pos h0], gvV_none h0, awV_none h0]
      rw [gvV_none h0, awV_none h0] at this
      exact this
    · have := a1 h0
      have e1 : csV v sv seed k = casesS (gN v) (gOd v) (allO v) (gSi v) (gfS v sv) seed k := by unfold csV; rw [if_neg (by omega)]
      have e2 : csV v sv seed (k + 1) = casesS (gN v) (gOd v) (allO v) (gSi v) (gfS v sv) seed (k + 1) := by unfold csV; rw [if_neg (by omega)]
      rw [e1] at this
      rw [e2]
      exact this
  · rw [a4.I rfl]
    exact h.2 t s ht hs'
  · rw [a3]
    rcases Nat.eq_zero_or_pos (gN v) with h0 | h0
    · rw [drV_none h0, h0]
      exact congrArg lo stepG_none
    · rw [show csV v sv seed k = casesS (gN v) (gOd v) (allO v) (gSi v) (gfS v sv) seed k by unfold csV; rw [if_neg (by omega)]]
      rfl
theorem Fg.in95 {p : List (Nat × Nat)} {M M' : Mem} (h : Fg p [] M M') (hp : ∀ o, ob [(92, 95)] o = true → ob p o = true) : Fg [(92, 95)] [] M M' := h.sub hp (fun _ h => h)
theorem m_begin {g : Nat} {v : GV} {sv : SV} {M : Mem} {seed : Nat} {β : Type} {k : Unit → Mem → Option (β × Mem)} {Q : β → Mem → Prop} (hg : g < 2) (hv : okG v) (hsv : okS sv) (h : MV M g v sv) (hs : seed < stN (gSi v))
    (hk : ∀ M', ML M' v sv seed 0 → Fg [(92, 95)] [] M M' → Wp (k () M') Q) : Wp (bnd (zX12_tellGifts 72 (io g) M) fun _ M1 => bnd (zX12_startAt 72 (io seed) M1) k) Q := by
  have hst := stN_le (gSi v)
  refine Wp.seq (m_tell hg hv hsv h) (fun _ M1 ⟨a1, a2⟩ => Wp.seq (m_start (a2.PM h.1) (by omega)) (fun _ M2 ⟨b1, b2⟩ => hk M2 ⟨?_, fun t s ht hs' => ?_⟩ ?_))
  · have e : csV v sv seed 0 = (fun t => if t = seed then 1000000000 else 0) := by unfold csV; split <;> rfl
    rw [e]
    exact b1
  · rw [b2.I rfl]
    exact a1 t s ht hs'
  · refine (a2.in95 ?_).trans (b2.in95 ?_) <;> (intro o ho; simp only [ob, Bool.and_true, Bool.and_eq_true, Bool.or_eq_true, decide_eq_true_eq] at ho ⊢; omega)
theorem m_lead2 {g : Nat} {v : GV} {sv : SV} {M : Mem} {seed n : Nat} (hg : g < 2) (hv : okG v) (hsv : okS sv) (h : MV M g v sv) (hs : seed < stN (gSi v)) (hn : n ≤ 400) :
    Wp (zX12_lead 72 (io g) (io seed) (io n) M) (fun _ M' => ML M' v sv seed n ∧ Fg [(92, 95)] [] M M' ∧ (0 < n → mL M' 72 37 = lo (drV v sv seed (n - 1)))) := by
  unfold zX12_lead
  rw [if_pos K0_72]
  refine m_begin hg hv hsv h hs (fun M1 b1 b2 => ?_)
  refine loopW (L := fun f (k : Nat) N => zX12_lead_L13 f 72 (io g) (io n) (io k) N) (J := fun k N => k ≤ n ∧ ML N v sv seed k ∧ Fg [(92, 95)] [] M N ∧ (0 < k → mL N 72 37 = lo (drV v sv seed (k - 1)))) (fun k _ => n - k) ?_ FU 0 M1 ⟨Nat.zero_le _, b1, b2, fun h => absurd h (Nat.lt_irrefl _)⟩ (by rw [FU_val]; omega)
  intro f k N ⟨hk, hL, hF, hD⟩ rec
  show Wp (zX12_lead_B13 _ _ _ _ _ _) _
  unfold zX12_lead_B13
  simp -dsimp (disch := first | assumption | omega) only [lit_0, lit_1, lit_2, lit_3, lit_4, lit_5, lit_6, lit_7, lit_8, lit_9, lit_10, lit_11, lit_12, lit_13, lit_14, lit_15, lit_16, lit_17, lit_18, lit_19, lit_20, lit_21, lit_22, lit_23, lit_24, lit_25, lit_26, lit_27, lit_28, lit_29, lit_30, lit_31, lit_32, lit_33, lit_34, lit_35, lit_36, lit_37, lit_38, lit_39, lit_40, lit_41, lit_42, lit_43, lit_44, lit_45, lit_46, lit_47, lit_48, lit_49, lit_50, lit_51, lit_52, lit_53, lit_54, lit_55, lit_56, lit_57, lit_58, lit_59, lit_60, lit_61, lit_62, lit_63, lit_64, lit_97, lit_99, lit_100, lit_122, lit_175, lit_176, lit_200, lit_255, lit_400, lit_700, lit_800, lit_999, lit_1000, lit_1400, lit_2000, lit_2033, lit_2038, lit_2100, lit_2124, lit_8000, lit_10000, lit_12345, lit_32767, lit_1000000, lit_1000000000, ↓bndX_h, ↓bndK_h, bxh_inl, bxh_inr, bkh_inl, bkh_inr, Nat.reduceEqDiff, ↓bnd_h, ↓lt_h, ↓ite_h, bh_some, lh_eq, ih_T, ih_F, ne_eq, not_false_eq_true, not_true_eq_false, eq_self, and_true, true_and, io_def, io_add, io_mul, io_sub, io_lt, io_le, io_eq, io_clamp, io_inbT, io_div, io_mod, io_m1, m1_io, m1_lt, m1_le, neg_1, gI_m1, PM.p0, PM.p1, PM.p3, PM.p4, PM.p5, PM.p6, PM.p7, PM.p8, PM.p9, PM.p10, PM.p11, PM.p12, PM.p13, PM.p14, PM.p15, PM.p16, PM.p17, PM.p18, PM.p19, PM.p31, PM.p32, PM.p33, PM.p34, PM.p38, PM.p39, PM.p40, PM.p41, PM.p42, PM.p46, PM.p47, PM.p50, PM.p51, PM.p52, PM.p53, PM.p54, PM.p55, PM.p56, PM.p57, K0_1, K0_2, K0_3, K0_4, K0_5, K0_6, K0_7, K0_8, K0_9, K0_10, K0_11, K0_12, K0_13, K0_14, K0_15, K0_16, K0_17, K0_18, K0_19, K0_20, K0_21, K0_22, K0_23, K0_24, K0_25, K0_26, K0_27, K0_28, K0_29, K0_30, K0_31, K0_32, K0_33, K0_34, K0_35, K0_36, K0_37, K0_38, K0_39, K0_40, K0_41, K0_42, K0_43, K0_44, K0_45, K0_46, K0_47, K0_48, K0_49, K0_50, K0_51, K0_52, K0_53, K0_54, K0_55, K0_56, K0_57, K0_58, K0_59, K0_60, K0_61, K0_62, K0_63, K0_64, K0_65, K0_66, K0_67, K0_68, K0_69, K0_70, K0_71, K0_72, K0_73, K0_74, K0_75, K0_76, K0_77, K0_78, K0_79, K0_80, K0_81, K0_82, K0_83, K0_84, K0_85, K0_86, K0_87, K0_88, K0_89, K0_90, K0_91, K0_92, K0_93, K0_94, K0_95, K0_96, K0_97, K0_98, K0_99, K0_100, K0_101, K0_102, K0_103, K0_104, K0_105, K0_106, K0_107, K0_108, K0_109, K0_110, K0_111]
  refine Wp.csh (fun c => ?_) (fun c => ?_)
  · rw [show n = k by omega]
    exact Wp.ret ⟨hL, hF, hD⟩
  · refine Wp.seq (m_next hg hv (hF.PM h.1) (hF.MG (fun o _ h2 => ob_lo (by omega)) h.2.1) hs hL) (fun _ N2 ⟨a1, a2, a3⟩ => ?_)
    simp -dsimp (disch := first | assumption | omega) only [lit_0, lit_1, lit_2, lit_3, lit_4, lit_5, lit_6, lit_7, lit_8, lit_9, lit_10, lit_11, lit_12, lit_13, lit_14, lit_15, lit_16, lit_17, lit_18, lit_19, lit_20, lit_21, lit_22, lit_23, lit_24, lit_25, lit_26, lit_27, lit_28, lit_29, lit_30, lit_31, lit_32, lit_33, lit_34, lit_35, lit_36, lit_37, lit_38, lit_39, lit_40, lit_41, lit_42, lit_43, lit_44, lit_45, lit_46, lit_47, lit_48, lit_49, lit_50, lit_51, lit_52, lit_53, lit_54, lit_55, lit_56, lit_57, lit_58, lit_59, lit_60, lit_61, lit_62, lit_63, lit_64, lit_97, lit_99, lit_100, lit_122, lit_175, lit_176, lit_200, lit_255, lit_400, lit_700, lit_800, lit_999, lit_1000, lit_1400, lit_2000, lit_2033, lit_2038, lit_2100, lit_2124, lit_8000, lit_10000, lit_12345, lit_32767, lit_1000000, lit_1000000000, ↓bndX_h, ↓bndK_h, bxh_inl, bxh_inr, bkh_inl, bkh_inr, Nat.reduceEqDiff, ↓bnd_h, ↓lt_h, ↓ite_h, bh_some, lh_eq, ih_T, ih_F, ne_eq, not_false_eq_true, not_true_eq_false, eq_self, and_true, true_and, io_def, io_add, io_mul, io_sub, io_lt, io_le, io_eq, io_clamp, io_inbT, io_div, io_mod, io_m1, m1_io, m1_lt, m1_le, neg_1, gI_m1, PM.p0, PM.p1, PM.p3, PM.p4, PM.p5, PM.p6, PM.p7, PM.p8, PM.p9, PM.p10, PM.p11, PM.p12, PM.p13, PM.p14, PM.p15, PM.p16, PM.p17, PM.p18, PM.p19, PM.p31, PM.p32, PM.p33, PM.p34, PM.p38, PM.p39, PM.p40, PM.p41, PM.p42, PM.p46, PM.p47, PM.p50, PM.p51, PM.p52, PM.p53, PM.p54, PM.p55, PM.p56, PM.p57, K0_1, K0_2, K0_3, K0_4, K0_5, K0_6, K0_7, K0_8, K0_9, K0_10, K0_11, K0_12, K0_13, K0_14, K0_15, K0_16, K0_17, K0_18, K0_19, K0_20, K0_21, K0_22, K0_23, K0_24, K0_25, K0_26, K0_27, K0_28, K0_29, K0_30, K0_31, K0_32, K0_33, K0_34, K0_35, K0_36, K0_37, K0_38, K0_39, K0_40, K0_41, K0_42, K0_43, K0_44, K0_45, K0_46, K0_47, K0_48, K0_49, K0_50, K0_51, K0_52, K0_53, K0_54, K0_55, K0_56, K0_57, K0_58, K0_59, K0_60, K0_61, K0_62, K0_63, K0_64, K0_65, K0_66, K0_67, K0_68, K0_69, K0_70, K0_71, K0_72, K0_73, K0_74, K0_75, K0_76, K0_77, K0_78, K0_79, K0_80, K0_81, K0_82, K0_83, K0_84, K0_85, K0_86, K0_87, K0_88, K0_89, K0_90, K0_91, K0_92, K0_93, K0_94, K0_95, K0_96, K0_97, K0_98, K0_99, K0_100, K0_101, K0_102, K0_103, K0_104, K0_105, K0_106, K0_107, K0_108, K0_109, K0_110, K0_111]
    exact rec (k + 1) N2 ⟨by omega, a1, hF.trans (a3.in95 (by intro o ho; simp only [ob, Bool.and_true, Bool.and_eq_true, Bool.or_eq_true, decide_eq_true_eq] at ho ⊢; omega)), fun _ => a2⟩ (by omega)
theorem m_lead {g : Nat} {v : GV} {sv : SV} {M : Mem} {seed n : Nat} (hg : g < 2) (hv : okG v) (hsv : okS sv) (h : MV M g v sv) (hs : seed < stN (gSi v)) (hn : n ≤ 400) :
    Wp (zX12_lead 72 (io g) (io seed) (io n) M) (fun _ M' => ML M' v sv seed n ∧ Fg [(92, 95)] [] M M') := (m_lead2 hg hv hsv h hs hn).mono (fun _ _ h => ⟨h.1, h.2.1⟩)
theorem m_coinOf {g : Nat} {v : GV} {sv : SV} {M : Mem} {seed n : Nat} (hg : g < 2) (hv : okG v) (hsv : okS sv) (h : MV M g v sv) (hs : seed < stN (gSi v)) (hn : n ≤ 400) :
    Wp (zX12_coinOf 72 (io g) (io seed) (io n) M) (fun x M' => x = io (gvV v sv seed n / 1000000) ∧ ML M' v sv seed n ∧ Fg [(92, 95)] [] M M') := by
  unfold zX12_coinOf
  rw [if_pos K0_72]
  refine Wp.seq (m_lead hg hv hsv h hs hn) (fun _ M1 ⟨a1, a2⟩ => Wp.ret ⟨?_, a1, a2⟩)
  have h1 := gvV_le (sv := sv) hv hs n
  rw [a1.1.2.1, lit64_m, lo_div (by omega) (by omega), lo_io]
