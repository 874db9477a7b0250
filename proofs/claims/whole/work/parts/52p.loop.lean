/-! ===== LEVEL 2: gate: all clauses ===== -/
def ClS (P : Nat → Nat) (n r : Nat) (Z : ZV) : Prop :=
  ∃ o, GdZ P n (zX Z) o ∧ (∀ M, ZC M P n r Z → Wp (zX6_clause 2 M) (QC P n r o M)) ∧ ∀ N x1, ZM N P n Z → RT x1 (zT Z) → Wp (zX12_readClause 72 (io x1) N) (fun y N' => QM P n o N N' ∧ ∀ Z', o = .inr Z' → ∃ x2, y = io x2 ∧ RT x2 (zT Z'))
theorem clause_comb {P : Nat → Nat} {n r j : Nat} {Z : ZV} {ob : (Nat × Nat) ⊕ ZV} (hr : isRu r) (hn : n ≤ 700) (hPb : ∀ k, k < n → P k < 256) (hj : j ≤ 6) (hg : GdZ P n (zX Z) ob) (hT : ∀ Z1, ob = .inr Z1 → ∀ x1, RT x1 (zT Z) → RT (x1 ||| 2 ^ j) (zT Z1))
    (hC : ∀ M Q, ZC M P n r Z → (∀ x M', QC P n r ob M x M' → Wp (zX6_clause_B216 2 x M') Q) → Wp (zX6_clause 2 M) Q)
    (hM : ∀ N x1 Q, ZM N P n Z → RT x1 (zT Z) → (∀ q, ob = .inl q → ∀ y N', QM P n ob N N' → Q y N') → (∀ Z1 N', ob = .inr Z1 → QM P n ob N N' → Wp (zX12_readClause_B177 72 (io x1) (io j) N') Q) → Wp (zX12_readClause 72 (io x1) N) Q) : ClS P n r Z := by
  cases ob with
  | inl q =>
    refine ⟨.inl q, hg, fun M hZM => hC M _ hZM (fun x M' h => ?_), fun N x1 hN hx => hM N x1 _ hN hx (fun q' hq y N' h => ⟨h, fun Z' hz => by cases hz⟩) (fun Z1 N' hz => by cases hz)⟩
    have := h.1.1
    subst this
    unfold zX6_clause_B216
    simp -dsimp (disch := first | assumption | omega) only [lit_0, lit_1, lit_2, lit_3, lit_4, lit_5, lit_6, lit_7, lit_8, lit_9, lit_10, lit_11, lit_12, lit_13, lit_14, lit_15, lit_16, lit_17, lit_18, lit_19, lit_20, lit_21, lit_22, lit_23, lit_24, lit_25, lit_26, lit_27, lit_28, lit_29, lit_30, lit_31, lit_32, lit_33, lit_34, lit_35, lit_36, lit_37, lit_38, lit_39, lit_40, lit_41, lit_42, lit_43, lit_44, lit_45, lit_46, lit_47, lit_48, lit_49, lit_50, lit_51, lit_52, lit_53, lit_54, lit_55, lit_56, lit_57, lit_58, lit_59, lit_60, lit_61, lit_62, lit_63, lit_64, lit_97, lit_99, lit_100, lit_122, lit_175, lit_176, lit_200, lit_255, lit_400, lit_700, lit_800, lit_999, lit_1000, lit_1400, lit_2000, lit_2033, lit_2038, lit_2100, lit_2124, lit_8000, lit_10000, lit_12345, lit_32767, lit_1000000, lit_1000000000, ↓bndX_h, ↓bndK_h, bxh_inl, bxh_inr, bkh_inl, bkh_inr, Nat.reduceEqDiff, ↓bnd_h, ↓lt_h, ↓ite_h, bh_some, lh_eq, ih_T, ih_F, ne_eq, not_false_eq_true, not_true_eq_false, eq_self, and_true, true_and, io_def]
    exact Wp.ret h
  | inr Z1 =>
    obtain ⟨hZ1, hS1⟩ : okZ P n Z1 ∧ xS (zX Z) < xS (zX Z1) := hg
    obtain ⟨o2, g1, g2, g3, g4⟩ := sim_fin (r := r) hr hn hPb hZ1
    refine ⟨o2, ?_, fun M hZM => hC M _ hZM (fun x M' h => ?_), fun N x1 hN hx => hM N x1 _ hN hx (fun q' hq => by cases hq) (fun Z1' N' hz h => ?_)⟩
    · cases o2 with
      | inl q => exact g1
      | inr Z3 => exact ⟨g1.1, Nat.lt_trans hS1 g1.2⟩
    · have := h.1.1
      subst this
      exact (g3 M' h.1.2).mono (fun x M2 h3 => ⟨h3.1, h.2.trans h3.2⟩)
    · refine (g4 N' x1 j h.1 hj).mono (fun y N2 h3 => ⟨⟨h3.1.1, h.2.trans h3.1.2⟩, fun Z' hz => ⟨_, h3.2, ?_⟩⟩)
      rw [g2 Z' hz]
      exact hT Z1 rfl x1 hx
theorem ClO.fin {P : Nat → Nat} {n r i : Nat} {Z : ZV} {C : Mem → Option (Int32 × Mem)} (hr : isRu r) (hn : n ≤ 700) (hPb : ∀ k, k < n → P k < 256) (hZ : okZ P n Z) (hi : i < 6) (h : ClO P n r i Z C) (hC : ∀ M, ZC M P n r Z → zX6_clause 2 M = C M) (hM : ∀ N x1 Q, ZM N P n Z → Wp (zX12_readClause_B45 72 (io x1) (io (i + 1)) N) Q → Wp (zX12_readClause 72 (io x1) N) Q) : ClS P n r Z := by
  obtain ⟨ob, h1, h2, h3, h4⟩ := h
  have hT := hZ.2.2.2.2.2.2.2.1
  refine clause_comb (j := i + 1) hr hn hPb (by omega) h1 (fun Z1 hz x1 hx => ?_) (fun M Q hZM hQ => ?_) (fun N x1 Q hN hx q1 q2 => hM N x1 Q hN (h4 N x1 Q hN hx q1 q2))
  · rw [h2 Z1 hz]
    exact hx.or hT hi
  · rw [hC M hZM]
    exact h3 M Q hZM hQ
theorem sim_clause {P : Nat → Nat} {n r : Nat} {Z : ZV} (hr : isRu r) (hn : n ≤ 700) (hPb : ∀ k, k < n → P k < 256) (hZ : okZ P n Z) (hk : xK (zX Z) ≠ 0) : ClS P n r Z := by
  have hsn : xS (zX Z) ≤ n := by have := hZ.1.1.1; have := hZ.1.1.2.1; omega
  have hT := hZ.2.2.2.2.2.2.2.1
  have hrn := ru_n0 hr
  have hr6 : (r + 6 = 0) = False := eq_false (by omega)
  obtain ⟨q, -, h2, h3, h4⟩ := ex_until (fun i => !(wdB P (xS (zX Z)) (xE (zX Z)) (xK (zX Z)) (wC i))) 7 7 0 (Nat.le_refl _) (by omega)
  have hq1 : ∀ i, i < q → wdB P (xS (zX Z)) (xE (zX Z)) (xK (zX Z)) (wC i) = false := fun i hi => by
    have := h3 i (by omega) hi
    simpa using this
  have hq2 : q < 7 → wdB P (xS (zX Z)) (xE (zX Z)) (xK (zX Z)) (wC q) = true := fun hq => by
    rcases h4 with h4 | h4
    · omega
    · simpa using h4.2
  have hcI : ∀ M, ZC M P n r Z → zX6_clause 2 M = cBr q M := fun M hM => c_clause_in hn hPb hZ.1 hM.1 h2 hq1 hq2
  have hmI : ∀ N x1 Q, ZM N P n Z → (q = 7 → Wp (zX12_wrong 72 (io 1) N) (fun _ N' => bad N' ∧ Q (io x1) N')) → (q = 0 → mI N 75 2 = io 8 → Wp (zX12_wrong 72 (io 2) N) (fun _ N' => bad N' ∧ Q (io x1) N')) → (q = 0 → (mI N 75 2 = io 8) = False → Wp (zX12_readClause_B63 72 (io x1) (io 0) N) Q) → (q ≠ 0 → q ≠ 7 → Wp (zX12_readClause_B45 72 (io x1) (io q) N) Q) → Wp (zX12_readClause 72 (io x1) N) Q := fun N x1 Q hN a b c d => m_clause_in hn hPb hZ.1 hN.1 h2 hq1 hq2 a b c d
  -- a fault at once
  have hbadS : ∀ x, 1 ≤ x → x ≤ 4 → (∀ M, ZC M P n r Z → Wp (zX6_clause 2 M) (QC P n r (.inl (x, xS (zX Z))) M)) → (∀ N x1, ZM N P n Z → RT x1 (zT Z) → ∀ Q : Int32 → Mem → Prop, Wp (zX12_wrong 72 (io x) N) (fun _ N' => bad N' ∧ Q (io x1) N') → Wp (zX12_readClause 72 (io x1) N) Q) → ClS P n r Z := fun x x1 x4 hC hM => by
    refine ⟨.inl (x, xS (zX Z)), ⟨x1, x4, hsn⟩, hC, fun N x1 hN hx => hM N x1 hN hx _ ((m_wrongX hN.1).mono (fun _ N' ⟨i1, i2⟩ => ⟨bad_of (by omega) (by omega) i1, ⟨i1, i2.N⟩, fun Z' hz => by cases hz⟩))⟩
  have hB216 : ∀ M, zX6_clause_B216 2 (io 0) M = some (io 0, M) := fun M => by
    unfold zX6_clause_B216
    rw [lit_0, if_pos rfl]
  by_cases c0 : q = 0
  · subst c0
    by_cases hg : gN (zV Z) ≤ 7
    · obtain ⟨ob, ⟨g1, gT⟩, g2, g3⟩ := sim_sort (r := r) hr hn hPb hZ hg hk
      refine clause_comb (j := 0) (ob := ob) hr hn hPb (by omega) g1 (fun Z1 hz x1 hx => ?_) (fun M Q hM hQ => ?_) (fun N x1 Q hN hx q1 q2 => ?_)
      · rw [gT Z1 hz]
        exact hx.or0 hT
      · rw [hcI M hM]
        exact Wp.seq (g2 M hM) (fun x M' h => hQ x M' h)
      · have e75 : (mI N 75 2 = io 8) = False := by rw [hN.2.1, io_eq (by omega) (by omega)]; exact eq_false (by omega)
        refine hmI N x1 Q hN (fun z => by omega) (fun _ z => absurd z (e75 ▸ id)) (fun _ _ => ?_) (fun z => absurd rfl z)
        refine m_d_sort hN.1 ((g3 N hN).mono (fun _ N2 h => h.mono (fun _ N3 h3 => ?_)))
        cases ob with
        | inl q =>
          obtain ⟨z, hz⟩ := m_b177_bad (x := io x1) (y := io 0) (bad_of g1.1 g1.2.1 h3.1)
          exact Wp.of hz (q1 q rfl z N3 h3)
        | inr Z3 => exact q2 Z3 N3 rfl h3
    · have hg8 : gN (zV Z) = 8 := by have := hZ.2.1; omega
      refine hbadS 2 (by omega) (by omega) (fun M hM => ?_) (fun N x1 hN hx Q h => hmI N x1 Q hN (fun z => by omega) (fun _ _ => h) (fun _ z => ?_) (fun z => absurd rfl z))
      · rw [hcI M hM]
        have p3 := hM.1.2.1
        have e0 := hM.2.1
        rw [hg8] at e0
        have h88 : ¬ 8 < 8 := by omega
        show Wp (bnd (zX6_sortClause 2 M) fun v M1 => zX6_clause_B216 2 v M1) _
        unfold zX6_sortClause
        refine Wp.bd ?_
        simp -dsimp (disch := first | assumption | omega) only [lit_0, lit_1, lit_2, lit_3, lit_4, lit_5, lit_6, lit_7, lit_8, lit_9, lit_10, lit_11, lit_12, lit_13, lit_14, lit_15, lit_16, lit_17, lit_18, lit_19, lit_20, lit_21, lit_22, lit_23, lit_24, lit_25, lit_26, lit_27, lit_28, lit_29, lit_30, lit_31, lit_32, lit_33, lit_34, lit_35, lit_36, lit_37, lit_38, lit_39, lit_40, lit_41, lit_42, lit_43, lit_44, lit_45, lit_46, lit_47, lit_48, lit_49, lit_50, lit_51, lit_52, lit_53, lit_54, lit_55, lit_56, lit_57, lit_58, lit_59, lit_60, lit_61, lit_62, lit_63, lit_64, lit_97, lit_99, lit_100, lit_122, lit_175, lit_176, lit_200, lit_255, lit_400, lit_700, lit_800, lit_999, lit_1000, lit_1400, lit_2000, lit_2033, lit_2038, lit_2100, lit_2124, lit_8000, lit_10000, lit_12345, lit_32767, lit_1000000, lit_1000000000, ↓bndX_h, ↓bndK_h, bxh_inl, bxh_inr, bkh_inl, bkh_inr, Nat.reduceEqDiff, ↓bnd_h, ↓lt_h, ↓ite_h, bh_some, lh_eq, ih_T, ih_F, ne_eq, not_false_eq_true, not_true_eq_false, eq_self, and_true, true_and, io_def, io_add, io_mul, io_sub, io_lt, io_le, io_eq, io_clamp, io_inbT, io_div, io_mod, io_m1, m1_io, m1_lt, m1_le, neg_1, gI_m1, K0_2, p3, hrn, K0_r hr, e0, h88]
        refine Wp.seqh (c_refuseX hM.1) (fun v M' ⟨i1, i2, i3⟩ => ?_)
        subst i1
        simp -dsimp (disch := first | assumption | omega) only [lit_0, lit_1, lit_2, lit_3, lit_4, lit_5, lit_6, lit_7, lit_8, lit_9, lit_10, lit_11, lit_12, lit_13, lit_14, lit_15, lit_16, lit_17, lit_18, lit_19, lit_20, lit_21, lit_22, lit_23, lit_24, lit_25, lit_26, lit_27, lit_28, lit_29, lit_30, lit_31, lit_32, lit_33, lit_34, lit_35, lit_36, lit_37, lit_38, lit_39, lit_40, lit_41, lit_42, lit_43, lit_44, lit_45, lit_46, lit_47, lit_48, lit_49, lit_50, lit_51, lit_52, lit_53, lit_54, lit_55, lit_56, lit_57, lit_58, lit_59, lit_60, lit_61, lit_62, lit_63, lit_64, lit_97, lit_99, lit_100, lit_122, lit_175, lit_176, lit_200, lit_255, lit_400, lit_700, lit_800, lit_999, lit_1000, lit_1400, lit_2000, lit_2033, lit_2038, lit_2100, lit_2124, lit_8000, lit_10000, lit_12345, lit_32767, lit_1000000, lit_1000000000, ↓bndX_h, ↓bndK_h, bxh_inl, bxh_inr, bkh_inl, bkh_inr, Nat.reduceEqDiff, ↓bnd_h, ↓lt_h, ↓ite_h, bh_some, lh_eq, ih_T, ih_F, ne_eq, not_false_eq_true, not_true_eq_false, eq_self, and_true, true_and, io_def, true_or]
        refine Wp.ret ?_
        rw [hB216]
        exact Wp.ret ⟨⟨rfl, i2⟩, i3.D⟩
      · have e := hN.2.1
        rw [hg8] at e
        exact absurd e (z ▸ id)
  by_cases c7 : q = 7
  · subst c7
    refine hbadS 1 (by omega) (by omega) (fun M hM => ?_) (fun N x1 hN hx Q h => hmI N x1 Q hN (fun _ => h) (fun z => absurd z c0) (fun z => absurd z c0) (fun _ z => absurd rfl z))
    rw [hcI M hM]
    show Wp (bnd (zX6_refuse 2 (io 1) M) fun v M1 => zX6_clause_B216 2 v M1) _
    refine Wp.seq (c_refuseX hM.1) (fun v M' ⟨i1, i2, i3⟩ => ?_)
    subst i1
    rw [hB216]
    exact Wp.ret ⟨⟨rfl, i2⟩, i3.D⟩
  have hmJ : ∀ i, q = i + 1 → ∀ N x1 Q, ZM N P n Z → Wp (zX12_readClause_B45 72 (io x1) (io (i + 1)) N) Q → Wp (zX12_readClause 72 (io x1) N) Q := fun i hi N x1 Q hN h => hmI N x1 Q hN (fun z => absurd z c7) (fun z => absurd z c0) (fun z => absurd z c0) (fun _ _ => by rw [hi]; exact h)
  -- a flag's way in the class
  have hflag : ∀ (i kc : Nat) (C : Mem → Option (Int32 × Mem)), (∀ M, C M = bnd (zX6_once 2 (io (2 ^ i)) M) fun v M1 => if mR M1 2 3 ≠ 0 then if K0 (mR M1 2 3) = (0, 8) then if mR M1 (mR M1 2 3) 12 ≠ 0 then if K0 (mR M1 (mR M1 2 3) 12) = (0, 9) then zX6_clause_B216 2 v (sI M1 (mR M1 (mR M1 2 3) 12) kc (io 1)) else none else none else none else none) → ∀ M Q, Wp (zX6_once 2 (io (2 ^ i)) M) (fun v M1 => PC1 M1 ∧ mR M1 2 3 = r ∧ Wp (zX6_clause_B216 2 v (sI M1 (r + 6) kc (io 1))) Q) → Wp (C M) Q := fun i kc C hC M Q h => by
    rw [hC M]
    refine Wp.seq h (fun v M1 ⟨p1, p2, p3⟩ => ?_)
    have hPR := p1.PR hr
    rw [p2, if_pos (by rw [ne_eq, hrn]; exact id), if_pos (K0_r hr), hPR.p12, if_pos (by rw [ne_eq, hr6]; exact id), if_pos (K0_r6 hr)]
    exact p3
  have hc : q = 1 ∨ q = 2 ∨ q = 3 ∨ q = 4 ∨ q = 5 ∨ q = 6 := by omega
  rcases hc with rfl | rfl | rfl | rfl | rfl | rfl
  · exact (clause_once (i := 0) hr hn hPb hZ (by omega) hk (fun Z1 h => body_sight hr hn hPb h) (m_d_num (by omega))).fin hr hn hPb hZ (by omega) (fun M hM => hcI M hM) (hmJ 0 rfl)
  · exact (clause_once (i := 1) hr hn hPb hZ (by omega) hk (fun Z1 h => body_card hr hn hPb h) (m_d_num (by omega))).fin hr hn hPb hZ (by omega) (fun M hM => hcI M hM) (hmJ 1 rfl)
  · refine ClO.fin (C := cBr 3) hr hn hPb hZ (by omega) (clause_flag (i := 2) (kc := 1) (idx := 16) (up := fun Z1 => (zX Z1, zV Z1, sKp (zS Z1) 1, zT Z1)) hr hn hPb hZ (by omega) hk (fun Z1 h => ⟨⟨h.1, h.2.1, h.2.2.1, h.2.2.2.1, h.2.2.2.2.1, h.2.2.2.2.2.1, ⟨(okZ_self h).1.1, by show 1 ≤ 1; omega, (okZ_self h).1.2.2⟩, h.2.2.2.2.2.2.2⟩, rfl, rfl⟩) (fun M Z1 L h => h.kp hr) (fun N Z1 h => h.kp) (by omega) (m_d_flag (by omega)) (hflag 2 1 (cBr 3) (fun _ => rfl))) (fun M hM => hcI M hM) (hmJ 2 rfl)
  · refine ClO.fin (C := cBr 4) hr hn hPb hZ (by omega) (clause_flag (i := 3) (kc := 2) (idx := 17) (up := fun Z1 => (zX Z1, zV Z1, sGs (zS Z1) 1, zT Z1)) hr hn hPb hZ (by omega) hk (fun Z1 h => ⟨⟨h.1, h.2.1, h.2.2.1, h.2.2.2.1, h.2.2.2.2.1, h.2.2.2.2.2.1, ⟨(okZ_self h).1.1, (okZ_self h).1.2.1, by show 1 ≤ 1; omega, (okZ_self h).1.2.2.2⟩, h.2.2.2.2.2.2.2⟩, rfl, rfl⟩) (fun M Z1 L h => h.gs hr) (fun N Z1 h => h.gs) (by omega) (m_d_flag (by omega)) (hflag 3 2 (cBr 4) (fun _ => rfl))) (fun M hM => hcI M hM) (hmJ 3 rfl)
  · exact (clause_once (i := 4) hr hn hPb hZ (by omega) hk (fun Z1 h => body_least hr hn hPb h) (m_d_num (by omega))).fin hr hn hPb hZ (by omega) (fun M hM => hcI M hM) (hmJ 4 rfl)
  · exact (clause_once (i := 5) hr hn hPb hZ (by omega) hk (fun Z1 h => body_thief hr hn hPb h) m_d_thief).fin hr hn hPb hZ (by omega) (fun M hM => hcI M hM) (hmJ 5 rfl)
/-- all of the TEXT -/
theorem sim_text {P : Nat → Nat} {n r : Nat} (hr : isRu r) (hn : n ≤ 700) (hPb : ∀ k, k < n → P k < 256) : ∀ w Z, n - xS (zX Z) ≤ w → okZ P n Z →
    ∃ o : (Nat × Nat) ⊕ ZV, (match o with
      | .inl q => 1 ≤ q.1 ∧ q.1 ≤ 4 ∧ q.2 ≤ n
      | .inr Z' => okZ P n Z') ∧ (∀ f i M, n - xS (zX Z) < f → i ≤ xS (zX Z) → ZC M P n r Z → Wp (zX6_read_L38 f 2 (io i) M) (fun x M' => (match o with
      | .inl q => x = io q.1 ∧ BdC M' q.1 q.2
      | .inr Z' => x = io 0 ∧ ZC M' P n r Z') ∧ FrD r M M')) ∧ ∀ f g x1 N Q, n - xS (zX Z) + 1 < f → ZM N P n Z → RT x1 (zT Z) → (∀ N', QM P n o N N' → Wp (zX12_gate_B100 72 (io g) N') Q) → Wp (zX12_gate_L77 f 72 (io g) (io x1) N) Q := by
  intro w
  induction w with
  | zero =>
    intro Z hw hZ
    have k0 : xK (zX Z) = 0 := Classical.byContradiction (fun h => by have := hZ.1.1.2.2.2.1 h; have := hZ.1.1.2.1; omega)
    refine ⟨.inr Z, hZ, fun f i M hf hi hM => ?_, fun f g x1 N Q hf hN hx hQ => ?_⟩
    · obtain ⟨f, rfl⟩ : ∃ g, f = g + 1 := ⟨f - 1, by omega⟩
      have t7 := hM.1.2.2.1.2.2.1
      have e11 := hM.1.2.2.2.2.2.2
      rw [k0] at t7
      have hi7 : i ≤ 700 := by have := hZ.1.1.1; have := hZ.1.1.2.1; omega
      show Wp (zX6_read_B38 (zX6_read_L38 f) 2 (io i) M) _
      unfold zX6_read_B38
      simp -dsimp (disch := first | assumption | omega) only [lit_0, lit_1, lit_2, lit_3, lit_4, lit_5, lit_6, lit_7, lit_8, lit_9, lit_10, lit_11, lit_12, lit_13, lit_14, lit_15, lit_16, lit_17, lit_18, lit_19, lit_20, lit_21, lit_22, lit_23, lit_24, lit_25, lit_26, lit_27, lit_28, lit_29, lit_30, lit_31, lit_32, lit_33, lit_34, lit_35, lit_36, lit_37, lit_38, lit_39, lit_40, lit_41, lit_42, lit_43, lit_44, lit_45, lit_46, lit_47, lit_48, lit_49, lit_50, lit_51, lit_52, lit_53, lit_54, lit_55, lit_56, lit_57, lit_58, lit_59, lit_60, lit_61, lit_62, lit_63, lit_64, lit_97, lit_99, lit_100, lit_122, lit_175, lit_176, lit_200, lit_255, lit_400, lit_700, lit_800, lit_999, lit_1000, lit_1400, lit_2000, lit_2033, lit_2038, lit_2100, lit_2124, lit_8000, lit_10000, lit_12345, lit_32767, lit_1000000, lit_1000000000, ↓bndX_h, ↓bndK_h, bxh_inl, bxh_inr, bkh_inl, bkh_inr, Nat.reduceEqDiff, ↓bnd_h, ↓lt_h, ↓ite_h, bh_some, lh_eq, ih_T, ih_F, ne_eq, not_false_eq_true, not_true_eq_false, eq_self, and_true, true_and, io_def, io_add, io_mul, io_sub, io_lt, io_le, io_eq, io_clamp, io_inbT, io_div, io_mod, io_m1, m1_io, m1_lt, m1_le, neg_1, gI_m1, t7, e11]
      refine Wp.csh (fun c => Wp.ret ⟨⟨e11, hM⟩, FrD.refl⟩) (fun c => ?_)
      simp -dsimp (disch := first | assumption | omega) only [lit_0, lit_1, lit_2, lit_3, lit_4, lit_5, lit_6, lit_7, lit_8, lit_9, lit_10, lit_11, lit_12, lit_13, lit_14, lit_15, lit_16, lit_17, lit_18, lit_19, lit_20, lit_21, lit_22, lit_23, lit_24, lit_25, lit_26, lit_27, lit_28, lit_29, lit_30, lit_31, lit_32, lit_33, lit_34, lit_35, lit_36, lit_37, lit_38, lit_39, lit_40, lit_41, lit_42, lit_43, lit_44, lit_45, lit_46, lit_47, lit_48, lit_49, lit_50, lit_51, lit_52, lit_53, lit_54, lit_55, lit_56, lit_57, lit_58, lit_59, lit_60, lit_61, lit_62, lit_63, lit_64, lit_97, lit_99, lit_100, lit_122, lit_175, lit_176, lit_200, lit_255, lit_400, lit_700, lit_800, lit_999, lit_1000, lit_1400, lit_2000, lit_2033, lit_2038, lit_2100, lit_2124, lit_8000, lit_10000, lit_12345, lit_32767, lit_1000000, lit_1000000000, ↓bndX_h, ↓bndK_h, bxh_inl, bxh_inr, bkh_inl, bkh_inr, Nat.reduceEqDiff, ↓bnd_h, ↓lt_h, ↓ite_h, bh_some, lh_eq, ih_T, ih_F, ne_eq, not_false_eq_true, not_true_eq_false, eq_self, and_true, true_and, io_def, io_add, io_mul, io_sub, io_lt, io_le, io_eq, io_clamp, io_inbT, io_div, io_mod, io_m1, m1_io, m1_lt, m1_le, neg_1, gI_m1, t7, e11]
      exact Wp.ret ⟨⟨rfl, hM⟩, FrD.refl⟩
    · obtain ⟨f, rfl⟩ : ∃ g, f = g + 1 := ⟨f - 1, by omega⟩
      have e27 := hN.1.2.1
      have e23 := hN.1.2.2.1.2.2.2.1
      rw [show rkS (xK (zX Z)) = 0 by rw [k0]; rfl] at e23
      show Wp (zX12_gate_B77 (zX12_gate_L77 f) 72 (io g) (io x1) N) Q
      unfold zX12_gate_B77
      simp -dsimp (disch := first | assumption | omega) only [lit_0, lit_1, lit_2, lit_3, lit_4, lit_5, lit_6, lit_7, lit_8, lit_9, lit_10, lit_11, lit_12, lit_13, lit_14, lit_15, lit_16, lit_17, lit_18, lit_19, lit_20, lit_21, lit_22, lit_23, lit_24, lit_25, lit_26, lit_27, lit_28, lit_29, lit_30, lit_31, lit_32, lit_33, lit_34, lit_35, lit_36, lit_37, lit_38, lit_39, lit_40, lit_41, lit_42, lit_43, lit_44, lit_45, lit_46, lit_47, lit_48, lit_49, lit_50, lit_51, lit_52, lit_53, lit_54, lit_55, lit_56, lit_57, lit_58, lit_59, lit_60, lit_61, lit_62, lit_63, lit_64, lit_97, lit_99, lit_100, lit_122, lit_175, lit_176, lit_200, lit_255, lit_400, lit_700, lit_800, lit_999, lit_1000, lit_1400, lit_2000, lit_2033, lit_2038, lit_2100, lit_2124, lit_8000, lit_10000, lit_12345, lit_32767, lit_1000000, lit_1000000000, ↓bndX_h, ↓bndK_h, bxh_inl, bxh_inr, bkh_inl, bkh_inr, Nat.reduceEqDiff, ↓bnd_h, ↓lt_h, ↓ite_h, bh_some, lh_eq, ih_T, ih_F, ne_eq, not_false_eq_true, not_true_eq_false, eq_self, and_true, true_and, io_def, e27, e23]
      exact hQ N ⟨hN, FrN.refl⟩
  | succ w ih =>
    intro Z hw hZ
    by_cases k0 : xK (zX Z) = 0
    · refine ⟨.inr Z, hZ, fun f i M hf hi hM => ?_, fun f g x1 N Q hf hN hx hQ => ?_⟩
      · obtain ⟨f, rfl⟩ : ∃ g, f = g + 1 := ⟨f - 1, by omega⟩
        have t7 := hM.1.2.2.1.2.2.1
        have e11 := hM.1.2.2.2.2.2.2
        rw [k0] at t7
        have hi7 : i ≤ 700 := by have := hZ.1.1.1; have := hZ.1.1.2.1; omega
        show Wp (zX6_read_B38 (zX6_read_L38 f) 2 (io i) M) _
        unfold zX6_read_B38
        simp -dsimp (disch := first | assumption | omega) only [lit_0, lit_1, lit_2, lit_3, lit_4, lit_5, lit_6, lit_7, lit_8, lit_9, lit_10, lit_11, lit_12, lit_13, lit_14, lit_15, lit_16, lit_17, lit_18, lit_19, lit_20, lit_21, lit_22, lit_23, lit_24, lit_25, lit_26, lit_27, lit_28, lit_29, lit_30, lit_31, lit_32, lit_33, lit_34, lit_35, lit_36, lit_37, lit_38, lit_39, lit_40, lit_41, lit_42, lit_43, lit_44, lit_45, lit_46, lit_47, lit_48, lit_49, lit_50, lit_51, lit_52, lit_53, lit_54, lit_55, lit_56, lit_57, lit_58, lit_59, lit_60, lit_61, lit_62, lit_63, lit_64, lit_97, lit_99, lit_100, lit_122, lit_175, lit_176, lit_200, lit_255, lit_400, lit_700, lit_800, lit_999, lit_1000, lit_1400, lit_2000, lit_2033, lit_2038, lit_2100, lit_2124, lit_8000, lit_10000, lit_12345, lit_32767, lit_1000000, lit_1000000000, ↓bndX_h, ↓bndK_h, bxh_inl, bxh_inr, bkh_inl, bkh_inr, Nat.reduceEqDiff, ↓bnd_h, ↓lt_h, ↓ite_h, bh_some, lh_eq, ih_T, ih_F, ne_eq, not_false_eq_true, not_true_eq_false, eq_self, and_true, true_and, io_def, io_add, io_mul, io_sub, io_lt, io_le, io_eq, io_clamp, io_inbT, io_div, io_mod, io_m1, m1_io, m1_lt, m1_le, neg_1, gI_m1, t7, e11]
        refine Wp.csh (fun c => Wp.ret ⟨⟨e11, hM⟩, FrD.refl⟩) (fun c => ?_)
        simp -dsimp (disch := first | assumption | omega) only [lit_0, lit_1, lit_2, lit_3, lit_4, lit_5, lit_6, lit_7, lit_8, lit_9, lit_10, lit_11, lit_12, lit_13, lit_14, lit_15, lit_16, lit_17, lit_18, lit_19, lit_20, lit_21, lit_22, lit_23, lit_24, lit_25, lit_26, lit_27, lit_28, lit_29, lit_30, lit_31, lit_32, lit_33, lit_34, lit_35, lit_36, lit_37, lit_38, lit_39, lit_40, lit_41, lit_42, lit_43, lit_44, lit_45, lit_46, lit_47, lit_48, lit_49, lit_50, lit_51, lit_52, lit_53, lit_54, lit_55, lit_56, lit_57, lit_58, lit_59, lit_60, lit_61, lit_62, lit_63, lit_64, lit_97, lit_99, lit_100, lit_122, lit_175, lit_176, lit_200, lit_255, lit_400, lit_700, lit_800, lit_999, lit_1000, lit_1400, lit_2000, lit_2033, lit_2038, lit_2100, lit_2124, lit_8000, lit_10000, lit_12345, lit_32767, lit_1000000, lit_1000000000, ↓bndX_h, ↓bndK_h, bxh_inl, bxh_inr, bkh_inl, bkh_inr, Nat.reduceEqDiff, ↓bnd_h, ↓lt_h, ↓ite_h, bh_some, lh_eq, ih_T, ih_F, ne_eq, not_false_eq_true, not_true_eq_false, eq_self, and_true, true_and, io_def, io_add, io_mul, io_sub, io_lt, io_le, io_eq, io_clamp, io_inbT, io_div, io_mod, io_m1, m1_io, m1_lt, m1_le, neg_1, gI_m1, t7, e11]
        exact Wp.ret ⟨⟨rfl, hM⟩, FrD.refl⟩
      · obtain ⟨f, rfl⟩ : ∃ g, f = g + 1 := ⟨f - 1, by omega⟩
        have e27 := hN.1.2.1
        have e23 := hN.1.2.2.1.2.2.2.1
        rw [show rkS (xK (zX Z)) = 0 by rw [k0]; rfl] at e23
        show Wp (zX12_gate_B77 (zX12_gate_L77 f) 72 (io g) (io x1) N) Q
        unfold zX12_gate_B77
        simp -dsimp (disch := first | assumption | omega) only [lit_0, lit_1, lit_2, lit_3, lit_4, lit_5, lit_6, lit_7, lit_8, lit_9, lit_10, lit_11, lit_12, lit_13, lit_14, lit_15, lit_16, lit_17, lit_18, lit_19, lit_20, lit_21, lit_22, lit_23, lit_24, lit_25, lit_26, lit_27, lit_28, lit_29, lit_30, lit_31, lit_32, lit_33, lit_34, lit_35, lit_36, lit_37, lit_38, lit_39, lit_40, lit_41, lit_42, lit_43, lit_44, lit_45, lit_46, lit_47, lit_48, lit_49, lit_50, lit_51, lit_52, lit_53, lit_54, lit_55, lit_56, lit_57, lit_58, lit_59, lit_60, lit_61, lit_62, lit_63, lit_64, lit_97, lit_99, lit_100, lit_122, lit_175, lit_176, lit_200, lit_255, lit_400, lit_700, lit_800, lit_999, lit_1000, lit_1400, lit_2000, lit_2033, lit_2038, lit_2100, lit_2124, lit_8000, lit_10000, lit_12345, lit_32767, lit_1000000, lit_1000000000, ↓bndX_h, ↓bndK_h, bxh_inl, bxh_inr, bkh_inl, bkh_inr, Nat.reduceEqDiff, ↓bnd_h, ↓lt_h, ↓ite_h, bh_some, lh_eq, ih_T, ih_F, ne_eq, not_false_eq_true, not_true_eq_false, eq_self, and_true, true_and, io_def, e27, e23]
        exact hQ N ⟨hN, FrN.refl⟩
    · have hse := hZ.1.1.2.2.2.1 k0
      have hen := hZ.1.1.2.1
      have v7 : xK (zX Z) < 256 := hZ.1.1.2.2.2.2.2.2
      have hrl : rkS (xK (zX Z)) < 5 := rkS_lt
      have hrk : ¬ rkS (xK (zX Z)) = 0 := by
        unfold rkS
        split
        · exact k0
        · split <;> omega
      obtain ⟨ob, g1, g2, g3⟩ := sim_clause (r := r) hr hn hPb hZ k0
      have hcl : ∀ f i M Q, i ≤ xS (zX Z) → ZC M P n r Z → Wp (zX6_clause 2 M) (fun x M' => (x = io 0 ∧ Q (mI M' 2 11) M') ∨ (x = io 1 ∧ Wp (zX6_read_L38 f 2 (io (i + 1)) M') Q)) → Wp (zX6_read_L38 (f + 1) 2 (io i) M) Q := fun f i M Q hi hM h => by
        have t7 := hM.1.2.2.1.2.2.1
        have hi7 : ¬ 700 ≤ i := by omega
        show Wp (zX6_read_B38 (zX6_read_L38 f) 2 (io i) M) _
        unfold zX6_read_B38
        simp -dsimp (disch := first | assumption | omega) only [lit_0, lit_1, lit_2, lit_3, lit_4, lit_5, lit_6, lit_7, lit_8, lit_9, lit_10, lit_11, lit_12, lit_13, lit_14, lit_15, lit_16, lit_17, lit_18, lit_19, lit_20, lit_21, lit_22, lit_23, lit_24, lit_25, lit_26, lit_27, lit_28, lit_29, lit_30, lit_31, lit_32, lit_33, lit_34, lit_35, lit_36, lit_37, lit_38, lit_39, lit_40, lit_41, lit_42, lit_43, lit_44, lit_45, lit_46, lit_47, lit_48, lit_49, lit_50, lit_51, lit_52, lit_53, lit_54, lit_55, lit_56, lit_57, lit_58, lit_59, lit_60, lit_61, lit_62, lit_63, lit_64, lit_97, lit_99, lit_100, lit_122, lit_175, lit_176, lit_200, lit_255, lit_400, lit_700, lit_800, lit_999, lit_1000, lit_1400, lit_2000, lit_2033, lit_2038, lit_2100, lit_2124, lit_8000, lit_10000, lit_12345, lit_32767, lit_1000000, lit_1000000000, ↓bndX_h, ↓bndK_h, bxh_inl, bxh_inr, bkh_inl, bkh_inr, Nat.reduceEqDiff, ↓bnd_h, ↓lt_h, ↓ite_h, bh_some, lh_eq, ih_T, ih_F, ne_eq, not_false_eq_true, not_true_eq_false, eq_self, and_true, true_and, io_def, io_add, io_mul, io_sub, io_lt, io_le, io_eq, io_clamp, io_inbT, io_div, io_mod, io_m1, m1_io, m1_lt, m1_le, neg_1, gI_m1, t7, k0, hi7]
        refine Wp.seqh h (fun x M' h2 => ?_)
        rcases h2 with ⟨rfl, h2⟩ | ⟨rfl, h2⟩
        · simp -dsimp (disch := first | assumption | omega) only [lit_0, lit_1, lit_2, lit_3, lit_4, lit_5, lit_6, lit_7, lit_8, lit_9, lit_10, lit_11, lit_12, lit_13, lit_14, lit_15, lit_16, lit_17, lit_18, lit_19, lit_20, lit_21, lit_22, lit_23, lit_24, lit_25, lit_26, lit_27, lit_28, lit_29, lit_30, lit_31, lit_32, lit_33, lit_34, lit_35, lit_36, lit_37, lit_38, lit_39, lit_40, lit_41, lit_42, lit_43, lit_44, lit_45, lit_46, lit_47, lit_48, lit_49, lit_50, lit_51, lit_52, lit_53, lit_54, lit_55, lit_56, lit_57, lit_58, lit_59, lit_60, lit_61, lit_62, lit_63, lit_64, lit_97, lit_99, lit_100, lit_122, lit_175, lit_176, lit_200, lit_255, lit_400, lit_700, lit_800, lit_999, lit_1000, lit_1400, lit_2000, lit_2033, lit_2038, lit_2100, lit_2124, lit_8000, lit_10000, lit_12345, lit_32767, lit_1000000, lit_1000000000, ↓bndX_h, ↓bndK_h, bxh_inl, bxh_inr, bkh_inl, bkh_inr, Nat.reduceEqDiff, ↓bnd_h, ↓lt_h, ↓ite_h, bh_some, lh_eq, ih_T, ih_F, ne_eq, not_false_eq_true, not_true_eq_false, eq_self, and_true, true_and, io_def, io_add, io_mul, io_sub, io_lt, io_le, io_eq, io_clamp, io_inbT, io_div, io_mod, io_m1, m1_io, m1_lt, m1_le, neg_1, gI_m1]
          exact Wp.ret h2
        · simp -dsimp (disch := first | assumption | omega) only [lit_0, lit_1, lit_2, lit_3, lit_4, lit_5, lit_6, lit_7, lit_8, lit_9, lit_10, lit_11, lit_12, lit_13, lit_14, lit_15, lit_16, lit_17, lit_18, lit_19, lit_20, lit_21, lit_22, lit_23, lit_24, lit_25, lit_26, lit_27, lit_28, lit_29, lit_30, lit_31, lit_32, lit_33, lit_34, lit_35, lit_36, lit_37, lit_38, lit_39, lit_40, lit_41, lit_42, lit_43, lit_44, lit_45, lit_46, lit_47, lit_48, lit_49, lit_50, lit_51, lit_52, lit_53, lit_54, lit_55, lit_56, lit_57, lit_58, lit_59, lit_60, lit_61, lit_62, lit_63, lit_64, lit_97, lit_99, lit_100, lit_122, lit_175, lit_176, lit_200, lit_255, lit_400, lit_700, lit_800, lit_999, lit_1000, lit_1400, lit_2000, lit_2033, lit_2038, lit_2100, lit_2124, lit_8000, lit_10000, lit_12345, lit_32767, lit_1000000, lit_1000000000, ↓bndX_h, ↓bndK_h, bxh_inl, bxh_inr, bkh_inl, bkh_inr, Nat.reduceEqDiff, ↓bnd_h, ↓lt_h, ↓ite_h, bh_some, lh_eq, ih_T, ih_F, ne_eq, not_false_eq_true, not_true_eq_false, eq_self, and_true, true_and, io_def, io_add, io_mul, io_sub, io_lt, io_le, io_eq, io_clamp, io_inbT, io_div, io_mod, io_m1, m1_io, m1_lt, m1_le, neg_1, gI_m1]
          exact h2
      have hml : ∀ f g x1 N Q, ZM N P n Z → Wp (zX12_readClause 72 (io x1) N) (fun y N' => Wp (zX12_gate_L77 f 72 (io g) y N') Q) → Wp (zX12_gate_L77 (f + 1) 72 (io g) (io x1) N) Q := fun f g x1 N Q hN h => by
        have e27 := hN.1.2.1
        have e23 := hN.1.2.2.1.2.2.2.1
        show Wp (zX12_gate_B77 (zX12_gate_L77 f) 72 (io g) (io x1) N) Q
        unfold zX12_gate_B77
        simp -dsimp (disch := first | assumption | omega) only [lit_0, lit_1, lit_2, lit_3, lit_4, lit_5, lit_6, lit_7, lit_8, lit_9, lit_10, lit_11, lit_12, lit_13, lit_14, lit_15, lit_16, lit_17, lit_18, lit_19, lit_20, lit_21, lit_22, lit_23, lit_24, lit_25, lit_26, lit_27, lit_28, lit_29, lit_30, lit_31, lit_32, lit_33, lit_34, lit_35, lit_36, lit_37, lit_38, lit_39, lit_40, lit_41, lit_42, lit_43, lit_44, lit_45, lit_46, lit_47, lit_48, lit_49, lit_50, lit_51, lit_52, lit_53, lit_54, lit_55, lit_56, lit_57, lit_58, lit_59, lit_60, lit_61, lit_62, lit_63, lit_64, lit_97, lit_99, lit_100, lit_122, lit_175, lit_176, lit_200, lit_255, lit_400, lit_700, lit_800, lit_999, lit_1000, lit_1400, lit_2000, lit_2033, lit_2038, lit_2100, lit_2124, lit_8000, lit_10000, lit_12345, lit_32767, lit_1000000, lit_1000000000, ↓bndX_h, ↓bndK_h, bxh_inl, bxh_inr, bkh_inl, bkh_inr, Nat.reduceEqDiff, ↓bnd_h, ↓lt_h, ↓ite_h, bh_some, lh_eq, ih_T, ih_F, ne_eq, not_false_eq_true, not_true_eq_false, eq_self, and_true, true_and, io_def, io_add, io_mul, io_sub, io_lt, io_le, io_eq, io_clamp, io_inbT, io_div, io_mod, io_m1, m1_io, m1_lt, m1_le, neg_1, gI_m1, e27, e23, hrk]
        exact Wp.seqh h (fun y N' h2 => h2)
      cases ob with
      | inl q =>
        obtain ⟨q1, q2, q3⟩ := g1
        refine ⟨.inl q, ⟨q1, q2, q3⟩, fun f i M hf hi hM => ?_, fun f g x1 N Q hf hN hx hQ => ?_⟩
        · obtain ⟨f, rfl⟩ : ∃ g, f = g + 1 := ⟨f - 1, by omega⟩
          exact hcl f i M _ hi hM ((g2 M hM).mono (fun x M' h => Or.inl ⟨h.1.1, ⟨h.1.2.1, h.1.2⟩, h.2⟩))
        · obtain ⟨f, rfl⟩ : ∃ g, f = g + 1 + 1 := ⟨f - 2, by omega⟩
          refine hml (f + 1) g x1 N Q hN ((g3 N x1 hN hx).mono (fun y N' h => ?_))
          have hbn := (bad_of q1 q2 h.1.1).ne
          show Wp (zX12_gate_B77 (zX12_gate_L77 f) 72 (io g) y N') Q
          unfold zX12_gate_B77
          simp -dsimp (disch := first | assumption | omega) only [lit_0, lit_1, lit_2, lit_3, lit_4, lit_5, lit_6, lit_7, lit_8, lit_9, lit_10, lit_11, lit_12, lit_13, lit_14, lit_15, lit_16, lit_17, lit_18, lit_19, lit_20, lit_21, lit_22, lit_23, lit_24, lit_25, lit_26, lit_27, lit_28, lit_29, lit_30, lit_31, lit_32, lit_33, lit_34, lit_35, lit_36, lit_37, lit_38, lit_39, lit_40, lit_41, lit_42, lit_43, lit_44, lit_45, lit_46, lit_47, lit_48, lit_49, lit_50, lit_51, lit_52, lit_53, lit_54, lit_55, lit_56, lit_57, lit_58, lit_59, lit_60, lit_61, lit_62, lit_63, lit_64, lit_97, lit_99, lit_100, lit_122, lit_175, lit_176, lit_200, lit_255, lit_400, lit_700, lit_800, lit_999, lit_1000, lit_1400, lit_2000, lit_2033, lit_2038, lit_2100, lit_2124, lit_8000, lit_10000, lit_12345, lit_32767, lit_1000000, lit_1000000000, ↓bndX_h, ↓bndK_h, bxh_inl, bxh_inr, bkh_inl, bkh_inr, Nat.reduceEqDiff, ↓bnd_h, ↓lt_h, ↓ite_h, bh_some, lh_eq, ih_T, ih_F, ne_eq, not_false_eq_true, not_true_eq_false, eq_self, and_true, true_and, io_def, hbn]
          exact hQ N' h.1
      | inr Z1 =>
        obtain ⟨hZ1, hS1⟩ : okZ P n Z1 ∧ xS (zX Z) < xS (zX Z1) := g1
        obtain ⟨o, i1, i2, i3⟩ := ih Z1 (by omega) hZ1
        refine ⟨o, i1, fun f i M hf hi hM => ?_, fun f g x1 N Q hf hN hx hQ => ?_⟩
        · obtain ⟨f, rfl⟩ : ∃ g, f = g + 1 := ⟨f - 1, by omega⟩
          exact hcl f i M _ hi hM ((g2 M hM).mono (fun x M' h => Or.inr ⟨h.1.1, (i2 f (i + 1) M' (by omega) (by omega) h.1.2).mono (fun y M2 h2 => ⟨h2.1, h.2.trans h2.2⟩)⟩))
        · obtain ⟨f, rfl⟩ : ∃ g, f = g + 1 := ⟨f - 1, by omega⟩
          refine hml f g x1 N Q hN ((g3 N x1 hN hx).mono (fun y N' h => ?_))
          obtain ⟨x2, rfl, hx2⟩ := h.2 Z1 rfl
          exact i3 f g x2 N' Q (by omega) h.1.1 hx2 (fun N2 h2 => hQ N2 ⟨h2.1, h.1.2.trans h2.2⟩)
