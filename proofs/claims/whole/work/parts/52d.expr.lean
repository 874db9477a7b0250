/-! ===== LEVEL 2: gate: EXPR, the joint state ===== -/
/-- the code from k on goes m steps from the height h; where it ends -/
def hgR (c : Nat → Nat) : Nat → Nat → Nat → Option Nat
  | _, 0, h => some h
  | k, m + 1, h => if okTok (c k) = true then (if c k < 2000 then (if h < 60 then hgR c (k + 1) m (h + 1) else none) else if c k = 2033 then (if 1 ≤ h then hgR c (k + 1) m h else none) else (if 2 ≤ h then hgR c (k + 1) m (h - 1) else none)) else none
theorem hgt_of {c : Nat → Nat} : ∀ m k h, hgR c k m h = some 1 → hgt c k m h = true
  | 0, k, h, e => by
    have e' : some h = some 1 := e
    have : h = 1 := Option.some.inj e'
    subst this
    rfl
  | m + 1, k, h, e => by
    show (okTok (c k) && (if c k < 2000 then decide (h < 60) && hgt c (k + 1) m (h + 1) else if c k = 2033 then decide (1 ≤ h) && hgt c (k + 1) m h else decide (2 ≤ h) && hgt c (k + 1) m (h - 1))) = true
    have e' : (if okTok (c k) = true then (if c k < 2000 then (if h < 60 then hgR c (k + 1) m (h + 1) else none) else if c k = 2033 then (if 1 ≤ h then hgR c (k + 1) m h else none) else (if 2 ≤ h then hgR c (k + 1) m (h - 1) else none)) else none) = some 1 := e
    by_cases c1 : okTok (c k) = true
    · rw [if_pos c1] at e'
      rw [c1, Bool.true_and]
      by_cases c2 : c k < 2000
      · rw [if_pos c2] at e' ⊢
        by_cases c3 : h < 60
        · rw [if_pos c3] at e'
          rw [decide_eq_true c3, Bool.true_and]
          exact hgt_of m _ _ e'
        · rw [if_neg c3] at e'; cases e'
      · rw [if_neg c2] at e' ⊢
        by_cases c3 : c k = 2033
        · rw [if_pos c3] at e' ⊢
          by_cases c4 : 1 ≤ h
          · rw [if_pos c4] at e'
            rw [decide_eq_true c4, Bool.true_and]
            exact hgt_of m _ _ e'
          · rw [if_neg c4] at e'; cases e'
        · rw [if_neg c3] at e' ⊢
          by_cases c4 : 2 ≤ h
          · rw [if_pos c4] at e'
            rw [decide_eq_true c4, Bool.true_and]
            exact hgt_of m _ _ e'
          · rw [if_neg c4] at e'; cases e'
    · rw [if_neg c1] at e'; cases e'
theorem hgR_app {c : Nat → Nat} {m2 h' : Nat} {r : Option Nat} : ∀ m1 k h, hgR c k m1 h = some h' → hgR c (k + m1) m2 h' = r → hgR c k (m1 + m2) h = r
  | 0, k, h, e, e2 => by
    have e' : some h = some h' := e
    have : h = h' := Option.some.inj e'
    subst this
    rw [Nat.zero_add]
    exact e2
  | m + 1, k, h, e, e2 => by
    have e2' : hgR c (k + 1 + m) m2 h' = r := by rw [show k + 1 + m = k + (m + 1) by omega]; exact e2
    rw [show m + 1 + m2 = (m + m2) + 1 by omega]
    have e' : (if okTok (c k) = true then (if c k < 2000 then (if h < 60 then hgR c (k + 1) m (h + 1) else none) else if c k = 2033 then (if 1 ≤ h then hgR c (k + 1) m h else none) else (if 2 ≤ h then hgR c (k + 1) m (h - 1) else none)) else none) = some h' := e
    show (if okTok (c k) = true then (if c k < 2000 then (if h < 60 then hgR c (k + 1) (m + m2) (h + 1) else none) else if c k = 2033 then (if 1 ≤ h then hgR c (k + 1) (m + m2) h else none) else (if 2 ≤ h then hgR c (k + 1) (m + m2) (h - 1) else none)) else none) = r
    by_cases c1 : okTok (c k) = true
    · rw [if_pos c1] at e' ⊢
      by_cases c2 : c k < 2000
      · rw [if_pos c2] at e' ⊢
        by_cases c3 : h < 60
        · rw [if_pos c3] at e' ⊢
          exact hgR_app m _ _ e' e2'
        · rw [if_neg c3] at e'; cases e'
      · rw [if_neg c2] at e' ⊢
        by_cases c3 : c k = 2033
        · rw [if_pos c3] at e' ⊢
          by_cases c4 : 1 ≤ h
          · rw [if_pos c4] at e' ⊢
            exact hgR_app m _ _ e' e2'
          · rw [if_neg c4] at e'; cases e'
        · rw [if_neg c3] at e' ⊢
          by_cases c4 : 2 ≤ h
          · rw [if_pos c4] at e' ⊢
            exact hgR_app m _ _ e' e2'
          · rw [if_neg c4] at e'; cases e'
    · rw [if_neg c1] at e'; cases e'
theorem hgR_congr {c c' : Nat → Nat} : ∀ m k h, (∀ i, k ≤ i → i < k + m → c i = c' i) → hgR c k m h = hgR c' k m h
  | 0, k, h, e => rfl
  | m + 1, k, h, e => by
    show (if okTok (c k) = true then (if c k < 2000 then (if h < 60 then hgR c (k + 1) m (h + 1) else none) else if c k = 2033 then (if 1 ≤ h then hgR c (k + 1) m h else none) else (if 2 ≤ h then hgR c (k + 1) m (h - 1) else none)) else none) = (if okTok (c' k) = true then (if c' k < 2000 then (if h < 60 then hgR c' (k + 1) m (h + 1) else none) else if c' k = 2033 then (if 1 ≤ h then hgR c' (k + 1) m h else none) else (if 2 ≤ h then hgR c' (k + 1) m (h - 1) else none)) else none)
    have ih := fun h => hgR_congr m (k + 1) h (fun i h1 h2 => e i (by omega) (by omega))
    rw [e k (Nat.le_refl _) (by omega), ih, ih, ih]
theorem hgR_one {c : Nat → Nat} {k h t : Nat} (e : c k = t) (ht : okTok t = true) : hgR c k 1 h = if t < 2000 then (if h < 60 then some (h + 1) else none) else if t = 2033 then (if 1 ≤ h then some h else none) else (if 2 ≤ h then some (h - 1) else none) := by
  show (if okTok (c k) = true then (if c k < 2000 then (if h < 60 then some (h + 1) else none) else if c k = 2033 then (if 1 ≤ h then some h else none) else (if 2 ≤ h then some (h - 1) else none)) else none) = _
  rw [e, if_pos ht]
/-- a token (start, end, kind, value), the code's length, the code, what is asked -/
abbrev XV : Type := Nat × Nat × Nat × Nat × Nat × (Nat → Nat) × Nat
def xS (X : XV) : Nat := X.1
def xE (X : XV) : Nat := X.2.1
def xK (X : XV) : Nat := X.2.2.1
def xM (X : XV) : Nat := X.2.2.2.1
def xL (X : XV) : Nat := X.2.2.2.2.1
def xC (X : XV) : Nat → Nat := X.2.2.2.2.2.1
def xA (X : XV) : Nat := X.2.2.2.2.2.2
def VX (P : Nat → Nat) (n : Nat) (X : XV) : Prop := VT P n (xS X) (xE X) (xK X) (xM X) ∧ xL X ≤ xS X ∧ xA X < 512 ∧ (∀ i, i < xL X → okTok (xC X i) = true) ∧ ∀ i, i < xL X → 1000 ≤ xC X i → xC X i < 1009 → (xA X).testBit (xC X i - 1000) = true
def CX (M : Mem) (P : Nat → Nat) (n r : Nat) (X : XV) : Prop := CSt M P n ∧ mR M 2 3 = r ∧ TkC M (xS X) (xE X) (xK X) (xM X) ∧ mI M r 6 = io (xL X) ∧ mI M r 5 = io (xA X) ∧ (∀ i, i < xL X → mI M (r + 5) i = io (xC X i)) ∧ mI M 2 11 = io 0
def MX (N : Mem) (P : Nat → Nat) (n : Nat) (X : XV) : Prop := MSt N P n ∧ mI N 72 27 = io 0 ∧ TkM N (xS X) (xE X) (xK X) (xM X) ∧ mI N 72 30 = io (xL X) ∧ ∀ i, i < xL X → mI N 82 (1400 + i) = trM (xC X i)
def fC : List Nat := [2, 5, 6, 7, 8, 9, 11]
def fM : List Nat := [21, 23, 24, 25, 26, 27, 28, 30]
def FrC (r : Nat) (M M' : Mem) : Prop := (∀ o k, (o ≠ 2 ∨ k ∉ fC) → (o ≠ r ∨ (k ≠ 5 ∧ k ≠ 6)) → o ≠ r + 5 → mI M' o k = mI M o k) ∧ (∀ o k, mR M' o k = mR M o k) ∧ ∀ o k, mL M' o k = mL M o k
def FrM (N N' : Mem) : Prop := (∀ o k, (o ≠ 72 ∨ k ∉ fM) → (o ≠ 82 ∨ k < 1400) → mI N' o k = mI N o k) ∧ (∀ o k, mR N' o k = mR N o k) ∧ ∀ o k, mL N' o k = mL N o k
theorem FrC.refl {r : Nat} {M : Mem} : FrC r M M := ⟨fun _ _ _ _ _ => rfl, fun _ _ => rfl, fun _ _ => rfl⟩
theorem FrM.refl {N : Mem} : FrM N N := ⟨fun _ _ _ _ => rfl, fun _ _ => rfl, fun _ _ => rfl⟩
theorem FrC.trans {r : Nat} {M M1 M2 : Mem} (h : FrC r M M1) (h' : FrC r M1 M2) : FrC r M M2 :=
  ⟨fun o k a b c => (h'.1 o k a b c).trans (h.1 o k a b c), fun o k => (h'.2.1 o k).trans (h.2.1 o k), fun o k => (h'.2.2 o k).trans (h.2.2 o k)⟩
theorem FrM.trans {M M1 M2 : Mem} (h : FrM M M1) (h' : FrM M1 M2) : FrM M M2 :=
  ⟨fun o k a b => (h'.1 o k a b).trans (h.1 o k a b), fun o k => (h'.2.1 o k).trans (h.2.1 o k), fun o k => (h'.2.2 o k).trans (h.2.2 o k)⟩
theorem On.C {r : Nat} {l : List Nat} {M M' : Mem} (h : On 2 l M M') (hl : ∀ j, j ∈ l → j ∈ fC) : FrC r M M' :=
  ⟨fun o k a _ _ => h.1 o k (a.elim Or.inl (fun q => Or.inr (fun z => q (hl k z)))), h.2.1, h.2.2⟩
theorem On.M {l : List Nat} {M M' : Mem} (h : On 72 l M M') (hl : ∀ j, j ∈ l → j ∈ fM) : FrM M M' :=
  ⟨fun o k a _ => h.1 o k (a.elim Or.inl (fun q => Or.inr (fun z => q (hl k z)))), h.2.1, h.2.2⟩
theorem CSt.Fr {r n : Nat} {M M' : Mem} {P : Nat → Nat} (hr : isRu r) (h : CSt M P n) (hF : FrC r M M') : CSt M' P n := by
  have h3 : r ≠ 2 ∧ r ≠ 3 ∧ r + 5 ≠ 2 ∧ r + 5 ≠ 3 := by rcases hr with rfl | rfl | rfl <;> omega
  exact ⟨h.1.keep (fun o k _ => hF.2.1 o k), (hF.1 _ _ (Or.inr (by simp [fC])) (Or.inl (by omega)) (by omega)).trans h.2.1, fun k hk => (hF.1 _ _ (Or.inl (by omega)) (Or.inl (by omega)) (by omega)).trans (h.2.2 k hk)⟩
theorem MSt.Fr {n : Nat} {N N' : Mem} {P : Nat → Nat} (h : MSt N P n) (hF : FrM N N') : MSt N' P n :=
  ⟨fun t ht => (hF.2.1 _ _).trans (h.1 t ht), (hF.1 _ _ (Or.inr (by simp [fM])) (Or.inl (by omega))).trans h.2.1, fun k hk => (hF.1 _ _ (Or.inl (by omega)) (Or.inl (by omega))).trans (h.2.2 k hk)⟩
/-- both step on -/
theorem sim_advX {P : Nat → Nat} {n r : Nat} {X : XV} (hr : isRu r) (hn : n ≤ 700) (hPb : ∀ k, k < n → P k < 256) (hV : VX P n X) : ∃ X1, VX P n X1 ∧ xE X ≤ xS X1 ∧ xL X1 = xL X ∧ xC X1 = xC X ∧ xA X1 = xA X ∧ (∀ M, CX M P n r X → Wp (zX6_advance 2 M) (fun _ M' => CX M' P n r X1 ∧ FrC r M M')) ∧ ∀ N, MX N P n X → Wp (zX12_stepOn 72 N) (fun _ N' => MX N' P n X1 ∧ FrM N N') := by
  obtain ⟨hT, hL, hA, hO, hB⟩ := hV
  obtain ⟨s, q, k, m, h1, h2, h3, h4⟩ := sim_adv (e := xE X) hn hPb hT.2.1
  have hse := hT.1
  refine ⟨(s, q, k, m, xL X, xC X, xA X), ⟨h1, by show xL X ≤ s; omega, hA, hO, hB⟩, h2, rfl, rfl, rfl, fun M ⟨c1, c2, c3, c4, c5, c6, c7⟩ => ?_, fun N ⟨c1, c2, c3, c4, c5⟩ => ?_⟩
  · refine (h3 M c1 c3.2.1).mono (fun _ M' ⟨a1, a2⟩ => ?_)
    have hF : FrC r M M' := a2.C (fun j hj => by simp only [fC, List.mem_cons, List.not_mem_nil, or_false] at hj ⊢; omega)
    have h3 : r ≠ 2 ∧ r + 5 ≠ 2 := by rcases hr with rfl | rfl | rfl <;> omega
    exact ⟨⟨c1.Fr hr hF, (hF.2.1 _ _).trans c2, a1, (a2.1 _ _ (Or.inl h3.1)).trans c4, (a2.1 _ _ (Or.inl h3.1)).trans c5, fun i hi => (a2.1 _ _ (Or.inl h3.2)).trans (c6 i hi), (a2.1 _ _ (Or.inr (by simp))).trans c7⟩, hF⟩
  · refine (h4 N c1 c3.2.2.1).mono (fun _ N' ⟨a1, a2⟩ => ?_)
    have hF : FrM N N' := a2.M (fun j hj => by simp only [fM, List.mem_cons, List.not_mem_nil, or_false] at hj ⊢; omega)
    exact ⟨⟨c1.Fr hF, (a2.1 _ _ (Or.inr (by simp))).trans c2, a1, (a2.1 _ _ (Or.inr (by simp))).trans c4, fun i hi => (a2.1 _ _ (Or.inl (by omega))).trans (c5 i hi)⟩, hF⟩
def xAdd (X : XV) (t : Nat) : XV := (xS X, xE X, xK X, xM X, xL X + 1, (fun i => if i = xL X then t else xC X i), xA X)
theorem c_addX {M : Mem} {P : Nat → Nat} {n r t : Nat} {X : XV} (hr : isRu r) (h : CX M P n r X) (hL : xL X < 700) : Wp (zX8_add r (io t) M) (fun _ M' => CX M' P n r (xAdd X t) ∧ FrC r M M') := by
  obtain ⟨c1, c2, c3, c4, c5, c6, c7⟩ := h
  have hPR := c1.1.PR hr
  have h3 : r ≠ 2 ∧ r + 5 ≠ 2 := by rcases hr with rfl | rfl | rfl <;> omega
  have ep := put_io (M := M) (x := io t) (K0_r5 hr) hL (by omega)
  have e6 : mI (sI M (r + 5) (xL X) (io t)) r 6 = io (xL X) := by rw [mI_diff (Or.inl (by omega))]; exact c4
  unfold zX8_add
  simp -dsimp (disch := first | assumption | omega) only [lit_0, lit_1, lit_2, lit_3, lit_4, lit_5, lit_6, lit_7, lit_8, lit_9, lit_10, lit_11, lit_12, lit_13, lit_14, lit_15, lit_16, lit_17, lit_18, lit_19, lit_20, lit_21, lit_22, lit_23, lit_24, lit_25, lit_26, lit_27, lit_28, lit_29, lit_30, lit_31, lit_32, lit_33, lit_34, lit_35, lit_36, lit_37, lit_38, lit_39, lit_40, lit_41, lit_42, lit_43, lit_44, lit_45, lit_46, lit_47, lit_48, lit_49, lit_50, lit_51, lit_52, lit_53, lit_54, lit_55, lit_56, lit_57, lit_58, lit_59, lit_60, lit_61, lit_62, lit_63, lit_64, lit_97, lit_99, lit_100, lit_122, lit_175, lit_176, lit_200, lit_255, lit_400, lit_700, lit_800, lit_999, lit_1000, lit_1400, lit_2000, lit_2033, lit_2038, lit_2100, lit_2124, lit_8000, lit_10000, lit_12345, lit_32767, lit_1000000, lit_1000000000, ↓bndX_h, ↓bndK_h, bxh_inl, bxh_inr, bkh_inl, bkh_inr, Nat.reduceEqDiff, ↓bnd_h, ↓lt_h, ↓ite_h, bh_some, lh_eq, ih_T, ih_F, ne_eq, not_false_eq_true, not_true_eq_false, eq_self, and_true, true_and, io_def, K0_r, K0_r1, K0_r2, K0_r3, K0_r4, K0_r5, K0_r6, ru_ne, PR.p7, PR.p8, PR.p9, PR.p10, PR.p11, PR.p12, at_r1, at_r2, at_r3, at_r4, at_r5, succ_ne, c4, ep, e6, io_add]
  have hF : FrC r M (sI (sI M (r + 5) (xL X) (io t)) r 6 (io (xL X + 1))) := ⟨fun o k _ b c => by rw [mI_diff (by omega), mI_diff (Or.inl c)], fun _ _ => rfl, fun _ _ => rfl⟩
  have ho : ∀ k, mI (sI (sI M (r + 5) (xL X) (io t)) r 6 (io (xL X + 1))) 2 k = mI M 2 k := fun k => by rw [mI_diff (Or.inl (by omega)), mI_diff (Or.inl (by omega))]
  refine Wp.ret ⟨⟨c1.Fr hr hF, c2, ?_, mI_same, ?_, fun i hi => ?_, (ho _).trans c7⟩, hF⟩
  · obtain ⟨t1, t2, t3, t4⟩ := c3
    exact ⟨(ho _).trans t1, (ho _).trans t2, (ho _).trans t3, fun z => (ho _).trans (t4 z)⟩
  · rw [mI_diff (Or.inr (by omega)), mI_diff (Or.inl (by omega))]; exact c5
  · show _ = io (if i = xL X then t else xC X i)
    have hi' : i < xL X + 1 := hi
    rw [mI_diff (Or.inl (by omega)), mI_sI]
    by_cases q : i = xL X
    · rw [if_pos ⟨rfl, q⟩, if_pos q]
    · rw [if_neg (fun z => q z.2), if_neg q]; exact c6 i (by omega)
theorem c_add_any {M : Mem} {r : Nat} {x : Int32} (hr : isRu r) (hP1 : PC1 M) : Wp (zX8_add r x M) (fun _ M' => FrC r M M' ∧ ∀ k, mI M' 2 k = mI M 2 k) := by
  have hPR := hP1.PR hr
  have h3 : r ≠ 2 ∧ r + 5 ≠ 2 := by rcases hr with rfl | rfl | rfl <;> omega
  obtain ⟨M1, e1, e2, e3, e4⟩ := put_any (x := mI M r 6) (v := x) (M := M) (K0_r5 hr) (by omega)
  unfold zX8_add
  simp -dsimp (disch := first | assumption | omega) only [lit_0, lit_1, lit_2, lit_3, lit_4, lit_5, lit_6, lit_7, lit_8, lit_9, lit_10, lit_11, lit_12, lit_13, lit_14, lit_15, lit_16, lit_17, lit_18, lit_19, lit_20, lit_21, lit_22, lit_23, lit_24, lit_25, lit_26, lit_27, lit_28, lit_29, lit_30, lit_31, lit_32, lit_33, lit_34, lit_35, lit_36, lit_37, lit_38, lit_39, lit_40, lit_41, lit_42, lit_43, lit_44, lit_45, lit_46, lit_47, lit_48, lit_49, lit_50, lit_51, lit_52, lit_53, lit_54, lit_55, lit_56, lit_57, lit_58, lit_59, lit_60, lit_61, lit_62, lit_63, lit_64, lit_97, lit_99, lit_100, lit_122, lit_175, lit_176, lit_200, lit_255, lit_400, lit_700, lit_800, lit_999, lit_1000, lit_1400, lit_2000, lit_2033, lit_2038, lit_2100, lit_2124, lit_8000, lit_10000, lit_12345, lit_32767, lit_1000000, lit_1000000000, ↓bndX_h, ↓bndK_h, bxh_inl, bxh_inr, bkh_inl, bkh_inr, Nat.reduceEqDiff, ↓bnd_h, ↓lt_h, ↓ite_h, bh_some, lh_eq, ih_T, ih_F, ne_eq, not_false_eq_true, not_true_eq_false, eq_self, and_true, true_and, io_def, K0_r, K0_r1, K0_r2, K0_r3, K0_r4, K0_r5, K0_r6, ru_ne, PR.p7, PR.p8, PR.p9, PR.p10, PR.p11, PR.p12, at_r1, at_r2, at_r3, at_r4, at_r5, succ_ne, e1]
  refine Wp.ret ⟨⟨fun o k _ b c => by rw [mI_diff (by omega), e2 _ _ c], e3, e4⟩, fun k => by rw [mI_diff (Or.inl (by omega)), e2 _ _ (by omega)]⟩
theorem m_layX {N : Mem} {P : Nat → Nat} {n t : Nat} {X : XV} (h : MX N P n X) (hL : xL X < 700) : Wp (zX12_lay 72 (trM t) N) (fun _ N' => MX N' P n (xAdd X t) ∧ FrM N N') := by
  obtain ⟨c1, c2, c3, c4, c5⟩ := h
  have hP := c1.1
  have e30 : mI (sI N 82 (1400 + xL X) (trM t)) 72 30 = io (xL X) := by rw [mI_diff (Or.inl (by omega))]; exact c4
  unfold zX12_lay
  simp -dsimp (disch := first | assumption | omega) only [lit_0, lit_1, lit_2, lit_3, lit_4, lit_5, lit_6, lit_7, lit_8, lit_9, lit_10, lit_11, lit_12, lit_13, lit_14, lit_15, lit_16, lit_17, lit_18, lit_19, lit_20, lit_21, lit_22, lit_23, lit_24, lit_25, lit_26, lit_27, lit_28, lit_29, lit_30, lit_31, lit_32, lit_33, lit_34, lit_35, lit_36, lit_37, lit_38, lit_39, lit_40, lit_41, lit_42, lit_43, lit_44, lit_45, lit_46, lit_47, lit_48, lit_49, lit_50, lit_51, lit_52, lit_53, lit_54, lit_55, lit_56, lit_57, lit_58, lit_59, lit_60, lit_61, lit_62, lit_63, lit_64, lit_97, lit_99, lit_100, lit_122, lit_175, lit_176, lit_200, lit_255, lit_400, lit_700, lit_800, lit_999, lit_1000, lit_1400, lit_2000, lit_2033, lit_2038, lit_2100, lit_2124, lit_8000, lit_10000, lit_12345, lit_32767, lit_1000000, lit_1000000000, ↓bndX_h, ↓bndK_h, bxh_inl, bxh_inr, bkh_inl, bkh_inr, Nat.reduceEqDiff, ↓bnd_h, ↓lt_h, ↓ite_h, bh_some, lh_eq, ih_T, ih_F, ne_eq, not_false_eq_true, not_true_eq_false, eq_self, and_true, true_and, io_def, io_add, io_mul, io_sub, io_lt, io_le, io_eq, io_clamp, io_inbT, io_div, io_mod, io_m1, m1_io, m1_lt, m1_le, neg_1, gI_m1, PM.p0, PM.p1, PM.p3, PM.p4, PM.p5, PM.p6, PM.p7, PM.p8, PM.p9, PM.p10, PM.p11, PM.p12, PM.p13, PM.p14, PM.p15, PM.p16, PM.p17, PM.p18, PM.p19, PM.p31, PM.p32, PM.p33, PM.p34, PM.p38, PM.p39, PM.p40, PM.p41, PM.p42, PM.p46, PM.p47, PM.p50, PM.p51, PM.p52, PM.p53, PM.p54, PM.p55, PM.p56, PM.p57, K0_1, K0_2, K0_3, K0_4, K0_5, K0_6, K0_7, K0_8, K0_9, K0_10, K0_11, K0_12, K0_13, K0_14, K0_15, K0_16, K0_17, K0_18, K0_19, K0_20, K0_21, K0_22, K0_23, K0_24, K0_25, K0_26, K0_27, K0_28, K0_29, K0_30, K0_31, K0_32, K0_33, K0_34, K0_35, K0_36, K0_37, K0_38, K0_39, K0_40, K0_41, K0_42, K0_43, K0_44, K0_45, K0_46, K0_47, K0_48, K0_49, K0_50, K0_51, K0_52, K0_53, K0_54, K0_55, K0_56, K0_57, K0_58, K0_59, K0_60, K0_61, K0_62, K0_63, K0_64, K0_65, K0_66, K0_67, K0_68, K0_69, K0_70, K0_71, K0_72, K0_73, K0_74, K0_75, K0_76, K0_77, K0_78, K0_79, K0_80, K0_81, K0_82, K0_83, K0_84, K0_85, K0_86, K0_87, K0_88, K0_89, K0_90, K0_91, K0_92, K0_93, K0_94, K0_95, K0_96, K0_97, K0_98, K0_99, K0_100, K0_101, K0_102, K0_103, K0_104, K0_105, K0_106, K0_107, K0_108, K0_109, K0_110, K0_111, c2, c4, e30]
  have hF : FrM N (sI (sI N 82 (1400 + xL X) (trM t)) 72 30 (io (xL X + 1))) := ⟨fun o k a b => by
    rw [mI_diff (by rcases a with a | a; exact Or.inl a; exact Or.inr (fun z => a (by rw [z]; simp [fM]))), mI_diff (by omega)], fun _ _ => rfl, fun _ _ => rfl⟩
  have ho : ∀ k, k ≠ 30 → mI (sI (sI N 82 (1400 + xL X) (trM t)) 72 30 (io (xL X + 1))) 72 k = mI N 72 k := fun k hk => by rw [mI_diff (Or.inr hk), mI_diff (Or.inl (by omega))]
  refine Wp.ret ⟨⟨c1.Fr hF, (ho _ (by omega)).trans c2, ?_, mI_same, fun i hi => ?_⟩, hF⟩
  · obtain ⟨t1, t2, t3, t4, t5⟩ := c3
    exact ⟨(ho _ (by omega)).trans t1, (ho _ (by omega)).trans t2, (ho _ (by omega)).trans t3, (ho _ (by omega)).trans t4, fun z1 z2 => (ho _ (by omega)).trans (t5 z1 z2)⟩
  · show _ = trM (if i = xL X then t else xC X i)
    have hi' : i < xL X + 1 := hi
    rw [mI_diff (Or.inl (by omega)), mI_sI]
    by_cases q : i = xL X
    · rw [if_pos ⟨rfl, by omega⟩, if_pos q]
    · rw [if_neg (by omega), if_neg q]; exact c5 i (by omega)
theorem m_lay_bad {N : Mem} {x : Int32} (h : bad N) : zX12_lay 72 x N = some ((), N) := by
  have hb := h.ne
  unfold zX12_lay
  simp -dsimp (disch := first | assumption | omega) only [lit_0, lit_1, lit_2, lit_3, lit_4, lit_5, lit_6, lit_7, lit_8, lit_9, lit_10, lit_11, lit_12, lit_13, lit_14, lit_15, lit_16, lit_17, lit_18, lit_19, lit_20, lit_21, lit_22, lit_23, lit_24, lit_25, lit_26, lit_27, lit_28, lit_29, lit_30, lit_31, lit_32, lit_33, lit_34, lit_35, lit_36, lit_37, lit_38, lit_39, lit_40, lit_41, lit_42, lit_43, lit_44, lit_45, lit_46, lit_47, lit_48, lit_49, lit_50, lit_51, lit_52, lit_53, lit_54, lit_55, lit_56, lit_57, lit_58, lit_59, lit_60, lit_61, lit_62, lit_63, lit_64, lit_97, lit_99, lit_100, lit_122, lit_175, lit_176, lit_200, lit_255, lit_400, lit_700, lit_800, lit_999, lit_1000, lit_1400, lit_2000, lit_2033, lit_2038, lit_2100, lit_2124, lit_8000, lit_10000, lit_12345, lit_32767, lit_1000000, lit_1000000000, ↓bndX_h, ↓bndK_h, bxh_inl, bxh_inr, bkh_inl, bkh_inr, Nat.reduceEqDiff, ↓bnd_h, ↓lt_h, ↓ite_h, bh_some, lh_eq, ih_T, ih_F, ne_eq, not_false_eq_true, not_true_eq_false, eq_self, and_true, true_and, io_def, K0_72, hb]
/-! what both come to -/
def BdC (M : Mem) (k p : Nat) : Prop := mI M 2 11 = io k ∧ mI M 2 2 = io p
def BdM (N : Mem) (k p : Nat) : Prop := mI N 72 27 = io k ∧ mI N 72 28 = io p
def may (X : XV) : Prop := xK X = 1 ∨ xK X = 2 ∨ xK X = 40
def Acc (P : Nat → Nat) (n b : Nat) (X Y : XV) : Prop := may X ∧ VX P n Y ∧ xS X < xS Y ∧ xL X ≤ xL Y ∧ xL Y + xS X ≤ xL X + xS Y ∧ (∀ i, i < xL X → xC Y i = xC X i) ∧ ∀ h, h + b ≤ 60 → hgR (xC Y) (xL X) (xL Y - xL X) h = some (h + 1)
def GdX (P : Nat → Nat) (n b : Nat) (X : XV) (o : (Nat × Nat) ⊕ XV) : Prop := match o with
  | .inl q => 1 ≤ q.1 ∧ q.1 ≤ 4 ∧ q.2 ≤ n ∧ (¬ may X → q.1 = 1 ∧ q.2 = xS X)
  | .inr Y => Acc P n b X Y
def oC (P : Nat → Nat) (n r : Nat) (o : (Nat × Nat) ⊕ XV) (x : Int32) (M : Mem) : Prop := match o with
  | .inl q => x = io 0 ∧ BdC M q.1 q.2
  | .inr Y => x = io 1 ∧ CX M P n r Y
def oM (P : Nat → Nat) (n : Nat) (o : (Nat × Nat) ⊕ XV) (N : Mem) : Prop := match o with
  | .inl q => BdM N q.1 q.2
  | .inr Y => MX N P n Y
def SimE (P : Nat → Nat) (n r b : Nat) (F : Mem → Option (Int32 × Mem)) (G : Mem → Option (Unit × Mem)) (X : XV) : Prop := ∃ o, GdX P n b X o ∧ (∀ M, CX M P n r X → Wp (F M) (fun x M' => oC P n r o x M' ∧ FrC r M M')) ∧ ∀ N, MX N P n X → Wp (G N) (fun _ N' => oM P n o N' ∧ FrM N N')
theorem bad_of {N : Mem} {k p : Nat} (h1 : 1 ≤ k) (h2 : k ≤ 4) (h : BdM N k p) : bad N := ⟨k, h1, h2, h.1⟩
theorem Acc.mono {P : Nat → Nat} {n b b' : Nat} {X Y : XV} (h : Acc P n b X Y) (hb : b ≤ b') : Acc P n b' X Y :=
  ⟨h.1, h.2.1, h.2.2.1, h.2.2.2.1, h.2.2.2.2.1, h.2.2.2.2.2.1, fun x hx => h.2.2.2.2.2.2 x (by omega)⟩
theorem FU_succ : ∃ f, FU = f + 1 := ⟨999999999, by rw [FU_val]⟩
/-- a chain: one, and others behind signs -/
theorem sim_chain {P : Nat → Nat} {n r b : Nat} {F : Mem → Option (Int32 × Mem)} {G : Mem → Option (Unit × Mem)} {Lc : Nat → Int32 → Int32 → Mem → Option (Int32 × Mem)} {Lm : Nat → Mem → Option (Unit × Mem)} {op : XV → Option Nat} (hr : isRu r) (hn : n ≤ 700) (hPb : ∀ k, k < n → P k < 256)
    (hop : ∀ X t, op X = some t → xK X ≠ 0 ∧ okTok t = true ∧ 2000 ≤ t ∧ t ≠ 2033)
    (hsub : ∀ X, VX P n X → SimE P n r b F G X)
    (hC0 : ∀ f i M X, VX P n X → CX M P n r X → op X = none → i ≤ 700 → Lc (f + 1) (io 1) (io i) M = some (io 1, M))
    (hC1 : ∀ f i M X t (Q : Int32 → Mem → Prop), VX P n X → CX M P n r X → op X = some t → i < 700 → Wp (zX6_advance 2 M) (fun _ M2 => Wp (F M2) (fun v M4 => mR M4 2 3 = r ∧ Wp (zX8_add r (io t) M4) (fun _ M6 => Wp (Lc f v (io (i + 1)) M6) Q))) → Wp (Lc (f + 1) (io 1) (io i) M) Q)
    (hCf : ∀ f i M, i ≤ 700 → Lc (f + 1) (io 0) (io i) M = some (io 0, M))
    (hM0 : ∀ f N X, VX P n X → MX N P n X → op X = none → Lm (f + 1) N = some ((), N))
    (hM1 : ∀ f N X t (Q : Unit → Mem → Prop), VX P n X → MX N P n X → op X = some t → Wp (zX12_stepOn 72 N) (fun _ N1 => Wp (G N1) (fun _ N2 => Wp (zX12_lay 72 (trM t) N2) (fun _ N3 => Wp (Lm f N3) Q))) → Wp (Lm (f + 1) N) Q)
    (hMb : ∀ f N, bad N → Lm (f + 1) N = some ((), N)) :
    ∀ X, VX P n X → SimE P n r (b + 1) (fun M => bnd (F M) (fun v M2 => Lc FU v (io 0) M2)) (fun N => bnd (G N) (fun _ N2 => Lm FU N2)) X := by
  -- the loop
  have loop : ∀ w X0 X, n - xS X ≤ w → VX P n X → Acc P n (b + 1) X0 X → ∃ o, GdX P n (b + 1) X0 o ∧ (∀ f i M, n - xS X < f → i ≤ xS X → CX M P n r X → Wp (Lc f (io 1) (io i) M) (fun x M' => oC P n r o x M' ∧ FrC r M M')) ∧ ∀ f N, n - xS X < f → MX N P n X → Wp (Lm f N) (fun _ N' => oM P n o N' ∧ FrM N N') := by
    intro w
    induction w with
    | zero =>
      intro X0 X hw hV hA
      have hsn : xS X = n := by have := hV.1.1; have := hV.1.2.1; omega
      have hop0 : op X = none := by
        cases h : op X with
        | none => rfl
        | some t =>
          have h1 := (hop X t h).1
          have h2 := hV.1.2.2.2.1 h1
          have h3 := hV.1.2.1
          omega
      refine ⟨.inr X, hA, fun f i M hf hi hM => ?_, fun f N hf hN => ?_⟩
      · obtain ⟨f, rfl⟩ : ∃ g, f = g + 1 := ⟨f - 1, by omega⟩
        rw [hC0 f i M X hV hM hop0 (by omega)]
        exact Wp.ret ⟨⟨rfl, hM⟩, FrC.refl⟩
      · obtain ⟨f, rfl⟩ : ∃ g, f = g + 1 := ⟨f - 1, by omega⟩
        rw [hM0 f N X hV hN hop0]
        exact Wp.ret ⟨hN, FrM.refl⟩
    | succ w ih =>
      intro X0 X hw hV hA
      have hsn : xS X ≤ n := by have := hV.1.1; have := hV.1.2.1; omega
      cases hop0 : op X with
      | none =>
        refine ⟨.inr X, hA, fun f i M hf hi hM => ?_, fun f N hf hN => ?_⟩
        · obtain ⟨f, rfl⟩ : ∃ g, f = g + 1 := ⟨f - 1, by omega⟩
          rw [hC0 f i M X hV hM hop0 (by omega)]
          exact Wp.ret ⟨⟨rfl, hM⟩, FrC.refl⟩
        · obtain ⟨f, rfl⟩ : ∃ g, f = g + 1 := ⟨f - 1, by omega⟩
          rw [hM0 f N X hV hN hop0]
          exact Wp.ret ⟨hN, FrM.refl⟩
      | some t =>
        obtain ⟨o1, o2, o3, o4⟩ := hop X t hop0
        have hse := hV.1.2.2.2.1 o1
        have hen := hV.1.2.1
        obtain ⟨X1, a1, a2, a3, a4, a5, a6, a7⟩ := sim_advX (r := r) hr hn hPb hV
        obtain ⟨o, g1, g2, g3⟩ := hsub X1 a1
        obtain ⟨m1', m2', m3, m4, m5, m6, m7⟩ := hA
        cases o with
        | inl q =>
          obtain ⟨q1, q2, q3, -⟩ := g1
          refine ⟨.inl q, ⟨q1, q2, q3, fun z => absurd m1' z⟩, fun f i M hf hi hM => ?_, fun f N hf hN => ?_⟩
          · obtain ⟨f, rfl⟩ : ∃ g, f = g + 1 + 1 := ⟨f - 2, by omega⟩
            refine hC1 (f + 1) i M X t _ hV hM hop0 (by omega) ((a6 M hM).mono (fun _ M2 ⟨b1, b2⟩ => (g2 M2 b1).mono (fun v M4 ⟨d1, d2⟩ => ?_)))
            obtain ⟨d3, d4⟩ := d1
            have hF4 := b2.trans d2
            have hP4 : PC1 M4 := hM.1.1.keep (fun o k _ => hF4.2.1 o k)
            refine ⟨(hF4.2.1 _ _).trans hM.2.1, (c_add_any hr hP4).mono (fun _ M6 ⟨e1, e2⟩ => ?_)⟩
            rw [d3, hCf f (i + 1) M6 (by omega)]
            exact Wp.ret ⟨⟨rfl, (e2 _).trans d4.1, (e2 _).trans d4.2⟩, hF4.trans e1⟩
          · obtain ⟨f, rfl⟩ : ∃ g, f = g + 1 + 1 := ⟨f - 2, by omega⟩
            refine hM1 (f + 1) N X t _ hV hN hop0 ((a7 N hN).mono (fun _ N2 ⟨b1, b2⟩ => (g3 N2 b1).mono (fun _ N4 ⟨d1, d2⟩ => ?_)))
            have hb := bad_of q1 q2 d1
            rw [m_lay_bad hb]
            refine Wp.ret ?_
            rw [hMb f N4 hb]
            exact Wp.ret ⟨d1, b2.trans d2⟩
        | inr X2 =>
          obtain ⟨p1, p2, p3, p4, p5, p6, p7⟩ := g1
          have hL2 : xL X2 + 1 ≤ xS X2 := by have := hV.2.1; omega
          have hs2n : xS X2 ≤ n := by have := p2.1.1; have := p2.1.2.1; omega
          have hV3 : VX P n (xAdd X2 t) := by
            obtain ⟨v1, v2, v3, v4, v5⟩ := p2
            refine ⟨v1, hL2, v3, fun i hi => ?_, fun i hi => ?_⟩
            · show okTok (if i = xL X2 then t else xC X2 i) = true
              have hi' : i < xL X2 + 1 := hi
              by_cases z : i = xL X2
              · rw [if_pos z]; exact o2
              · rw [if_neg z]; exact v4 i (by omega)
            · show 1000 ≤ (if i = xL X2 then t else xC X2 i) → (if i = xL X2 then t else xC X2 i) < 1009 → (xA X2).testBit ((if i = xL X2 then t else xC X2 i) - 1000) = true
              have hi' : i < xL X2 + 1 := hi
              by_cases z : i = xL X2
              · rw [if_pos z]; intro _ _; omega
              · rw [if_neg z]; exact v5 i (by omega)
          have hA3 : Acc P n (b + 1) X0 (xAdd X2 t) := by
            have hLx : xL (xAdd X2 t) = xL X2 + 1 := rfl
            have hSx : xS (xAdd X2 t) = xS X2 := rfl
            have hCx : ∀ i, i < xL X2 → xC (xAdd X2 t) i = xC X2 i := fun i hi => if_neg (by omega)
            have hCt : xC (xAdd X2 t) (xL X2) = t := if_pos rfl
            refine ⟨m1', hV3, by omega, by omega, by omega, fun i hi => ?_, fun h hh => ?_⟩
            · rw [hCx i (by omega), p6 i (by omega), a4, m6 i hi]
            · have s1 : hgR (xC (xAdd X2 t)) (xL X0) (xL X - xL X0) h = some (h + 1) := by
                rw [hgR_congr (c' := xC X) _ _ _ (fun i h1 h2 => by rw [hCx i (by omega), p6 i (by omega), a4])]
                exact m7 h hh
              have s2 : hgR (xC (xAdd X2 t)) (xL X) (xL X2 - xL X) (h + 1) = some (h + 2) := by
                rw [hgR_congr (c' := xC X2) _ _ _ (fun i h1 h2 => hCx i (by omega))]
                rw [← a3]
                exact p7 (h + 1) (by omega)
              have s3 : hgR (xC (xAdd X2 t)) (xL X2) 1 (h + 2) = some (h + 1) := by
                rw [hgR_one hCt o2, if_neg (by omega), if_neg o4, if_pos (by omega)]
                rfl
              rw [hLx]
              have e1 : xL X2 + 1 - xL X0 = (xL X - xL X0) + ((xL X2 - xL X) + 1) := by omega
              rw [e1]
              refine hgR_app _ _ _ s1 ?_
              rw [show xL X0 + (xL X - xL X0) = xL X by omega]
              refine hgR_app _ _ _ s2 ?_
              rw [show xL X + (xL X2 - xL X) = xL X2 by omega]
              exact s3
          obtain ⟨o', i1, i2, i3⟩ := ih X0 (xAdd X2 t) (by show n - xS X2 ≤ w; omega) hV3 hA3
          have hSx : xS (xAdd X2 t) = xS X2 := rfl
          rw [hSx] at i2 i3
          refine ⟨o', i1, fun f i M hf hi hM => ?_, fun f N hf hN => ?_⟩
          · obtain ⟨f, rfl⟩ : ∃ g, f = g + 1 := ⟨f - 1, by omega⟩
            refine hC1 f i M X t _ hV hM hop0 (by omega) ((a6 M hM).mono (fun _ M2 ⟨b1, b2⟩ => (g2 M2 b1).mono (fun v M4 ⟨d1, d2⟩ => ?_)))
            obtain ⟨d3, d4⟩ := d1
            refine ⟨d4.2.1, (c_addX hr d4 (by omega)).mono (fun _ M6 ⟨e1, e2⟩ => ?_)⟩
            rw [d3]
            exact (i2 f (i + 1) M6 (by omega) (by omega) e1).mono (fun x M7 ⟨f1, f2⟩ => ⟨f1, ((b2.trans d2).trans e2).trans f2⟩)
          · obtain ⟨f, rfl⟩ : ∃ g, f = g + 1 := ⟨f - 1, by omega⟩
            refine hM1 f N X t _ hV hN hop0 ((a7 N hN).mono (fun _ N2 ⟨b1, b2⟩ => (g3 N2 b1).mono (fun _ N4 ⟨d1, d2⟩ => ?_)))
            refine (m_layX d1 (by omega)).mono (fun _ N6 ⟨e1, e2⟩ => ?_)
            exact (i3 f N6 (by omega) e1).mono (fun x N7 ⟨f1, f2⟩ => ⟨f1, ((b2.trans d2).trans e2).trans f2⟩)
  intro X hV
  obtain ⟨o, g1, g2, g3⟩ := hsub X hV
  cases o with
  | inl q =>
    obtain ⟨f, hf⟩ := FU_succ
    obtain ⟨q1, q2, q3, q4⟩ := g1
    refine ⟨.inl q, ⟨q1, q2, q3, q4⟩, fun M hM => ?_, fun N hN => ?_⟩
    · refine Wp.bd ((g2 M hM).mono (fun v M2 ⟨d1, d2⟩ => ?_))
      rw [d1.1, hf, hCf f 0 M2 (by omega)]
      exact Wp.ret ⟨⟨rfl, d1.2⟩, d2⟩
    · refine Wp.bd ((g3 N hN).mono (fun _ N2 ⟨d1, d2⟩ => ?_))
      rw [hf, hMb f N2 (bad_of q1 q2 d1)]
      exact Wp.ret ⟨d1, d2⟩
  | inr X1 =>
    have hA : Acc P n b X X1 := g1
    obtain ⟨o', i1, i2, i3⟩ := loop (n - xS X1) X X1 (Nat.le_refl _) hA.2.1 (hA.mono (by omega))
    refine ⟨o', i1, fun M hM => ?_, fun N hN => ?_⟩
    · refine Wp.bd ((g2 M hM).mono (fun v M2 ⟨d1, d2⟩ => ?_))
      rw [d1.1]
      exact (i2 FU 0 M2 (by rw [FU_val]; omega) (Nat.zero_le _) d1.2).mono (fun x M3 ⟨f1, f2⟩ => ⟨f1, d2.trans f2⟩)
    · refine Wp.bd ((g3 N hN).mono (fun _ N2 ⟨d1, d2⟩ => ?_))
      exact (i3 FU N2 (by rw [FU_val]; omega) d1).mono (fun x N3 ⟨f1, f2⟩ => ⟨f1, d2.trans f2⟩)
