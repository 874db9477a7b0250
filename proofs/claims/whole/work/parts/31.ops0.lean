/-! ===== LEVEL 2: ranges, gates, what an operation owes ===== -/
theorem rg_cases (x : Int32) (m : Nat) : (∃ k, k ≤ m ∧ x = io k) ∨ (x < io 0 ∨ io m < x) ∨ 2147483648 ≤ m := by
  by_cases hm : m < 2147483648
  · by_cases h0 : io 0 ≤ x
    · have e := nn_io h0
      have hc := clamp_lt x
      by_cases h1 : x.toNatClampNeg ≤ m
      · exact Or.inl ⟨_, h1, e⟩
      · right; left; right
        rw [e, io_lt hm hc]
        omega
    · right; left; left
      exact Int32.not_le.mp h0
  · right; right; omega
theorem rg_le (x : Int32) (m : Nat) (hm : m < 2147483648) : (∃ k, k ≤ m ∧ x = io k) ∨ (x < io 0 ∨ io m < x) := by
  rcases rg_cases x m with h | h | h
  · exact Or.inl h
  · exact Or.inr h
  · omega
/-- between a and b -/
theorem rg_in (x : Int32) (a b : Nat) (hb : b < 2147483648) (ha : a ≤ b) : (∃ k, a ≤ k ∧ k ≤ b ∧ x = io k) ∨ (x < io a ∨ io b < x) := by
  rcases rg_le x b hb with ⟨k, h, rfl⟩ | h | h
  · by_cases c : a ≤ k
    · exact Or.inl ⟨k, c, h, rfl⟩
    · right; left
      rw [io_lt (by omega) (by omega)]
      omega
  · right; left
    rw [Int32.lt_iff_toInt_lt, io_toInt (by omega)] at h ⊢
    omega
  · exact Or.inr (Or.inr h)
theorem rg_lt (x : Int32) (n : Nat) (hn : n < 2147483648) : (∃ k, k < n ∧ x = io k) ∨ (x < io 0 ∨ io n ≤ x) := by
  rcases rg_le x n hn with ⟨k, h, rfl⟩ | h | h
  · by_cases c : k < n
    · exact Or.inl ⟨k, c, rfl⟩
    · right; right
      rw [io_le (by omega) (by omega)]
      omega
  · exact Or.inr (Or.inl h)
  · right; right
    rw [Int32.lt_iff_toInt_lt] at h
    rw [Int32.le_iff_toInt_le]
    omega
theorem io_not_lt0 {k : Nat} (h : k < 2147483648) : ¬ (io k < io 0) := by
  rw [io_lt h (by omega)]
  omega
theorem lt_le_false {x y : Int32} (h : x < y) : ¬ (y ≤ x) := by
  rw [Int32.lt_iff_toInt_lt] at h
  rw [Int32.le_iff_toInt_le]
  omega
theorem c_ask_in {k m : Nat} {M : Mem} (hk : k ≤ m) (hm : m < 2147483648) : zX11_askKnown (io k) (io m) M = some (.inl (), M) := by
  unfold zX11_askKnown
  rw [lit_0, if_neg (io_not_lt0 (by omega)), if_pos (by rw [io_le (by omega) hm]; exact hk)]
theorem c_ask_out {x : Int32} {m : Nat} {M : Mem} (h : x < io 0 ∨ io m < x) : zX11_askKnown x (io m) M = some (.inr 0, M) := by
  unfold zX11_askKnown zX11_askKnown_B9
  rw [lit_0]
  by_cases c : x < io 0
  · rw [if_pos c]
  · rw [if_neg c]
    rcases h with h | h
    · exact absurd h c
    · rw [if_neg (lt_le_false h)]
theorem c_askn_in {k n : Nat} {M : Mem} (hk : k < n) (hn : n < 2147483648) : zX11_askKnown (io k) (io n - io 1) M = some (.inl (), M) := by
  rw [io_sub (by omega)]
  exact c_ask_in (by omega) (by omega)
theorem le_pred {x : Int32} {n : Nat} (hn : n < 2147483648) (h : x < io 0 ∨ io n ≤ x) : x < io 0 ∨ ¬ (x ≤ io n - io 1) := by
  rcases h with h | h
  · exact Or.inl h
  · right
    intro q
    have h1 : (io 1 : Int32).toInt = 1 := by decide
    rw [Int32.le_iff_toInt_le, io_toInt hn] at h
    rw [Int32.le_iff_toInt_le, Int32.toInt_sub, io_toInt hn, h1, Int.bmod_def] at q
    split at q <;> omega
theorem c_askn_out {x : Int32} {n : Nat} {M : Mem} (h : x < io 0 ∨ io n ≤ x) (hn : n < 2147483648) : zX11_askKnown x (io n - io 1) M = some (.inr 0, M) := by
  unfold zX11_askKnown zX11_askKnown_B9
  rw [lit_0]
  rcases le_pred hn h with q | q
  · rw [if_pos q]
  · by_cases c : x < io 0
    · rw [if_pos c]
    · rw [if_neg c, if_neg q]
theorem c_range_in {k a b : Nat} {M : Mem} (h1 : a ≤ k) (h2 : k ≤ b) (hb : b < 2147483648) : zX11_askRange (io k) (io a) (io b) M = some (.inl (), M) := by
  unfold zX11_askRange
  rw [if_neg (by rw [io_lt (by omega) (by omega)]; omega), if_pos (by rw [io_le (by omega) (by omega)]; exact h2)]
theorem c_range_out {x : Int32} {a b : Nat} {M : Mem} (h : x < io a ∨ io b < x) : zX11_askRange x (io a) (io b) M = some (.inr 1, M) := by
  unfold zX11_askRange zX11_askRange_B10
  by_cases c : x < io a
  · rw [if_pos c]
  · rw [if_neg c]
    rcases h with h | h
    · exact absurd h c
    · rw [if_neg (lt_le_false h)]
theorem m_isIn_in {k a b : Nat} {M : Mem} (h1 : a ≤ k) (h2 : k ≤ b) (hb : b < 2147483648) : zX12_isIn (io k) (io a) (io b) M = some (io 1, M) := by
  unfold zX12_isIn
  rw [if_neg (by rw [io_lt (by omega) (by omega)]; omega), if_neg (by rw [io_lt (by omega) (by omega)]; omega)]
  rfl
theorem m_isIn_out {x : Int32} {a b : Nat} {M : Mem} (h : x < io a ∨ io b < x) : zX12_isIn x (io a) (io b) M = some (io 0, M) := by
  unfold zX12_isIn
  by_cases c : x < io a
  · rw [if_pos c]; rfl
  · rw [if_neg c]
    rcases h with h | h
    · exact absurd h c
    · rw [if_pos h]; rfl
theorem m_isInn_in {k n : Nat} {M : Mem} (hk : k < n) (hn : n < 2147483648) : zX12_isIn (io k) (io 0) (io n - io 1) M = some (io 1, M) := by
  rw [io_sub (by omega)]
  exact m_isIn_in (by omega) (by omega) (by omega)
theorem m_isInn_out {x : Int32} {n : Nat} {M : Mem} (h : x < io 0 ∨ io n ≤ x) (hn : n < 2147483648) : zX12_isIn x (io 0) (io n - io 1) M = some (io 0, M) := by
  unfold zX12_isIn
  rcases le_pred hn h with q | q
  · rw [if_pos q]; rfl
  · by_cases c : x < io 0
    · rw [if_pos c]; rfl
    · rw [if_neg c, if_pos (Int32.not_le.mp q)]; rfl
theorem m_isGate_in {g : Nat} {M : Mem} (hg : g < 2) : zX12_isGate (io g) M = some (io 1, M) := by
  have e := m_isIn_in (M := M) (show 0 ≤ g by omega) (show g ≤ 1 by omega) (by omega)
  unfold zX12_isGate
  simp -dsimp (disch := first | assumption | omega) only [lit_0, lit_1, lit_2, lit_3, lit_4, lit_5, lit_6, lit_7, lit_8, lit_9, lit_10, lit_11, lit_12, lit_13, lit_14, lit_15, lit_16, lit_17, lit_18, lit_19, lit_20, lit_21, lit_22, lit_23, lit_24, lit_25, lit_26, lit_27, lit_28, lit_29, lit_30, lit_31, lit_32, lit_33, lit_34, lit_35, lit_36, lit_37, lit_38, lit_39, lit_40, lit_41, lit_42, lit_43, lit_44, lit_45, lit_46, lit_47, lit_48, lit_49, lit_50, lit_51, lit_52, lit_53, lit_54, lit_55, lit_56, lit_57, lit_58, lit_59, lit_60, lit_61, lit_62, lit_63, lit_64, lit_97, lit_99, lit_100, lit_122, lit_175, lit_176, lit_200, lit_255, lit_400, lit_700, lit_800, lit_999, lit_1000, lit_1400, lit_2000, lit_2033, lit_2038, lit_2100, lit_2124, lit_8000, lit_10000, lit_12345, lit_32767, lit_1000000, lit_1000000000, ↓bndX_h, ↓bndK_h, bxh_inl, bxh_inr, bkh_inl, bkh_inr, Nat.reduceEqDiff, ↓bnd_h, ↓lt_h, ↓ite_h, bh_some, lh_eq, ih_T, ih_F, ne_eq, not_false_eq_true, not_true_eq_false, eq_self, and_true, true_and, io_def, e, or_true]
theorem m_isGate_out {x : Int32} {M : Mem} (h : x < io 0 ∨ io 1 < x) : zX12_isGate x M = some (io 0, M) := by
  have e := m_isIn_out (M := M) h
  unfold zX12_isGate
  simp -dsimp (disch := first | assumption | omega) only [lit_0, lit_1, lit_2, lit_3, lit_4, lit_5, lit_6, lit_7, lit_8, lit_9, lit_10, lit_11, lit_12, lit_13, lit_14, lit_15, lit_16, lit_17, lit_18, lit_19, lit_20, lit_21, lit_22, lit_23, lit_24, lit_25, lit_26, lit_27, lit_28, lit_29, lit_30, lit_31, lit_32, lit_33, lit_34, lit_35, lit_36, lit_37, lit_38, lit_39, lit_40, lit_41, lit_42, lit_43, lit_44, lit_45, lit_46, lit_47, lit_48, lit_49, lit_50, lit_51, lit_52, lit_53, lit_54, lit_55, lit_56, lit_57, lit_58, lit_59, lit_60, lit_61, lit_62, lit_63, lit_64, lit_97, lit_99, lit_100, lit_122, lit_175, lit_176, lit_200, lit_255, lit_400, lit_700, lit_800, lit_999, lit_1000, lit_1400, lit_2000, lit_2033, lit_2038, lit_2100, lit_2124, lit_8000, lit_10000, lit_12345, lit_32767, lit_1000000, lit_1000000000, ↓bndX_h, ↓bndK_h, bxh_inl, bxh_inr, bkh_inl, bkh_inr, Nat.reduceEqDiff, ↓bnd_h, ↓lt_h, ↓ite_h, bh_some, lh_eq, ih_T, ih_F, ne_eq, not_false_eq_true, not_true_eq_false, eq_self, and_true, true_and, io_def, e, true_or]
theorem m_fail {x : Int32} {M : Mem} : zX12_fail 72 x M = some (io 0, sI M 72 2 x) := rfl
/-! gates -/
theorem K0_gid {g : Nat} : K0 (gid g) = (0, 4) := by unfold gid; split <;> rfl
theorem gid_ne {g : Nat} : (gid g = 0) = False := by unfold gid; split <;> simp
theorem K0_bid {g : Nat} : K0 (bid g) = (0, 0) := by unfold bid; split <;> rfl
theorem bid_ne {g : Nat} : (bid g = 0) = False := by unfold bid; split <;> simp
theorem K0_bid1 {g : Nat} : K0 (bid g + 1) = (1, 200) := by unfold bid; split <;> rfl
theorem K0_bid2 {g : Nat} : K0 (bid g + 2) = (1, 32) := by unfold bid; split <;> rfl
theorem K0_kid {g : Nat} : K0 (kid g) = (0, 0) := by unfold kid; split <;> rfl
theorem kid_ne {g : Nat} : (kid g = 0) = False := by unfold kid; split <;> simp
theorem K0_kid1 {g : Nat} : K0 (kid g + 1) = (1, 200) := by unfold kid; split <;> rfl
theorem K0_kid2 {g : Nat} : K0 (kid g + 2) = (1, 32) := by unfold kid; split <;> rfl
theorem GP.r1 {g : Nat} {M : Mem} (h : PC1 M) : mR M (gid g) 1 = bid g := by unfold gid bid; split; exact h.p11_1; exact h.p25_1
theorem GP.r2 {g : Nat} {M : Mem} (h : PC1 M) : mR M (gid g) 2 = kid g := by unfold gid kid; split; exact h.p11_2; exact h.p25_2
theorem GP.b5 {g : Nat} {M : Mem} (h : PC1 M) : mR M (bid g) 5 = bid g + 1 := by unfold bid; split; exact h.p19_5; exact h.p33_5
theorem GP.b6 {g : Nat} {M : Mem} (h : PC1 M) : mR M (bid g) 6 = bid g + 2 := by unfold bid; split; exact h.p19_6; exact h.p33_6
theorem GP.k5 {g : Nat} {M : Mem} (h : PC1 M) : mR M (kid g) 5 = kid g + 1 := by unfold kid; split; exact h.p22_5; exact h.p36_5
theorem GP.k6 {g : Nat} {M : Mem} (h : PC1 M) : mR M (kid g) 6 = kid g + 2 := by unfold kid; split; exact h.p22_6; exact h.p36_6
theorem RI.r0 {g : Nat} {M : Mem} {R : Nat → Nat} (hg : g < 2) (h : RI M R) : mR M (gid g) 0 = R g := by
  unfold gid
  have : g = 0 ∨ g = 1 := by omega
  rcases this with rfl | rfl
  · exact h.1
  · exact h.2.1
theorem RI.ru {g : Nat} {M : Mem} {R : Nat → Nat} (hg : g < 2) (h : RI M R) : isRu (R g) := by
  have : g = 0 ∨ g = 1 := by omega
  rcases this with rfl | rfl
  · exact h.2.2.2.1
  · exact h.2.2.2.2.1
theorem PC1.PR {M : Mem} {r : Nat} (h : PC1 M) (hr : isRu r) : PR M r := by
  rcases hr with rfl | rfl | rfl
  · exact ⟨h.p4_7, h.p4_8, h.p4_9, h.p4_10, h.p4_11, h.p4_12⟩
  · exact ⟨h.p12_7, h.p12_8, h.p12_9, h.p12_10, h.p12_11, h.p12_12⟩
  · exact ⟨h.p26_7, h.p26_8, h.p26_9, h.p26_10, h.p26_11, h.p26_12⟩
theorem isSe_of {r : Nat} (hr : isRu r) : isSe (r + 6) := by
  rcases hr with rfl | rfl | rfl
  · exact Or.inl rfl
  · exact Or.inr (Or.inl rfl)
  · exact Or.inr (Or.inr (Or.inl rfl))
theorem c_gateOf {g : Nat} {M : Mem} (hg : g < 2) (h : PC1 M) : zX11_gateOf 1 (io g) M = some (.inl (gid g), M) := by
  have e := c_ask_in (M := M) (show g ≤ 1 by omega) (by omega)
  have : g = 0 ∨ g = 1 := by omega
  unfold zX11_gateOf gid
  rcases this with rfl | rfl <;> simp -dsimp (disch := first | assumption | omega) only [lit_0, lit_1, lit_2, lit_3, lit_4, lit_5, lit_6, lit_7, lit_8, lit_9, lit_10, lit_11, lit_12, lit_13, lit_14, lit_15, lit_16, lit_17, lit_18, lit_19, lit_20, lit_21, lit_22, lit_23, lit_24, lit_25, lit_26, lit_27, lit_28, lit_29, lit_30, lit_31, lit_32, lit_33, lit_34, lit_35, lit_36, lit_37, lit_38, lit_39, lit_40, lit_41, lit_42, lit_43, lit_44, lit_45, lit_46, lit_47, lit_48, lit_49, lit_50, lit_51, lit_52, lit_53, lit_54, lit_55, lit_56, lit_57, lit_58, lit_59, lit_60, lit_61, lit_62, lit_63, lit_64, lit_97, lit_99, lit_100, lit_122, lit_175, lit_176, lit_200, lit_255, lit_400, lit_700, lit_800, lit_999, lit_1000, lit_1400, lit_2000, lit_2033, lit_2038, lit_2100, lit_2124, lit_8000, lit_10000, lit_12345, lit_32767, lit_1000000, lit_1000000000, ↓bndX_h, ↓bndK_h, bxh_inl, bxh_inr, bkh_inl, bkh_inr, Nat.reduceEqDiff, ↓bnd_h, ↓lt_h, ↓ite_h, bh_some, lh_eq, ih_T, ih_F, ne_eq, not_false_eq_true, not_true_eq_false, eq_self, and_true, true_and, io_def, io_add, io_mul, io_sub, io_lt, io_le, io_eq, io_clamp, io_inbT, io_div, io_mod, io_m1, m1_io, m1_lt, m1_le, neg_1, gI_m1, K0_1, e, PC1.p1_1, PC1.p1_2, if_true, if_false]
theorem c_gateOf_out {x : Int32} {M : Mem} (h : x < io 0 ∨ io 1 < x) : zX11_gateOf 1 x M = some (.inr 0, M) := by
  unfold zX11_gateOf
  simp -dsimp (disch := first | assumption | omega) only [lit_0, lit_1, lit_2, lit_3, lit_4, lit_5, lit_6, lit_7, lit_8, lit_9, lit_10, lit_11, lit_12, lit_13, lit_14, lit_15, lit_16, lit_17, lit_18, lit_19, lit_20, lit_21, lit_22, lit_23, lit_24, lit_25, lit_26, lit_27, lit_28, lit_29, lit_30, lit_31, lit_32, lit_33, lit_34, lit_35, lit_36, lit_37, lit_38, lit_39, lit_40, lit_41, lit_42, lit_43, lit_44, lit_45, lit_46, lit_47, lit_48, lit_49, lit_50, lit_51, lit_52, lit_53, lit_54, lit_55, lit_56, lit_57, lit_58, lit_59, lit_60, lit_61, lit_62, lit_63, lit_64, lit_97, lit_99, lit_100, lit_122, lit_175, lit_176, lit_200, lit_255, lit_400, lit_700, lit_800, lit_999, lit_1000, lit_1400, lit_2000, lit_2033, lit_2038, lit_2100, lit_2124, lit_8000, lit_10000, lit_12345, lit_32767, lit_1000000, lit_1000000000, ↓bndX_h, ↓bndK_h, bxh_inl, bxh_inr, bkh_inl, bkh_inr, Nat.reduceEqDiff, ↓bnd_h, ↓lt_h, ↓ite_h, bh_some, lh_eq, ih_T, ih_F, ne_eq, not_false_eq_true, not_true_eq_false, eq_self, and_true, true_and, io_def, K0_1, c_ask_out h]
/-! frames of the two sides -/
theorem ICp.keep2 {M M' : Mem} {R : Nat → Nat} {V : VV} (h : ICp M R V) (hI0 : ∀ o k, o ≤ 40 → (o ≠ 1 ∨ k = 5 ∨ k = 6) → mI M' o k = mI M o k) (hR : ∀ o k, o ≤ 40 → mR M' o k = mR M o k) : ICp M' R V := by
  obtain ⟨h1, h2, h3, h4, h5, h6, h7, h8, h9⟩ := h
  have hI : ∀ o k, o ≤ 40 → o ≠ 1 → mI M' o k = mI M o k := fun o k q1 q2 => hI0 o k q1 (Or.inl q2)
  have hru : ∀ g, g < 2 → isRu (R g) := fun g hg => h2.ru hg
  refine ⟨fun t ht => ?_, ?_, fun g hg => ?_, ?_, fun i hi => ?_, fun q i hi => ?_, ?_, fun k hk => ?_, ?_⟩
  · have : ∀ t ∈ PTc1, t.1 ≤ 40 := by decide
    rw [hR _ _ (this t ht)]
    exact h1 t ht
  · simpa only [RI, hR 11 _ (by omega), hR 25 _ (by omega), hR 2 _ (by omega)] using h2
  · obtain ⟨a1, a2, a3, a4⟩ := h3 g hg
    have hr : ∀ j, j ≤ 6 → ∀ k, mI M' (R g + j) k = mI M (R g + j) k := fun j hj k => hI _ _ (by rcases hru g hg with e | e | e <;> omega) (by rcases hru g hg with e | e | e <;> omega)
    have hr0 : ∀ k, mI M' (R g) k = mI M (R g) k := hr 0 (by omega)
    have hb : ∀ j, j ≤ 2 → ∀ k, mI M' (bid g + j) k = mI M (bid g + j) k := fun j hj k => hI _ _ (by unfold bid; split <;> omega) (by unfold bid; split <;> omega)
    have hb0 : ∀ k, mI M' (bid g) k = mI M (bid g) k := hb 0 (by omega)
    have hk : ∀ j, j ≤ 2 → ∀ k, mI M' (kid g + j) k = mI M (kid g + j) k := fun j hj k => hI _ _ (by unfold kid; split <;> omega) (by unfold kid; split <;> omega)
    have hk0 : ∀ k, mI M' (kid g) k = mI M (kid g) k := hk 0 (by omega)
    refine ⟨?_, ?_, ?_, fun q => ?_⟩
    · simpa only [CG, hr0, hr 1 (by omega), hr 2 (by omega), hr 3 (by omega), hr 4 (by omega), hr 5 (by omega)] using a1
    · simpa only [CS, hr 6 (by omega)] using a2
    · simpa only [CB, hb0, hb 1 (by omega), hb 2 (by omega)] using a3
    · simpa only [CB, hk0, hk 1 (by omega), hk 2 (by omega)] using a4 q
  · rw [hI0 _ _ (by omega) (by omega)]; exact h4
  · rw [hI _ _ (by omega) (by omega)]; exact h5 i hi
  · rw [hI _ _ (by omega) (by omega)]; exact h6 q i hi
  · rw [hI _ _ (by omega) (by omega)]; exact h7
  · rw [hI _ _ (by omega) (by omega)]; exact h8 k hk
  · exact ⟨by rw [hI0 _ _ (by omega) (by omega)]; exact h9.1, fun r hr => by rw [hI0 _ _ (by rcases hr with rfl | rfl | rfl <;> omega) (by rcases hr with rfl | rfl | rfl <;> omega)]; exact h9.2 r hr⟩
theorem ICp.keep {M M' : Mem} {R : Nat → Nat} {V : VV} (h : ICp M R V) (hI : ∀ o k, o ≤ 40 → mI M' o k = mI M o k) (hR : ∀ o k, o ≤ 40 → mR M' o k = mR M o k) : ICp M' R V :=
  h.keep2 (fun o k q _ => hI o k q) hR
theorem ICp.keepF {M M' : Mem} {R : Nat → Nat} {V : VV} {p q : List (Nat × Nat)} (h : ICp M R V) (hF : Fg p q M M') (hp : ∀ o, o ≤ 40 → ob p o = true ∧ ob q o = true) : ICp M' R V :=
  h.keep (fun o k ho => hF.I (hp o ho).1) (fun o k ho => hF.R (hp o ho).2)
theorem IM.keep {M M' : Mem} {V : VV} (h : IM M V) (hI : ∀ o k, 72 ≤ o → o ≤ 110 → (o < 92 ∨ 103 ≤ o) → (o ≠ 72 ∨ k = 49 ∨ k = 20 ∨ k = 29) → mI M' o k = mI M o k) (hR : ∀ o k, 72 ≤ o → mR M' o k = mR M o k) : IM M' V := by
  obtain ⟨h1, h2, h3, h4, h5, h6, h7, h8⟩ := h
  refine ⟨fun t ht => ?_, fun g hg => ?_, ?_, fun i hi => ?_, fun q i hi => ?_, ?_, fun k hk => ?_, ?_⟩
  · have : ∀ t ∈ PTm, 72 ≤ t.1 := by decide
    rw [hR _ _ (this t ht)]
    exact h1 t ht
  · obtain ⟨a1, a2, a3, a4⟩ := h2 g hg
    have e : ∀ o, 73 ≤ o → o ≤ 110 → (o < 92 ∨ 103 ≤ o) → ∀ k, mI M' o k = mI M o k := fun o h1 h2 h3 k => hI o k (by omega) h2 h3 (Or.inl (by omega))
    refine ⟨a1.keep (fun o q1 q2 k => e o (by omega) (by omega) (by omega) k), ?_, ?_, fun q => ?_⟩
    · simpa only [MS, e 76 (by omega) (by omega) (by omega)] using a2
    · simpa only [MBk, Nat.reduceAdd, e 83 (by omega) (by omega) (by omega), e 84 (by omega) (by omega) (by omega), e 85 (by omega) (by omega) (by omega), e 86 (by omega) (by omega) (by omega), e 87 (by omega) (by omega) (by omega), e 88 (by omega) (by omega) (by omega), e 89 (by omega) (by omega) (by omega)] using a3
    · simpa only [MBk, Nat.reduceAdd, e 103 (by omega) (by omega) (by omega), e 104 (by omega) (by omega) (by omega), e 105 (by omega) (by omega) (by omega), e 106 (by omega) (by omega) (by omega), e 107 (by omega) (by omega) (by omega), e 108 (by omega) (by omega) (by omega), e 109 (by omega) (by omega) (by omega)] using a4 q
  · rw [hI _ _ (by omega) (by omega) (by omega) (by omega)]; exact h3
  · rw [hI _ _ (by omega) (by omega) (by omega) (by omega)]; exact h4 i hi
  · rw [hI _ _ (by omega) (by omega) (by omega) (by omega)]; exact h5 q i hi
  · rw [hI _ _ (by omega) (by omega) (by omega) (by omega)]; exact h6
  · rw [hI _ _ (by omega) (by omega) (by omega) (by omega)]; exact h7 k hk
  · rw [hI _ _ (by omega) (by omega) (by omega) (by omega)]; exact h8
/-- what lies outside of 92 to 102 has stayed, but for a code -/
theorem IM.keepF {M M' : Mem} {V : VV} {p : List (Nat × Nat)} (h : IM M V) (hF : Fg p [] M M') (hp : ∀ o, 72 ≤ o → o ≤ 110 → (o < 92 ∨ 103 ≤ o) → ob p o = true) : IM M' V :=
  h.keep (fun o k h1 h2 h3 _ => hF.I (hp o h1 h2 h3)) (fun o k _ => hF.2.2 o rfl k)
theorem IM.code {M : Mem} {V : VV} {x : Int32} (h : IM M V) : IM (sI M 72 2 x) V :=
  h.keep (fun o k _ _ _ h4 => by rw [mI_sI, if_neg (by omega)]) (fun o k _ => rfl)
theorem ICs.keep {M M' : Mem} (h : ICs M) (hI : ∀ o k, 41 ≤ o → o ≤ 70 → mI M' o k = mI M o k) (hR : ∀ o k, 41 ≤ o → o ≤ 71 → mR M' o k = mR M o k) : ICs M' := by
  obtain ⟨h1, h2, h3, ⟨c1, h4⟩, ⟨c2, h5⟩, ⟨c3, h6⟩, ⟨c4, h7⟩⟩ := h
  refine ⟨fun t ht => ?_, ?_, ?_, ⟨c1, ?_⟩, ⟨c2, ?_⟩, ⟨c3, ?_⟩, ⟨c4, ?_⟩⟩
  · have : ∀ t ∈ PTc2, 41 ≤ t.1 ∧ t.1 ≤ 71 := by decide
    rw [hR _ _ (this t ht).1 (this t ht).2]
    exact h1 t ht
  · rw [hR 45 1 (by omega) (by omega), hR 45 2 (by omega) (by omega)]; exact h2
  · rw [hR 52 2 (by omega) (by omega), hR 52 3 (by omega) (by omega)]; exact h3
  · simpa only [CaI, hI 46 _ (by omega) (by omega), Nat.reduceAdd, hI 47 _ (by omega) (by omega), hI 48 _ (by omega) (by omega)] using h4
  · simpa only [CaI, hI 49 _ (by omega) (by omega), Nat.reduceAdd, hI 50 _ (by omega) (by omega), hI 51 _ (by omega) (by omega)] using h5
  · simpa only [CaI, hI 53 _ (by omega) (by omega), Nat.reduceAdd, hI 54 _ (by omega) (by omega), hI 55 _ (by omega) (by omega)] using h6
  · simpa only [CaI, hI 56 _ (by omega) (by omega), Nat.reduceAdd, hI 57 _ (by omega) (by omega), hI 58 _ (by omega) (by omega)] using h7
/-- the two answers agree: r the class's, y and the code c the reference's -/
def agree (r : Int32 ⊕ Nat) (y c : Int32) : Prop := match r with
  | .inl x => c = io 0 ∧ y = x
  | .inr e => (e = 0 ∧ c = io 1) ∨ (e = 1 ∧ c = io 2)
def errLe {α : Type} (r : α ⊕ Nat) (E : Nat) : Prop := match r with
  | .inl _ => True
  | .inr e => e ≤ E
def agreeU (r : Unit ⊕ Nat) (c : Int32) : Prop := match r with
  | .inl _ => c = io 0
  | .inr e => (e = 0 ∧ c = io 1) ∨ (e = 1 ∧ c = io 2)
def OpR (E : Nat) (F : Mem → Option ((Int32 ⊕ Nat) × Mem)) (G : Mem → Option (Int32 × Mem)) : Prop := ∀ M R V, okV V → ICp M R V → ICs M → ∃ R' V' r, okV V' ∧ errLe r E ∧ Wp (F M) (fun x M1 => x = r ∧ ICp M1 R' V' ∧ ICs M1 ∧ Fg [(1, 71)] [(1, 71)] M M1) ∧ ∀ N, IM N V → Wp (G N) (fun y N1 => agree r y (mI N1 72 2) ∧ IM N1 V' ∧ Fg [(72, 110)] [] N N1)
def OpU (E : Nat) (F : Mem → Option ((Unit ⊕ Nat) × Mem)) (G : Mem → Option (Unit × Mem)) : Prop := ∀ M R V, okV V → ICp M R V → ICs M → ∃ R' V' r, okV V' ∧ errLe r E ∧ Wp (F M) (fun x M1 => x = r ∧ ICp M1 R' V' ∧ ICs M1 ∧ Fg [(1, 71)] [(1, 71)] M M1) ∧ ∀ N, IM N V → Wp (G N) (fun _ N1 => agreeU r (mI N1 72 2) ∧ IM N1 V' ∧ Fg [(72, 110)] [] N N1)
def OpI {α : Type} (F G : Mem → Option (α × Mem)) : Prop := ∀ M R V, okV V → ICp M R V → ICs M → ∃ R' V' r, okV V' ∧ Wp (F M) (fun x M1 => x = r ∧ ICp M1 R' V' ∧ ICs M1 ∧ Fg [(1, 71)] [(1, 71)] M M1) ∧ ∀ N, IM N V → Wp (G N) (fun y N1 => y = r ∧ IM N1 V' ∧ Fg [(72, 110)] [] N N1)
theorem ob_1 {o : Nat} (h : o < 1 ∨ 71 < o) : ob [(1, 71)] o = true := by
  simp only [ob, Bool.and_true, Bool.or_eq_true, decide_eq_true_eq]
  exact h
theorem ob_72 {o : Nat} (h : o < 72 ∨ 110 < o) : ob [(72, 110)] o = true := by
  simp only [ob, Bool.and_true, Bool.or_eq_true, decide_eq_true_eq]
  exact h
theorem IM.side {M M1 : Mem} {V : VV} (h : IM M V) (hF : Fg [(1, 71)] [(1, 71)] M M1) : IM M1 V :=
  h.keep (fun o k h1 _ _ _ => hF.I (ob_1 (by omega))) (fun o k h1 => hF.R (ob_1 (by omega)))
theorem IM.out {M : Mem} {V : VV} {k : Nat} {z : Int64} (h : IM M V) : IM (sL M 111 k z) V := h
theorem Inv.of {M N : Mem} {R : Nat → Nat} {V : VV} (hV : okV V) (h1 : ICp M R V) (h2 : ICs M) (h3 : IM N V) (hF : Fg [(72, 110)] [] M N) : Inv N :=
  ⟨R, V, hV, h1.keepF hF (fun o ho => ⟨ob_72 (by omega), rfl⟩), h2.keep (fun o k _ _ => hF.I (ob_72 (by omega))) (fun o k _ _ => hF.2.2 o rfl k), h3⟩
theorem lg_self (z : Int64) : lg_cmp z z = io 0 := by
  unfold lg_cmp
  rw [if_neg (by rw [gt_iff_lt, Int64.lt_iff_toInt_lt]; omega), if_pos rfl]
  rfl
theorem m_thrown {M : Mem} : zX12_thrown 72 M = some (mI M 72 2, M) := rfl
