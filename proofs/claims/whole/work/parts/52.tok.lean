/-! ===== LEVEL 2: gate: TOKENS ===== -/
/-- only slots l of the object o have changed -/
def On (o : Nat) (l : List Nat) (M M' : Mem) : Prop := (∀ p j, (p ≠ o ∨ j ∉ l) → mI M' p j = mI M p j) ∧ (∀ p j, mR M' p j = mR M p j) ∧ ∀ p j, mL M' p j = mL M p j
theorem On.refl {o : Nat} {l : List Nat} {M : Mem} : On o l M M := ⟨fun _ _ _ => rfl, fun _ _ => rfl, fun _ _ => rfl⟩
theorem On.trans {o : Nat} {l : List Nat} {M M1 M2 : Mem} (h : On o l M M1) (h' : On o l M1 M2) : On o l M M2 :=
  ⟨fun p j a => (h'.1 p j a).trans (h.1 p j a), fun p j => (h'.2.1 p j).trans (h.2.1 p j), fun p j => (h'.2.2 p j).trans (h.2.2 p j)⟩
theorem On.sI {o k : Nat} {l : List Nat} {M M' : Mem} {v : Int32} (h : On o l M M') (hk : k ∈ l) : On o l M (sI M' o k v) :=
  ⟨fun p j a => by
    rw [mI_sI, if_neg (fun z => by rcases a with a | a; exact a z.1; exact a (z.2 ▸ hk))]
    exact h.1 p j a, h.2.1, h.2.2⟩
theorem On.sub {o : Nat} {l l' : List Nat} {M M' : Mem} (h : On o l M M') (hl : ∀ j, j ∈ l → j ∈ l') : On o l' M M' :=
  ⟨fun p j a => h.1 p j (a.elim Or.inl (fun q => Or.inr (fun z => q (hl j z)))), h.2.1, h.2.2⟩
theorem mI_same {M : Mem} {o k : Nat} {v : Int32} : mI (sI M o k v) o k = v := by rw [mI_sI, if_pos ⟨rfl, rfl⟩]
theorem mI_diff {M : Mem} {o k p j : Nat} {v : Int32} (h : p ≠ o ∨ j ≠ k) : mI (sI M o k v) p j = mI M p j := by rw [mI_sI, if_neg (by omega)]
theorem at_any {o n : Nat} {x : Int32} {M : Mem} (hK : K0 o = (1, n)) (hn : n ≤ 100000) : ∃ v, zX11_at o x M = some (v, M) := by
  rcases rg_lt x n (by omega) with ⟨k, hk, rfl⟩ | h
  · exact ⟨_, at_io hK hk hn⟩
  · refine ⟨io 0, ?_⟩
    unfold zX11_at
    rw [lit_0]
    by_cases c : x < io 0
    · rw [if_pos c]
    · rw [if_neg c, hK]
      rcases h with h | h
      · exact absurd h c
      · rw [if_pos rfl, if_pos (show Int32.ofNat (1, n).2 ≤ x from h)]
theorem put_any {o n : Nat} {x v : Int32} {M : Mem} (hK : K0 o = (1, n)) (hn : n ≤ 100000) : ∃ M', zX11_put o x v M = some ((), M') ∧ (∀ p j, p ≠ o → mI M' p j = mI M p j) ∧ (∀ p j, mR M' p j = mR M p j) ∧ ∀ p j, mL M' p j = mL M p j := by
  rcases rg_lt x n (by omega) with ⟨k, hk, rfl⟩ | h
  · exact ⟨_, put_io hK hk hn, fun p j h => mI_diff (Or.inl h), fun _ _ => rfl, fun _ _ => rfl⟩
  · refine ⟨M, ?_, fun _ _ _ => rfl, fun _ _ => rfl, fun _ _ => rfl⟩
    unfold zX11_put
    rw [lit_0]
    by_cases c : x < io 0
    · rw [if_pos c]
    · rw [if_neg c, hK]
      rcases h with h | h
      · exact absurd h c
      · rw [if_pos rfl, if_pos (show Int32.ofNat (1, n).2 ≤ x from h)]
/-- from p on all hold B, up to q, where it holds no more or the end is -/
theorem ex_until (B : Nat → Bool) (n : Nat) : ∀ w p, n - p ≤ w → p ≤ n → ∃ q, p ≤ q ∧ q ≤ n ∧ (∀ j, p ≤ j → j < q → B j = true) ∧ (q = n ∨ (q < n ∧ B q = false))
  | 0, p, hw, hp => ⟨p, Nat.le_refl _, hp, fun j h1 h2 => by omega, Or.inl (by omega)⟩
  | w + 1, p, hw, hp => by
    by_cases c : p = n
    · exact ⟨p, Nat.le_refl _, hp, fun j h1 h2 => by omega, Or.inl c⟩
    · cases hb : B p with
      | false => exact ⟨p, Nat.le_refl _, hp, fun j h1 h2 => by omega, Or.inr ⟨by omega, hb⟩⟩
      | true =>
        obtain ⟨q, h1, h2, h3, h4⟩ := ex_until B n w (p + 1) (by omega) (by omega)
        refine ⟨q, by omega, h2, fun j h5 h6 => ?_, h4⟩
        by_cases z : j = p
        · rw [z]; exact hb
        · exact h3 j (by omega) h6
/-! bytes -/
def blB (b : Nat) : Bool := decide (b = 32) || decide (b = 10)
def ltB (b : Nat) : Bool := decide (97 ≤ b) && decide (b ≤ 122)
def dgB (b : Nat) : Bool := decide (48 ≤ b) && decide (b ≤ 57)
def mkB (b : Nat) : Bool := decide (b = 59) || (decide (b = 40) || (decide (b = 41) || (decide (b = 43) || (decide (b = 45) || (decide (b = 42) || (decide (b = 47) || (decide (b = 60) || decide (b = 61))))))))
def bI (x : Bool) : Int32 := io (if x = true then 1 else 0)
theorem bI_t : bI true = io 1 := rfl
theorem bI_f : bI false = io 0 := rfl
theorem c_isBlank {b : Nat} {M : Mem} (hb : b < 256) : zX6_isBlank (io b) M = some (bI (blB b), M) := by
  refine Wp.eq ?_
  unfold zX6_isBlank zX6_isBlank_B12 blB
  simp -dsimp (disch := first | assumption | omega) only [lit_0, lit_1, lit_2, lit_3, lit_4, lit_5, lit_6, lit_7, lit_8, lit_9, lit_10, lit_11, lit_12, lit_13, lit_14, lit_15, lit_16, lit_17, lit_18, lit_19, lit_20, lit_21, lit_22, lit_23, lit_24, lit_25, lit_26, lit_27, lit_28, lit_29, lit_30, lit_31, lit_32, lit_33, lit_34, lit_35, lit_36, lit_37, lit_38, lit_39, lit_40, lit_41, lit_42, lit_43, lit_44, lit_45, lit_46, lit_47, lit_48, lit_49, lit_50, lit_51, lit_52, lit_53, lit_54, lit_55, lit_56, lit_57, lit_58, lit_59, lit_60, lit_61, lit_62, lit_63, lit_64, lit_97, lit_99, lit_100, lit_122, lit_175, lit_176, lit_200, lit_255, lit_400, lit_700, lit_800, lit_999, lit_1000, lit_1400, lit_2000, lit_2033, lit_2038, lit_2100, lit_2124, lit_8000, lit_10000, lit_12345, lit_32767, lit_1000000, lit_1000000000, ↓bndX_h, ↓bndK_h, bxh_inl, bxh_inr, bkh_inl, bkh_inr, Nat.reduceEqDiff, ↓bnd_h, ↓lt_h, ↓ite_h, bh_some, lh_eq, ih_T, ih_F, ne_eq, not_false_eq_true, not_true_eq_false, eq_self, and_true, true_and, io_def, io_add, io_mul, io_sub, io_lt, io_le, io_eq, io_clamp, io_inbT, io_div, io_mod, io_m1, m1_io, m1_lt, m1_le, neg_1, gI_m1]
  refine Wp.csh (fun c => ?_) (fun c => ?_)
  · rw [decide_eq_true c]; exact Wp.ret ⟨rfl, rfl⟩
  · simp -dsimp (disch := first | assumption | omega) only [lit_0, lit_1, lit_2, lit_3, lit_4, lit_5, lit_6, lit_7, lit_8, lit_9, lit_10, lit_11, lit_12, lit_13, lit_14, lit_15, lit_16, lit_17, lit_18, lit_19, lit_20, lit_21, lit_22, lit_23, lit_24, lit_25, lit_26, lit_27, lit_28, lit_29, lit_30, lit_31, lit_32, lit_33, lit_34, lit_35, lit_36, lit_37, lit_38, lit_39, lit_40, lit_41, lit_42, lit_43, lit_44, lit_45, lit_46, lit_47, lit_48, lit_49, lit_50, lit_51, lit_52, lit_53, lit_54, lit_55, lit_56, lit_57, lit_58, lit_59, lit_60, lit_61, lit_62, lit_63, lit_64, lit_97, lit_99, lit_100, lit_122, lit_175, lit_176, lit_200, lit_255, lit_400, lit_700, lit_800, lit_999, lit_1000, lit_1400, lit_2000, lit_2033, lit_2038, lit_2100, lit_2124, lit_8000, lit_10000, lit_12345, lit_32767, lit_1000000, lit_1000000000, ↓bndX_h, ↓bndK_h, bxh_inl, bxh_inr, bkh_inl, bkh_inr, Nat.reduceEqDiff, ↓bnd_h, ↓lt_h, ↓ite_h, bh_some, lh_eq, ih_T, ih_F, ne_eq, not_false_eq_true, not_true_eq_false, eq_self, and_true, true_and, io_def, io_add, io_mul, io_sub, io_lt, io_le, io_eq, io_clamp, io_inbT, io_div, io_mod, io_m1, m1_io, m1_lt, m1_le, neg_1, gI_m1]
    refine Wp.csh (fun c2 => ?_) (fun c2 => ?_)
    · rw [decide_eq_false c, decide_eq_true c2]; exact Wp.ret ⟨rfl, rfl⟩
    · rw [decide_eq_false c, decide_eq_false c2]; exact Wp.ret ⟨rfl, rfl⟩
theorem c_isLetter {b : Nat} {M : Mem} (hb : b < 256) : zX6_isLetter (io b) M = some (bI (ltB b), M) := by
  refine Wp.eq ?_
  unfold zX6_isLetter ltB
  simp -dsimp (disch := first | assumption | omega) only [lit_0, lit_1, lit_2, lit_3, lit_4, lit_5, lit_6, lit_7, lit_8, lit_9, lit_10, lit_11, lit_12, lit_13, lit_14, lit_15, lit_16, lit_17, lit_18, lit_19, lit_20, lit_21, lit_22, lit_23, lit_24, lit_25, lit_26, lit_27, lit_28, lit_29, lit_30, lit_31, lit_32, lit_33, lit_34, lit_35, lit_36, lit_37, lit_38, lit_39, lit_40, lit_41, lit_42, lit_43, lit_44, lit_45, lit_46, lit_47, lit_48, lit_49, lit_50, lit_51, lit_52, lit_53, lit_54, lit_55, lit_56, lit_57, lit_58, lit_59, lit_60, lit_61, lit_62, lit_63, lit_64, lit_97, lit_99, lit_100, lit_122, lit_175, lit_176, lit_200, lit_255, lit_400, lit_700, lit_800, lit_999, lit_1000, lit_1400, lit_2000, lit_2033, lit_2038, lit_2100, lit_2124, lit_8000, lit_10000, lit_12345, lit_32767, lit_1000000, lit_1000000000, ↓bndX_h, ↓bndK_h, bxh_inl, bxh_inr, bkh_inl, bkh_inr, Nat.reduceEqDiff, ↓bnd_h, ↓lt_h, ↓ite_h, bh_some, lh_eq, ih_T, ih_F, ne_eq, not_false_eq_true, not_true_eq_false, eq_self, and_true, true_and, io_def, io_add, io_mul, io_sub, io_lt, io_le, io_eq, io_clamp, io_inbT, io_div, io_mod, io_m1, m1_io, m1_lt, m1_le, neg_1, gI_m1]
  refine Wp.csh (fun c => ?_) (fun c => ?_)
  · rw [decide_eq_false (show ¬ 97 ≤ b by omega)]; exact Wp.ret ⟨rfl, rfl⟩
  · simp -dsimp (disch := first | assumption | omega) only [lit_0, lit_1, lit_2, lit_3, lit_4, lit_5, lit_6, lit_7, lit_8, lit_9, lit_10, lit_11, lit_12, lit_13, lit_14, lit_15, lit_16, lit_17, lit_18, lit_19, lit_20, lit_21, lit_22, lit_23, lit_24, lit_25, lit_26, lit_27, lit_28, lit_29, lit_30, lit_31, lit_32, lit_33, lit_34, lit_35, lit_36, lit_37, lit_38, lit_39, lit_40, lit_41, lit_42, lit_43, lit_44, lit_45, lit_46, lit_47, lit_48, lit_49, lit_50, lit_51, lit_52, lit_53, lit_54, lit_55, lit_56, lit_57, lit_58, lit_59, lit_60, lit_61, lit_62, lit_63, lit_64, lit_97, lit_99, lit_100, lit_122, lit_175, lit_176, lit_200, lit_255, lit_400, lit_700, lit_800, lit_999, lit_1000, lit_1400, lit_2000, lit_2033, lit_2038, lit_2100, lit_2124, lit_8000, lit_10000, lit_12345, lit_32767, lit_1000000, lit_1000000000, ↓bndX_h, ↓bndK_h, bxh_inl, bxh_inr, bkh_inl, bkh_inr, Nat.reduceEqDiff, ↓bnd_h, ↓lt_h, ↓ite_h, bh_some, lh_eq, ih_T, ih_F, ne_eq, not_false_eq_true, not_true_eq_false, eq_self, and_true, true_and, io_def, io_add, io_mul, io_sub, io_lt, io_le, io_eq, io_clamp, io_inbT, io_div, io_mod, io_m1, m1_io, m1_lt, m1_le, neg_1, gI_m1]
    refine Wp.csh (fun c2 => ?_) (fun c2 => ?_)
    · rw [decide_eq_true (show 97 ≤ b by omega), decide_eq_false (show ¬ b ≤ 122 by omega)]; exact Wp.ret ⟨rfl, rfl⟩
    · rw [decide_eq_true (show 97 ≤ b by omega), decide_eq_true (show b ≤ 122 by omega)]; exact Wp.ret ⟨rfl, rfl⟩
theorem c_isDigit {b : Nat} {M : Mem} (hb : b < 256) : zX6_isDigit (io b) M = some (bI (dgB b), M) := by
  refine Wp.eq ?_
  unfold zX6_isDigit dgB
  simp -dsimp (disch := first | assumption | omega) only [lit_0, lit_1, lit_2, lit_3, lit_4, lit_5, lit_6, lit_7, lit_8, lit_9, lit_10, lit_11, lit_12, lit_13, lit_14, lit_15, lit_16, lit_17, lit_18, lit_19, lit_20, lit_21, lit_22, lit_23, lit_24, lit_25, lit_26, lit_27, lit_28, lit_29, lit_30, lit_31, lit_32, lit_33, lit_34, lit_35, lit_36, lit_37, lit_38, lit_39, lit_40, lit_41, lit_42, lit_43, lit_44, lit_45, lit_46, lit_47, lit_48, lit_49, lit_50, lit_51, lit_52, lit_53, lit_54, lit_55, lit_56, lit_57, lit_58, lit_59, lit_60, lit_61, lit_62, lit_63, lit_64, lit_97, lit_99, lit_100, lit_122, lit_175, lit_176, lit_200, lit_255, lit_400, lit_700, lit_800, lit_999, lit_1000, lit_1400, lit_2000, lit_2033, lit_2038, lit_2100, lit_2124, lit_8000, lit_10000, lit_12345, lit_32767, lit_1000000, lit_1000000000, ↓bndX_h, ↓bndK_h, bxh_inl, bxh_inr, bkh_inl, bkh_inr, Nat.reduceEqDiff, ↓bnd_h, ↓lt_h, ↓ite_h, bh_some, lh_eq, ih_T, ih_F, ne_eq, not_false_eq_true, not_true_eq_false, eq_self, and_true, true_and, io_def, io_add, io_mul, io_sub, io_lt, io_le, io_eq, io_clamp, io_inbT, io_div, io_mod, io_m1, m1_io, m1_lt, m1_le, neg_1, gI_m1]
  refine Wp.csh (fun c => ?_) (fun c => ?_)
  · rw [decide_eq_false (show ¬ 48 ≤ b by omega)]; exact Wp.ret ⟨rfl, rfl⟩
  · simp -dsimp (disch := first | assumption | omega) only [lit_0, lit_1, lit_2, lit_3, lit_4, lit_5, lit_6, lit_7, lit_8, lit_9, lit_10, lit_11, lit_12, lit_13, lit_14, lit_15, lit_16, lit_17, lit_18, lit_19, lit_20, lit_21, lit_22, lit_23, lit_24, lit_25, lit_26, lit_27, lit_28, lit_29, lit_30, lit_31, lit_32, lit_33, lit_34, lit_35, lit_36, lit_37, lit_38, lit_39, lit_40, lit_41, lit_42, lit_43, lit_44, lit_45, lit_46, lit_47, lit_48, lit_49, lit_50, lit_51, lit_52, lit_53, lit_54, lit_55, lit_56, lit_57, lit_58, lit_59, lit_60, lit_61, lit_62, lit_63, lit_64, lit_97, lit_99, lit_100, lit_122, lit_175, lit_176, lit_200, lit_255, lit_400, lit_700, lit_800, lit_999, lit_1000, lit_1400, lit_2000, lit_2033, lit_2038, lit_2100, lit_2124, lit_8000, lit_10000, lit_12345, lit_32767, lit_1000000, lit_1000000000, ↓bndX_h, ↓bndK_h, bxh_inl, bxh_inr, bkh_inl, bkh_inr, Nat.reduceEqDiff, ↓bnd_h, ↓lt_h, ↓ite_h, bh_some, lh_eq, ih_T, ih_F, ne_eq, not_false_eq_true, not_true_eq_false, eq_self, and_true, true_and, io_def, io_add, io_mul, io_sub, io_lt, io_le, io_eq, io_clamp, io_inbT, io_div, io_mod, io_m1, m1_io, m1_lt, m1_le, neg_1, gI_m1]
    refine Wp.csh (fun c2 => ?_) (fun c2 => ?_)
    · rw [decide_eq_true (show 48 ≤ b by omega), decide_eq_false (show ¬ b ≤ 57 by omega)]; exact Wp.ret ⟨rfl, rfl⟩
    · rw [decide_eq_true (show 48 ≤ b by omega), decide_eq_true (show b ≤ 57 by omega)]; exact Wp.ret ⟨rfl, rfl⟩
theorem m_isLetter {b : Nat} {M : Mem} (hb : b < 256) : zX12_isLetter (io b) M = some (bI (ltB b), M) := c_isLetter hb
theorem m_isDigit {b : Nat} {M : Mem} (hb : b < 256) : zX12_isDigit (io b) M = some (bI (dgB b), M) := c_isDigit hb
theorem m_isLetterN {M : Mem} : zX12_isLetter m1 M = some (io 0, M) := by
  unfold zX12_isLetter
  rw [if_pos (by decide)]
  rfl
theorem m_isDigitN {M : Mem} : zX12_isDigit m1 M = some (io 0, M) := by
  unfold zX12_isDigit
  rw [if_pos (by decide)]
  rfl
theorem c_isSign {b : Nat} {M : Mem} (hb : b < 256) : zX6_isSign (io b) M = some (bI (mkB b), M) := by
  have h : ∀ b : Fin 256, zX6_isSign (io b.val) M = some (bI (mkB b.val), M) := by
    intro b
    unfold zX6_isSign zX6_isSign_B54
    have h2 : ∀ b : Fin 256, (if io b.val = 59 then io 1 else if io b.val = 40 then io 1 else if io b.val = 41 then io 1 else if io b.val = 43 then io 1 else if io b.val = 45 then io 1 else if io b.val = 42 then io 1 else if io b.val = 47 then io 1 else if io b.val = 60 then io 1 else if io b.val = 61 then io 1 else io 0) = bI (mkB b.val) := by decide +kernel
    rw [← h2 b]
    repeat' split
    all_goals rfl
  exact h ⟨b, hb⟩
theorem m_isMark {b : Nat} {M : Mem} (hb : b < 256) : zX12_isMark (io b) M = some (bI (mkB b), M) := c_isSign hb
/-! what both know of the tape -/
def CSt (M : Mem) (P : Nat → Nat) (n : Nat) : Prop := PC1 M ∧ mI M 2 4 = io n ∧ ∀ k, k < n → mI M 3 k = io (P k)
def MSt (N : Mem) (P : Nat → Nat) (n : Nat) : Prop := PM N ∧ mI N 72 22 = io n ∧ ∀ k, k < n → mI N 91 k = io (P k)
def TkC (M : Mem) (s e k m : Nat) : Prop := mI M 2 5 = io s ∧ mI M 2 6 = io e ∧ mI M 2 7 = io k ∧ (k = 2 → mI M 2 8 = io (if e - s ≤ 3 then m else 1000))
def rkS (k : Nat) : Nat := if k ≤ 2 then k else if k = 3 then 4 else 3
def TkM (N : Mem) (s e k m : Nat) : Prop := mI N 72 25 = io s ∧ mI N 72 26 = io e ∧ mI N 72 21 = io e ∧ mI N 72 23 = io (rkS k) ∧ (k = 2 → e - s ≤ 3 → mI N 72 24 = io m)
def VT (P : Nat → Nat) (n s e k m : Nat) : Prop := s ≤ e ∧ e ≤ n ∧ (k = 0 → s = n) ∧ (k ≠ 0 → s < e) ∧ (4 ≤ k → P s = k) ∧ (k = 2 → e - s ≤ 3 → m ≤ 999) ∧ k < 256
theorem CSt.keep {M M' : Mem} {P : Nat → Nat} {n : Nat} {l : List Nat} (h : CSt M P n) (hF : On 2 l M M') (hl : 4 ∉ l) : CSt M' P n :=
  ⟨h.1.keep (fun o k _ => hF.2.1 o k), (hF.1 _ _ (Or.inr hl)).trans h.2.1, fun k hk => (hF.1 _ _ (Or.inl (by omega))).trans (h.2.2 k hk)⟩
theorem MSt.keep {N N' : Mem} {P : Nat → Nat} {n : Nat} {l : List Nat} (h : MSt N P n) (hF : On 72 l N N') (hl : 22 ∉ l) : MSt N' P n :=
  ⟨fun t ht => (hF.2.1 _ _).trans (h.1 t ht), (hF.1 _ _ (Or.inr hl)).trans h.2.1, fun k hk => (hF.1 _ _ (Or.inl (by omega))).trans (h.2.2 k hk)⟩
theorem m_byteIn {N : Mem} {P : Nat → Nat} {n k : Nat} (h : MSt N P n) (hn : n ≤ 700) (hk : k < n) : zX12_byteAt 72 (io k) N = some (io (P k), N) := by
  obtain ⟨hP, h22, h91⟩ := h
  have e := h91 k hk
  have hna : ¬ n ≤ k := by omega
  unfold zX12_byteAt
  simp -dsimp (disch := first | assumption | omega) only [lit_0, lit_1, lit_2, lit_3, lit_4, lit_5, lit_6, lit_7, lit_8, lit_9, lit_10, lit_11, lit_12, lit_13, lit_14, lit_15, lit_16, lit_17, lit_18, lit_19, lit_20, lit_21, lit_22, lit_23, lit_24, lit_25, lit_26, lit_27, lit_28, lit_29, lit_30, lit_31, lit_32, lit_33, lit_34, lit_35, lit_36, lit_37, lit_38, lit_39, lit_40, lit_41, lit_42, lit_43, lit_44, lit_45, lit_46, lit_47, lit_48, lit_49, lit_50, lit_51, lit_52, lit_53, lit_54, lit_55, lit_56, lit_57, lit_58, lit_59, lit_60, lit_61, lit_62, lit_63, lit_64, lit_97, lit_99, lit_100, lit_122, lit_175, lit_176, lit_200, lit_255, lit_400, lit_700, lit_800, lit_999, lit_1000, lit_1400, lit_2000, lit_2033, lit_2038, lit_2100, lit_2124, lit_8000, lit_10000, lit_12345, lit_32767, lit_1000000, lit_1000000000, ↓bndX_h, ↓bndK_h, bxh_inl, bxh_inr, bkh_inl, bkh_inr, Nat.reduceEqDiff, ↓bnd_h, ↓lt_h, ↓ite_h, bh_some, lh_eq, ih_T, ih_F, ne_eq, not_false_eq_true, not_true_eq_false, eq_self, and_true, true_and, io_def, io_add, io_mul, io_sub, io_lt, io_le, io_eq, io_clamp, io_inbT, io_div, io_mod, io_m1, m1_io, m1_lt, m1_le, neg_1, gI_m1, PM.p0, PM.p1, PM.p3, PM.p4, PM.p5, PM.p6, PM.p7, PM.p8, PM.p9, PM.p10, PM.p11, PM.p12, PM.p13, PM.p14, PM.p15, PM.p16, PM.p17, PM.p18, PM.p19, PM.p31, PM.p32, PM.p33, PM.p34, PM.p38, PM.p39, PM.p40, PM.p41, PM.p42, PM.p46, PM.p47, PM.p50, PM.p51, PM.p52, PM.p53, PM.p54, PM.p55, PM.p56, PM.p57, K0_1, K0_2, K0_3, K0_4, K0_5, K0_6, K0_7, K0_8, K0_9, K0_10, K0_11, K0_12, K0_13, K0_14, K0_15, K0_16, K0_17, K0_18, K0_19, K0_20, K0_21, K0_22, K0_23, K0_24, K0_25, K0_26, K0_27, K0_28, K0_29, K0_30, K0_31, K0_32, K0_33, K0_34, K0_35, K0_36, K0_37, K0_38, K0_39, K0_40, K0_41, K0_42, K0_43, K0_44, K0_45, K0_46, K0_47, K0_48, K0_49, K0_50, K0_51, K0_52, K0_53, K0_54, K0_55, K0_56, K0_57, K0_58, K0_59, K0_60, K0_61, K0_62, K0_63, K0_64, K0_65, K0_66, K0_67, K0_68, K0_69, K0_70, K0_71, K0_72, K0_73, K0_74, K0_75, K0_76, K0_77, K0_78, K0_79, K0_80, K0_81, K0_82, K0_83, K0_84, K0_85, K0_86, K0_87, K0_88, K0_89, K0_90, K0_91, K0_92, K0_93, K0_94, K0_95, K0_96, K0_97, K0_98, K0_99, K0_100, K0_101, K0_102, K0_103, K0_104, K0_105, K0_106, K0_107, K0_108, K0_109, K0_110, K0_111, h22, hna, e]
theorem m_byteEnd {N : Mem} {P : Nat → Nat} {n : Nat} (h : MSt N P n) (hn : n ≤ 700) : zX12_byteAt 72 (io n) N = some (m1, N) := by
  obtain ⟨hP, h22, h91⟩ := h
  unfold zX12_byteAt
  simp -dsimp (disch := first | assumption | omega) only [lit_0, lit_1, lit_2, lit_3, lit_4, lit_5, lit_6, lit_7, lit_8, lit_9, lit_10, lit_11, lit_12, lit_13, lit_14, lit_15, lit_16, lit_17, lit_18, lit_19, lit_20, lit_21, lit_22, lit_23, lit_24, lit_25, lit_26, lit_27, lit_28, lit_29, lit_30, lit_31, lit_32, lit_33, lit_34, lit_35, lit_36, lit_37, lit_38, lit_39, lit_40, lit_41, lit_42, lit_43, lit_44, lit_45, lit_46, lit_47, lit_48, lit_49, lit_50, lit_51, lit_52, lit_53, lit_54, lit_55, lit_56, lit_57, lit_58, lit_59, lit_60, lit_61, lit_62, lit_63, lit_64, lit_97, lit_99, lit_100, lit_122, lit_175, lit_176, lit_200, lit_255, lit_400, lit_700, lit_800, lit_999, lit_1000, lit_1400, lit_2000, lit_2033, lit_2038, lit_2100, lit_2124, lit_8000, lit_10000, lit_12345, lit_32767, lit_1000000, lit_1000000000, ↓bndX_h, ↓bndK_h, bxh_inl, bxh_inr, bkh_inl, bkh_inr, Nat.reduceEqDiff, ↓bnd_h, ↓lt_h, ↓ite_h, bh_some, lh_eq, ih_T, ih_F, ne_eq, not_false_eq_true, not_true_eq_false, eq_self, and_true, true_and, io_def, io_add, io_mul, io_sub, io_lt, io_le, io_eq, io_clamp, io_inbT, io_div, io_mod, io_m1, m1_io, m1_lt, m1_le, neg_1, gI_m1, PM.p0, PM.p1, PM.p3, PM.p4, PM.p5, PM.p6, PM.p7, PM.p8, PM.p9, PM.p10, PM.p11, PM.p12, PM.p13, PM.p14, PM.p15, PM.p16, PM.p17, PM.p18, PM.p19, PM.p31, PM.p32, PM.p33, PM.p34, PM.p38, PM.p39, PM.p40, PM.p41, PM.p42, PM.p46, PM.p47, PM.p50, PM.p51, PM.p52, PM.p53, PM.p54, PM.p55, PM.p56, PM.p57, K0_1, K0_2, K0_3, K0_4, K0_5, K0_6, K0_7, K0_8, K0_9, K0_10, K0_11, K0_12, K0_13, K0_14, K0_15, K0_16, K0_17, K0_18, K0_19, K0_20, K0_21, K0_22, K0_23, K0_24, K0_25, K0_26, K0_27, K0_28, K0_29, K0_30, K0_31, K0_32, K0_33, K0_34, K0_35, K0_36, K0_37, K0_38, K0_39, K0_40, K0_41, K0_42, K0_43, K0_44, K0_45, K0_46, K0_47, K0_48, K0_49, K0_50, K0_51, K0_52, K0_53, K0_54, K0_55, K0_56, K0_57, K0_58, K0_59, K0_60, K0_61, K0_62, K0_63, K0_64, K0_65, K0_66, K0_67, K0_68, K0_69, K0_70, K0_71, K0_72, K0_73, K0_74, K0_75, K0_76, K0_77, K0_78, K0_79, K0_80, K0_81, K0_82, K0_83, K0_84, K0_85, K0_86, K0_87, K0_88, K0_89, K0_90, K0_91, K0_92, K0_93, K0_94, K0_95, K0_96, K0_97, K0_98, K0_99, K0_100, K0_101, K0_102, K0_103, K0_104, K0_105, K0_106, K0_107, K0_108, K0_109, K0_110, K0_111, h22, Nat.le_refl, neg_1]
/-- the value of the first digits -/
def dvS (P : Nat → Nat) (s : Nat) : Nat → Nat
  | 0 => 0
  | j + 1 => dvS P s j * 10 + P (s + j) - 48
theorem dvS_le {P : Nat → Nat} {s : Nat} : ∀ j, (∀ i, i < j → dgB (P (s + i)) = true) → dvS P s j < 10 ^ j
  | 0, _ => by show 0 < 1; omega
  | j + 1, h => by
    have h1 := dvS_le j (fun i hi => h i (by omega))
    have h2 := h j (by omega)
    unfold dgB at h2
    simp only [Bool.and_eq_true, decide_eq_true_eq] at h2
    show dvS P s j * 10 + P (s + j) - 48 < 10 ^ (j + 1)
    rw [Nat.pow_succ]
    generalize 10 ^ j = w at h1 ⊢
    omega
theorem dg_range {b : Nat} (h : dgB b = true) : 48 ≤ b ∧ b ≤ 57 := by
  unfold dgB at h
  simp only [Bool.and_eq_true, decide_eq_true_eq] at h
  exact h
/-! the class's digits -/
theorem c_readNumber {M : Mem} {P : Nat → Nat} {n s q : Nat} (hn : n ≤ 700) (hPb : ∀ k, k < n → P k < 256) (h : CSt M P n) (h5 : mI M 2 5 = io s) (h6 : mI M 2 6 = io s) (hsq : s ≤ q) (hq : q ≤ n) (hd : ∀ j, s ≤ j → j < q → dgB (P j) = true) (he : q = n ∨ (q < n ∧ dgB (P q) = false)) :
    Wp (zX6_readNumber 2 M) (fun _ M' => mI M' 2 6 = io q ∧ mI M' 2 8 = io (if q - s ≤ 3 then dvS P s (q - s) else 1000) ∧ On 2 [6, 8] M M') := by
  unfold zX6_readNumber
  simp -dsimp (disch := first | assumption | omega) only [lit_0, lit_1, lit_2, lit_3, lit_4, lit_5, lit_6, lit_7, lit_8, lit_9, lit_10, lit_11, lit_12, lit_13, lit_14, lit_15, lit_16, lit_17, lit_18, lit_19, lit_20, lit_21, lit_22, lit_23, lit_24, lit_25, lit_26, lit_27, lit_28, lit_29, lit_30, lit_31, lit_32, lit_33, lit_34, lit_35, lit_36, lit_37, lit_38, lit_39, lit_40, lit_41, lit_42, lit_43, lit_44, lit_45, lit_46, lit_47, lit_48, lit_49, lit_50, lit_51, lit_52, lit_53, lit_54, lit_55, lit_56, lit_57, lit_58, lit_59, lit_60, lit_61, lit_62, lit_63, lit_64, lit_97, lit_99, lit_100, lit_122, lit_175, lit_176, lit_200, lit_255, lit_400, lit_700, lit_800, lit_999, lit_1000, lit_1400, lit_2000, lit_2033, lit_2038, lit_2100, lit_2124, lit_8000, lit_10000, lit_12345, lit_32767, lit_1000000, lit_1000000000, ↓bndX_h, ↓bndK_h, bxh_inl, bxh_inr, bkh_inl, bkh_inr, Nat.reduceEqDiff, ↓bnd_h, ↓lt_h, ↓ite_h, bh_some, lh_eq, ih_T, ih_F, ne_eq, not_false_eq_true, not_true_eq_false, eq_self, and_true, true_and, io_def, K0_2]
  generalize hFU : FU = fu
  rw [FU_val] at hFU
  have g0 : On 2 [6, 8] M (sI M 2 8 (io 0)) := On.refl.sI (by simp)
  refine loopW (L := fun f (j : Nat) U => zX6_readNumber_L5 f 2 U) (J := fun j U => s + j ≤ q ∧ mI U 2 6 = io (s + j) ∧ mI U 2 8 = io (if j ≤ 3 then dvS P s j else 1000) ∧ On 2 [6, 8] M U) (fun j _ => q - s - j) ?_ fu 0 (sI M 2 8 (io 0)) ⟨by omega, by rw [mI_diff (Or.inr (by omega))]; exact h6, by rw [mI_same]; rfl, g0⟩ (by omega)
  intro f j U ⟨hj, e6, e8, hF⟩ rec
  show Wp (zX6_readNumber_B5 (zX6_readNumber_L5 f) 2 U) _
  have hU := h.keep hF (by simp)
  obtain ⟨hP1, e4, e3⟩ := hU
  have e5 : mI U 2 5 = io s := (hF.1 _ _ (Or.inr (by simp))).trans h5
  unfold zX6_readNumber_B5 zX6_readNumber_B75
  simp -dsimp (disch := first | assumption | omega) only [lit_0, lit_1, lit_2, lit_3, lit_4, lit_5, lit_6, lit_7, lit_8, lit_9, lit_10, lit_11, lit_12, lit_13, lit_14, lit_15, lit_16, lit_17, lit_18, lit_19, lit_20, lit_21, lit_22, lit_23, lit_24, lit_25, lit_26, lit_27, lit_28, lit_29, lit_30, lit_31, lit_32, lit_33, lit_34, lit_35, lit_36, lit_37, lit_38, lit_39, lit_40, lit_41, lit_42, lit_43, lit_44, lit_45, lit_46, lit_47, lit_48, lit_49, lit_50, lit_51, lit_52, lit_53, lit_54, lit_55, lit_56, lit_57, lit_58, lit_59, lit_60, lit_61, lit_62, lit_63, lit_64, lit_97, lit_99, lit_100, lit_122, lit_175, lit_176, lit_200, lit_255, lit_400, lit_700, lit_800, lit_999, lit_1000, lit_1400, lit_2000, lit_2033, lit_2038, lit_2100, lit_2124, lit_8000, lit_10000, lit_12345, lit_32767, lit_1000000, lit_1000000000, ↓bndX_h, ↓bndK_h, bxh_inl, bxh_inr, bkh_inl, bkh_inr, Nat.reduceEqDiff, ↓bnd_h, ↓lt_h, ↓ite_h, bh_some, lh_eq, ih_T, ih_F, ne_eq, not_false_eq_true, not_true_eq_false, eq_self, and_true, true_and, io_def, io_add, io_mul, io_sub, io_lt, io_le, io_eq, io_clamp, io_inbT, io_div, io_mod, io_m1, m1_io, m1_lt, m1_le, neg_1, gI_m1, e4, e6]
  refine Wp.csh (fun c => ?_) (fun c => ?_)
  · have : q = s + j := by omega
    subst this
    rw [show s + j - s = j by omega]
    exact Wp.ret ⟨e6, e8, hF⟩
  · have hk : s + j < n := by omega
    have ea := at_io (M := U) K0_3 (show s + j < 700 by omega) (by omega)
    rw [e3 _ hk] at ea
    have hb := hPb _ hk
    simp -dsimp (disch := first | assumption | omega) only [lit_0, lit_1, lit_2, lit_3, lit_4, lit_5, lit_6, lit_7, lit_8, lit_9, lit_10, lit_11, lit_12, lit_13, lit_14, lit_15, lit_16, lit_17, lit_18, lit_19, lit_20, lit_21, lit_22, lit_23, lit_24, lit_25, lit_26, lit_27, lit_28, lit_29, lit_30, lit_31, lit_32, lit_33, lit_34, lit_35, lit_36, lit_37, lit_38, lit_39, lit_40, lit_41, lit_42, lit_43, lit_44, lit_45, lit_46, lit_47, lit_48, lit_49, lit_50, lit_51, lit_52, lit_53, lit_54, lit_55, lit_56, lit_57, lit_58, lit_59, lit_60, lit_61, lit_62, lit_63, lit_64, lit_97, lit_99, lit_100, lit_122, lit_175, lit_176, lit_200, lit_255, lit_400, lit_700, lit_800, lit_999, lit_1000, lit_1400, lit_2000, lit_2033, lit_2038, lit_2100, lit_2124, lit_8000, lit_10000, lit_12345, lit_32767, lit_1000000, lit_1000000000, ↓bndX_h, ↓bndK_h, bxh_inl, bxh_inr, bkh_inl, bkh_inr, Nat.reduceEqDiff, ↓bnd_h, ↓lt_h, ↓ite_h, bh_some, lh_eq, ih_T, ih_F, ne_eq, not_false_eq_true, not_true_eq_false, eq_self, and_true, true_and, io_def, io_add, io_mul, io_sub, io_lt, io_le, io_eq, io_clamp, io_inbT, io_div, io_mod, io_m1, m1_io, m1_lt, m1_le, neg_1, gI_m1, PC1.p2_0, e6, ea, c_isDigit hb]
    by_cases z : s + j = q
    · have hf : dgB (P (s + j)) = false := by
        rcases he with he | he
        · omega
        · rw [z]; exact he.2
      rw [hf, bI_f]
      simp -dsimp (disch := first | assumption | omega) only [lit_0, lit_1, lit_2, lit_3, lit_4, lit_5, lit_6, lit_7, lit_8, lit_9, lit_10, lit_11, lit_12, lit_13, lit_14, lit_15, lit_16, lit_17, lit_18, lit_19, lit_20, lit_21, lit_22, lit_23, lit_24, lit_25, lit_26, lit_27, lit_28, lit_29, lit_30, lit_31, lit_32, lit_33, lit_34, lit_35, lit_36, lit_37, lit_38, lit_39, lit_40, lit_41, lit_42, lit_43, lit_44, lit_45, lit_46, lit_47, lit_48, lit_49, lit_50, lit_51, lit_52, lit_53, lit_54, lit_55, lit_56, lit_57, lit_58, lit_59, lit_60, lit_61, lit_62, lit_63, lit_64, lit_97, lit_99, lit_100, lit_122, lit_175, lit_176, lit_200, lit_255, lit_400, lit_700, lit_800, lit_999, lit_1000, lit_1400, lit_2000, lit_2033, lit_2038, lit_2100, lit_2124, lit_8000, lit_10000, lit_12345, lit_32767, lit_1000000, lit_1000000000, ↓bndX_h, ↓bndK_h, bxh_inl, bxh_inr, bkh_inl, bkh_inr, Nat.reduceEqDiff, ↓bnd_h, ↓lt_h, ↓ite_h, bh_some, lh_eq, ih_T, ih_F, ne_eq, not_false_eq_true, not_true_eq_false, eq_self, and_true, true_and, io_def, io_add, io_mul, io_sub, io_lt, io_le, io_eq, io_clamp, io_inbT, io_div, io_mod, io_m1, m1_io, m1_lt, m1_le, neg_1, gI_m1]
      subst z
      rw [show s + j - s = j by omega]
      exact Wp.ret ⟨e6, e8, hF⟩
    · have ht := hd (s + j) (by omega) (by omega)
      have hr := dg_range ht
      have hdv := dvS_le (P := P) (s := s) j (fun i hi => hd (s + i) (by omega) (by omega))
      have hsub : io (s + j) - io s = io j := by rw [io_sub (by omega)]; congr 1; omega
      rw [ht, bI_t]
      simp -dsimp (disch := first | assumption | omega) only [lit_0, lit_1, lit_2, lit_3, lit_4, lit_5, lit_6, lit_7, lit_8, lit_9, lit_10, lit_11, lit_12, lit_13, lit_14, lit_15, lit_16, lit_17, lit_18, lit_19, lit_20, lit_21, lit_22, lit_23, lit_24, lit_25, lit_26, lit_27, lit_28, lit_29, lit_30, lit_31, lit_32, lit_33, lit_34, lit_35, lit_36, lit_37, lit_38, lit_39, lit_40, lit_41, lit_42, lit_43, lit_44, lit_45, lit_46, lit_47, lit_48, lit_49, lit_50, lit_51, lit_52, lit_53, lit_54, lit_55, lit_56, lit_57, lit_58, lit_59, lit_60, lit_61, lit_62, lit_63, lit_64, lit_97, lit_99, lit_100, lit_122, lit_175, lit_176, lit_200, lit_255, lit_400, lit_700, lit_800, lit_999, lit_1000, lit_1400, lit_2000, lit_2033, lit_2038, lit_2100, lit_2124, lit_8000, lit_10000, lit_12345, lit_32767, lit_1000000, lit_1000000000, ↓bndX_h, ↓bndK_h, bxh_inl, bxh_inr, bkh_inl, bkh_inr, Nat.reduceEqDiff, ↓bnd_h, ↓lt_h, ↓ite_h, bh_some, lh_eq, ih_T, ih_F, ne_eq, not_false_eq_true, not_true_eq_false, eq_self, and_true, true_and, io_def, io_add, io_mul, io_sub, io_lt, io_le, io_eq, io_clamp, io_inbT, io_div, io_mod, io_m1, m1_io, m1_lt, m1_le, neg_1, gI_m1, e6, e5, hsub]
      have fin : ∀ x, x = (if j + 1 ≤ 3 then dvS P s (j + 1) else 1000) → Wp (zX6_readNumber_L5 f 2 (sI (sI U 2 8 (io x)) 2 6 (io (s + (j + 1))))) (fun _ M' => mI M' 2 6 = io q ∧ mI M' 2 8 = io (if q - s ≤ 3 then dvS P s (q - s) else 1000) ∧ On 2 [6, 8] M M') := fun x hx => by
        refine rec (j + 1) _ ⟨by omega, mI_same, ?_, (hF.sI (by simp)).sI (by simp)⟩ (by omega)
        rw [mI_diff (Or.inr (by omega)), mI_same, hx]
      refine Wp.csh (fun c3 => ?_) (fun c3 => ?_)
      · have e6' : mI (sI U 2 8 (io 1000)) 2 6 = io (s + j) := by rw [mI_diff (Or.inr (by omega))]; exact e6
        have r := fin 1000 (by rw [if_neg (by omega)])
        rw [← Nat.add_assoc] at r
        simp -dsimp (disch := first | assumption | omega) only [lit_0, lit_1, lit_2, lit_3, lit_4, lit_5, lit_6, lit_7, lit_8, lit_9, lit_10, lit_11, lit_12, lit_13, lit_14, lit_15, lit_16, lit_17, lit_18, lit_19, lit_20, lit_21, lit_22, lit_23, lit_24, lit_25, lit_26, lit_27, lit_28, lit_29, lit_30, lit_31, lit_32, lit_33, lit_34, lit_35, lit_36, lit_37, lit_38, lit_39, lit_40, lit_41, lit_42, lit_43, lit_44, lit_45, lit_46, lit_47, lit_48, lit_49, lit_50, lit_51, lit_52, lit_53, lit_54, lit_55, lit_56, lit_57, lit_58, lit_59, lit_60, lit_61, lit_62, lit_63, lit_64, lit_97, lit_99, lit_100, lit_122, lit_175, lit_176, lit_200, lit_255, lit_400, lit_700, lit_800, lit_999, lit_1000, lit_1400, lit_2000, lit_2033, lit_2038, lit_2100, lit_2124, lit_8000, lit_10000, lit_12345, lit_32767, lit_1000000, lit_1000000000, ↓bndX_h, ↓bndK_h, bxh_inl, bxh_inr, bkh_inl, bkh_inr, Nat.reduceEqDiff, ↓bnd_h, ↓lt_h, ↓ite_h, bh_some, lh_eq, ih_T, ih_F, ne_eq, not_false_eq_true, not_true_eq_false, eq_self, and_true, true_and, io_def, K0_2, e6', io_add]
        exact r
      · have hj3 : j ≤ 2 := by omega
        have hw : 10 ^ j ≤ 10 ^ 2 := Nat.pow_le_pow_right (by decide) hj3
        have hdl : dvS P s j < 100 := Nat.lt_of_lt_of_le hdv hw
        rw [if_pos (show j ≤ 3 by omega)] at e8
        have hsv : dvS P s (j + 1) = dvS P s j * 10 + P (s + j) - 48 := rfl
        have r := fin (dvS P s j * 10 + P (s + j) - 48) (by rw [if_pos (by omega), hsv])
        have e6' : mI (sI U 2 8 (io (dvS P s j * 10 + P (s + j) - 48))) 2 6 = io (s + j) := by rw [mI_diff (Or.inr (by omega))]; exact e6
        have hio : io (dvS P s j) * io 10 + io (P (s + j)) - io 48 = io (dvS P s j * 10 + P (s + j) - 48) := by rw [io_mul, io_add, io_sub (by omega)]
        rw [← Nat.add_assoc] at r
        simp -dsimp (disch := first | assumption | omega) only [lit_0, lit_1, lit_2, lit_3, lit_4, lit_5, lit_6, lit_7, lit_8, lit_9, lit_10, lit_11, lit_12, lit_13, lit_14, lit_15, lit_16, lit_17, lit_18, lit_19, lit_20, lit_21, lit_22, lit_23, lit_24, lit_25, lit_26, lit_27, lit_28, lit_29, lit_30, lit_31, lit_32, lit_33, lit_34, lit_35, lit_36, lit_37, lit_38, lit_39, lit_40, lit_41, lit_42, lit_43, lit_44, lit_45, lit_46, lit_47, lit_48, lit_49, lit_50, lit_51, lit_52, lit_53, lit_54, lit_55, lit_56, lit_57, lit_58, lit_59, lit_60, lit_61, lit_62, lit_63, lit_64, lit_97, lit_99, lit_100, lit_122, lit_175, lit_176, lit_200, lit_255, lit_400, lit_700, lit_800, lit_999, lit_1000, lit_1400, lit_2000, lit_2033, lit_2038, lit_2100, lit_2124, lit_8000, lit_10000, lit_12345, lit_32767, lit_1000000, lit_1000000000, ↓bndX_h, ↓bndK_h, bxh_inl, bxh_inr, bkh_inl, bkh_inr, Nat.reduceEqDiff, ↓bnd_h, ↓lt_h, ↓ite_h, bh_some, lh_eq, ih_T, ih_F, ne_eq, not_false_eq_true, not_true_eq_false, eq_self, and_true, true_and, io_def, K0_2, PC1.p2_0, e6, ea, e8, hio, e6', io_add]
        exact r
/-! the class's advance -/
def kdS (b : Nat) : Nat := if ltB b = true then 1 else if dgB b = true then 2 else if mkB b = true then b else 3
theorem c_adv {M : Mem} {P : Nat → Nat} {n e s q : Nat} (hn : n ≤ 700) (hPb : ∀ k, k < n → P k < 256) (h : CSt M P n) (h6 : mI M 2 6 = io e) (hes : e ≤ s) (hs : s ≤ n) (hbl : ∀ j, e ≤ j → j < s → blB (P j) = true) (hse : s = n ∨ (s < n ∧ blB (P s) = false))
    (hq : s < n → s < q ∧ q ≤ n ∧ (ltB (P s) = true → (∀ j, s ≤ j → j < q → ltB (P j) = true) ∧ (q = n ∨ (q < n ∧ ltB (P q) = false))) ∧ (ltB (P s) = false → dgB (P s) = true → (∀ j, s ≤ j → j < q → dgB (P j) = true) ∧ (q = n ∨ (q < n ∧ dgB (P q) = false))) ∧ (ltB (P s) = false → dgB (P s) = false → q = s + 1)) (hq0 : s = n → q = n) :
    Wp (zX6_advance 2 M) (fun _ M' => TkC M' s q (if s = n then 0 else kdS (P s)) (dvS P s (q - s)) ∧ On 2 [5, 6, 7, 8] M M') := by
  unfold zX6_advance
  simp -dsimp (disch := first | assumption | omega) only [lit_0, lit_1, lit_2, lit_3, lit_4, lit_5, lit_6, lit_7, lit_8, lit_9, lit_10, lit_11, lit_12, lit_13, lit_14, lit_15, lit_16, lit_17, lit_18, lit_19, lit_20, lit_21, lit_22, lit_23, lit_24, lit_25, lit_26, lit_27, lit_28, lit_29, lit_30, lit_31, lit_32, lit_33, lit_34, lit_35, lit_36, lit_37, lit_38, lit_39, lit_40, lit_41, lit_42, lit_43, lit_44, lit_45, lit_46, lit_47, lit_48, lit_49, lit_50, lit_51, lit_52, lit_53, lit_54, lit_55, lit_56, lit_57, lit_58, lit_59, lit_60, lit_61, lit_62, lit_63, lit_64, lit_97, lit_99, lit_100, lit_122, lit_175, lit_176, lit_200, lit_255, lit_400, lit_700, lit_800, lit_999, lit_1000, lit_1400, lit_2000, lit_2033, lit_2038, lit_2100, lit_2124, lit_8000, lit_10000, lit_12345, lit_32767, lit_1000000, lit_1000000000, ↓bndX_h, ↓bndK_h, bxh_inl, bxh_inr, bkh_inl, bkh_inr, Nat.reduceEqDiff, ↓bnd_h, ↓lt_h, ↓ite_h, bh_some, lh_eq, ih_T, ih_F, ne_eq, not_false_eq_true, not_true_eq_false, eq_self, and_true, true_and, io_def, K0_2, h6]
  generalize hFU : FU = fu
  rw [FU_val] at hFU
  have hFF : FU = fu := by rw [FU_val]; exact hFU
  have g0 : On 2 [5, 6, 7, 8] M (sI M 2 5 (io e)) := On.refl.sI (by simp)
  refine loopW (L := fun f (j : Nat) U => zX6_advance_L8 f 2 U) (J := fun j U => e ≤ j ∧ j ≤ s ∧ mI U 2 5 = io j ∧ On 2 [5, 6, 7, 8] M U) (fun j _ => s - j) ?_ fu e (sI M 2 5 (io e)) ⟨Nat.le_refl _, hes, mI_same, g0⟩ (by omega)
  clear h6 g0
  intro f j U ⟨hj1, hj2, e5, hF⟩ rec
  show Wp (zX6_advance_B8 (zX6_advance_L8 f) 2 U) _
  have hU := h.keep hF (by simp)
  obtain ⟨hP1, e4, e3⟩ := hU
  -- behind the blanks
  have fin : j = s → Wp (zX6_advance_B49 2 U) (fun _ M' => TkC M' s q (if s = n then 0 else kdS (P s)) (dvS P s (q - s)) ∧ On 2 [5, 6, 7, 8] M M') := fun hjs => by
    subst hjs
    have hF1 : On 2 [5, 6, 7, 8] M (sI U 2 6 (io j)) := hF.sI (by simp)
    have hU1 := h.keep hF1 (by simp)
    have f5 : mI (sI U 2 6 (io j)) 2 5 = io j := by rw [mI_diff (Or.inr (by omega))]; exact e5
    have f6 : mI (sI U 2 6 (io j)) 2 6 = io j := mI_same
    obtain ⟨w, hw⟩ := at_any (x := io j) (M := sI U 2 6 (io j)) K0_3 (by omega)
    unfold zX6_advance_B49
    simp -dsimp (disch := first | assumption | omega) only [lit_0, lit_1, lit_2, lit_3, lit_4, lit_5, lit_6, lit_7, lit_8, lit_9, lit_10, lit_11, lit_12, lit_13, lit_14, lit_15, lit_16, lit_17, lit_18, lit_19, lit_20, lit_21, lit_22, lit_23, lit_24, lit_25, lit_26, lit_27, lit_28, lit_29, lit_30, lit_31, lit_32, lit_33, lit_34, lit_35, lit_36, lit_37, lit_38, lit_39, lit_40, lit_41, lit_42, lit_43, lit_44, lit_45, lit_46, lit_47, lit_48, lit_49, lit_50, lit_51, lit_52, lit_53, lit_54, lit_55, lit_56, lit_57, lit_58, lit_59, lit_60, lit_61, lit_62, lit_63, lit_64, lit_97, lit_99, lit_100, lit_122, lit_175, lit_176, lit_200, lit_255, lit_400, lit_700, lit_800, lit_999, lit_1000, lit_1400, lit_2000, lit_2033, lit_2038, lit_2100, lit_2124, lit_8000, lit_10000, lit_12345, lit_32767, lit_1000000, lit_1000000000, ↓bndX_h, ↓bndK_h, bxh_inl, bxh_inr, bkh_inl, bkh_inr, Nat.reduceEqDiff, ↓bnd_h, ↓lt_h, ↓ite_h, bh_some, lh_eq, ih_T, ih_F, ne_eq, not_false_eq_true, not_true_eq_false, eq_self, and_true, true_and, io_def, e5]
    generalize sI U 2 6 (io j) = U1 at hF1 hU1 f5 f6 hw ⊢
    obtain ⟨hP1', e4', e3'⟩ := hU1
    simp -dsimp (disch := first | assumption | omega) only [lit_0, lit_1, lit_2, lit_3, lit_4, lit_5, lit_6, lit_7, lit_8, lit_9, lit_10, lit_11, lit_12, lit_13, lit_14, lit_15, lit_16, lit_17, lit_18, lit_19, lit_20, lit_21, lit_22, lit_23, lit_24, lit_25, lit_26, lit_27, lit_28, lit_29, lit_30, lit_31, lit_32, lit_33, lit_34, lit_35, lit_36, lit_37, lit_38, lit_39, lit_40, lit_41, lit_42, lit_43, lit_44, lit_45, lit_46, lit_47, lit_48, lit_49, lit_50, lit_51, lit_52, lit_53, lit_54, lit_55, lit_56, lit_57, lit_58, lit_59, lit_60, lit_61, lit_62, lit_63, lit_64, lit_97, lit_99, lit_100, lit_122, lit_175, lit_176, lit_200, lit_255, lit_400, lit_700, lit_800, lit_999, lit_1000, lit_1400, lit_2000, lit_2033, lit_2038, lit_2100, lit_2124, lit_8000, lit_10000, lit_12345, lit_32767, lit_1000000, lit_1000000000, ↓bndX_h, ↓bndK_h, bxh_inl, bxh_inr, bkh_inl, bkh_inr, Nat.reduceEqDiff, ↓bnd_h, ↓lt_h, ↓ite_h, bh_some, lh_eq, ih_T, ih_F, ne_eq, not_false_eq_true, not_true_eq_false, eq_self, and_true, true_and, io_def, io_add, io_mul, io_sub, io_lt, io_le, io_eq, io_clamp, io_inbT, io_div, io_mod, io_m1, m1_io, m1_lt, m1_le, neg_1, gI_m1, PC1.p2_0, f5, hw, e4']
    refine Wp.csh (fun c => ?_) (fun c => ?_)
    · obtain ⟨q1, q2, q3, q4, q5⟩ := hq c
      have hwv : w = io (P j) := by
        have ea := at_io (M := U1) K0_3 (show j < 700 by omega) (by omega)
        rw [hw, e3' j c] at ea
        simpa using ea
      have hb := hPb j c
      subst hwv
      rw [if_neg (show ¬ j = n by omega)]
      unfold kdS
      simp -dsimp (disch := first | assumption | omega) only [lit_0, lit_1, lit_2, lit_3, lit_4, lit_5, lit_6, lit_7, lit_8, lit_9, lit_10, lit_11, lit_12, lit_13, lit_14, lit_15, lit_16, lit_17, lit_18, lit_19, lit_20, lit_21, lit_22, lit_23, lit_24, lit_25, lit_26, lit_27, lit_28, lit_29, lit_30, lit_31, lit_32, lit_33, lit_34, lit_35, lit_36, lit_37, lit_38, lit_39, lit_40, lit_41, lit_42, lit_43, lit_44, lit_45, lit_46, lit_47, lit_48, lit_49, lit_50, lit_51, lit_52, lit_53, lit_54, lit_55, lit_56, lit_57, lit_58, lit_59, lit_60, lit_61, lit_62, lit_63, lit_64, lit_97, lit_99, lit_100, lit_122, lit_175, lit_176, lit_200, lit_255, lit_400, lit_700, lit_800, lit_999, lit_1000, lit_1400, lit_2000, lit_2033, lit_2038, lit_2100, lit_2124, lit_8000, lit_10000, lit_12345, lit_32767, lit_1000000, lit_1000000000, ↓bndX_h, ↓bndK_h, bxh_inl, bxh_inr, bkh_inl, bkh_inr, Nat.reduceEqDiff, ↓bnd_h, ↓lt_h, ↓ite_h, bh_some, lh_eq, ih_T, ih_F, ne_eq, not_false_eq_true, not_true_eq_false, eq_self, and_true, true_and, io_def, io_add, io_mul, io_sub, io_lt, io_le, io_eq, io_clamp, io_inbT, io_div, io_mod, io_m1, m1_io, m1_lt, m1_le, neg_1, gI_m1, c_isLetter hb]
      cases hl : ltB (P j) with
      | true =>
        rw [bI_t, if_pos rfl]
        simp -dsimp (disch := first | assumption | omega) only [lit_0, lit_1, lit_2, lit_3, lit_4, lit_5, lit_6, lit_7, lit_8, lit_9, lit_10, lit_11, lit_12, lit_13, lit_14, lit_15, lit_16, lit_17, lit_18, lit_19, lit_20, lit_21, lit_22, lit_23, lit_24, lit_25, lit_26, lit_27, lit_28, lit_29, lit_30, lit_31, lit_32, lit_33, lit_34, lit_35, lit_36, lit_37, lit_38, lit_39, lit_40, lit_41, lit_42, lit_43, lit_44, lit_45, lit_46, lit_47, lit_48, lit_49, lit_50, lit_51, lit_52, lit_53, lit_54, lit_55, lit_56, lit_57, lit_58, lit_59, lit_60, lit_61, lit_62, lit_63, lit_64, lit_97, lit_99, lit_100, lit_122, lit_175, lit_176, lit_200, lit_255, lit_400, lit_700, lit_800, lit_999, lit_1000, lit_1400, lit_2000, lit_2033, lit_2038, lit_2100, lit_2124, lit_8000, lit_10000, lit_12345, lit_32767, lit_1000000, lit_1000000000, ↓bndX_h, ↓bndK_h, bxh_inl, bxh_inr, bkh_inl, bkh_inr, Nat.reduceEqDiff, ↓bnd_h, ↓lt_h, ↓ite_h, bh_some, lh_eq, ih_T, ih_F, ne_eq, not_false_eq_true, not_true_eq_false, eq_self, and_true, true_and, io_def, io_add, io_mul, io_sub, io_lt, io_le, io_eq, io_clamp, io_inbT, io_div, io_mod, io_m1, m1_io, m1_lt, m1_le, neg_1, gI_m1, hFF]
        obtain ⟨r1, r2⟩ := q3 hl
        have g7 : mI (sI U1 2 7 (io 1)) 2 7 = io 1 := mI_same
        refine loopW (L := fun f (i : Nat) Y => zX6_advance_L100 f 2 Y) (J := fun i Y => j ≤ i ∧ i ≤ q ∧ mI Y 2 6 = io i ∧ mI Y 2 5 = io j ∧ mI Y 2 7 = io 1 ∧ On 2 [5, 6, 7, 8] M Y) (fun i _ => q - i) ?_ fu j (sI U1 2 7 (io 1)) ⟨Nat.le_refl _, by omega, by rw [mI_diff (Or.inr (by omega))]; exact f6, by rw [mI_diff (Or.inr (by omega))]; exact f5, g7, hF1.sI (by simp)⟩ (by omega)
        intro f i Y ⟨hi1, hi2, y6, y5, y7, hFY⟩ rec
        show Wp (zX6_advance_B100 (zX6_advance_L100 f) 2 Y) _
        obtain ⟨hP1Y, y4, y3⟩ := h.keep hFY (by simp)
        have fin2 : i = q → TkC Y j q 1 (dvS P j (q - j)) ∧ On 2 [5, 6, 7, 8] M Y := fun z => by
          subst z
          exact ⟨⟨y5, y6, y7, fun z => absurd z (by decide)⟩, hFY⟩
        unfold zX6_advance_B100
        simp -dsimp (disch := first | assumption | omega) only [lit_0, lit_1, lit_2, lit_3, lit_4, lit_5, lit_6, lit_7, lit_8, lit_9, lit_10, lit_11, lit_12, lit_13, lit_14, lit_15, lit_16, lit_17, lit_18, lit_19, lit_20, lit_21, lit_22, lit_23, lit_24, lit_25, lit_26, lit_27, lit_28, lit_29, lit_30, lit_31, lit_32, lit_33, lit_34, lit_35, lit_36, lit_37, lit_38, lit_39, lit_40, lit_41, lit_42, lit_43, lit_44, lit_45, lit_46, lit_47, lit_48, lit_49, lit_50, lit_51, lit_52, lit_53, lit_54, lit_55, lit_56, lit_57, lit_58, lit_59, lit_60, lit_61, lit_62, lit_63, lit_64, lit_97, lit_99, lit_100, lit_122, lit_175, lit_176, lit_200, lit_255, lit_400, lit_700, lit_800, lit_999, lit_1000, lit_1400, lit_2000, lit_2033, lit_2038, lit_2100, lit_2124, lit_8000, lit_10000, lit_12345, lit_32767, lit_1000000, lit_1000000000, ↓bndX_h, ↓bndK_h, bxh_inl, bxh_inr, bkh_inl, bkh_inr, Nat.reduceEqDiff, ↓bnd_h, ↓lt_h, ↓ite_h, bh_some, lh_eq, ih_T, ih_F, ne_eq, not_false_eq_true, not_true_eq_false, eq_self, and_true, true_and, io_def, io_add, io_mul, io_sub, io_lt, io_le, io_eq, io_clamp, io_inbT, io_div, io_mod, io_m1, m1_io, m1_lt, m1_le, neg_1, gI_m1, y4, y6]
        refine Wp.csh (fun c2 => ?_) (fun c2 => ?_)
        · exact Wp.ret (fin2 (by omega))
        · have hk : i < n := by omega
          have ea := at_io (M := Y) K0_3 (show i < 700 by omega) (by omega)
          rw [y3 _ hk] at ea
          have hb2 := hPb _ hk
          simp -dsimp (disch := first | assumption | omega) only [lit_0, lit_1, lit_2, lit_3, lit_4, lit_5, lit_6, lit_7, lit_8, lit_9, lit_10, lit_11, lit_12, lit_13, lit_14, lit_15, lit_16, lit_17, lit_18, lit_19, lit_20, lit_21, lit_22, lit_23, lit_24, lit_25, lit_26, lit_27, lit_28, lit_29, lit_30, lit_31, lit_32, lit_33, lit_34, lit_35, lit_36, lit_37, lit_38, lit_39, lit_40, lit_41, lit_42, lit_43, lit_44, lit_45, lit_46, lit_47, lit_48, lit_49, lit_50, lit_51, lit_52, lit_53, lit_54, lit_55, lit_56, lit_57, lit_58, lit_59, lit_60, lit_61, lit_62, lit_63, lit_64, lit_97, lit_99, lit_100, lit_122, lit_175, lit_176, lit_200, lit_255, lit_400, lit_700, lit_800, lit_999, lit_1000, lit_1400, lit_2000, lit_2033, lit_2038, lit_2100, lit_2124, lit_8000, lit_10000, lit_12345, lit_32767, lit_1000000, lit_1000000000, ↓bndX_h, ↓bndK_h, bxh_inl, bxh_inr, bkh_inl, bkh_inr, Nat.reduceEqDiff, ↓bnd_h, ↓lt_h, ↓ite_h, bh_some, lh_eq, ih_T, ih_F, ne_eq, not_false_eq_true, not_true_eq_false, eq_self, and_true, true_and, io_def, io_add, io_mul, io_sub, io_lt, io_le, io_eq, io_clamp, io_inbT, io_div, io_mod, io_m1, m1_io, m1_lt, m1_le, neg_1, gI_m1, PC1.p2_0, y6, ea, c_isLetter hb2]
          by_cases z : i = q
          · have hf : ltB (P i) = false := by
              rcases r2 with r2 | r2
              · omega
              · rw [z]; exact r2.2
            rw [hf, bI_f]
            simp -dsimp (disch := first | assumption | omega) only [lit_0, lit_1, lit_2, lit_3, lit_4, lit_5, lit_6, lit_7, lit_8, lit_9, lit_10, lit_11, lit_12, lit_13, lit_14, lit_15, lit_16, lit_17, lit_18, lit_19, lit_20, lit_21, lit_22, lit_23, lit_24, lit_25, lit_26, lit_27, lit_28, lit_29, lit_30, lit_31, lit_32, lit_33, lit_34, lit_35, lit_36, lit_37, lit_38, lit_39, lit_40, lit_41, lit_42, lit_43, lit_44, lit_45, lit_46, lit_47, lit_48, lit_49, lit_50, lit_51, lit_52, lit_53, lit_54, lit_55, lit_56, lit_57, lit_58, lit_59, lit_60, lit_61, lit_62, lit_63, lit_64, lit_97, lit_99, lit_100, lit_122, lit_175, lit_176, lit_200, lit_255, lit_400, lit_700, lit_800, lit_999, lit_1000, lit_1400, lit_2000, lit_2033, lit_2038, lit_2100, lit_2124, lit_8000, lit_10000, lit_12345, lit_32767, lit_1000000, lit_1000000000, ↓bndX_h, ↓bndK_h, bxh_inl, bxh_inr, bkh_inl, bkh_inr, Nat.reduceEqDiff, ↓bnd_h, ↓lt_h, ↓ite_h, bh_some, lh_eq, ih_T, ih_F, ne_eq, not_false_eq_true, not_true_eq_false, eq_self, and_true, true_and, io_def, io_add, io_mul, io_sub, io_lt, io_le, io_eq, io_clamp, io_inbT, io_div, io_mod, io_m1, m1_io, m1_lt, m1_le, neg_1, gI_m1]
            exact Wp.ret (fin2 z)
          · rw [r1 i (by omega) (by omega), bI_t]
            simp -dsimp (disch := first | assumption | omega) only [lit_0, lit_1, lit_2, lit_3, lit_4, lit_5, lit_6, lit_7, lit_8, lit_9, lit_10, lit_11, lit_12, lit_13, lit_14, lit_15, lit_16, lit_17, lit_18, lit_19, lit_20, lit_21, lit_22, lit_23, lit_24, lit_25, lit_26, lit_27, lit_28, lit_29, lit_30, lit_31, lit_32, lit_33, lit_34, lit_35, lit_36, lit_37, lit_38, lit_39, lit_40, lit_41, lit_42, lit_43, lit_44, lit_45, lit_46, lit_47, lit_48, lit_49, lit_50, lit_51, lit_52, lit_53, lit_54, lit_55, lit_56, lit_57, lit_58, lit_59, lit_60, lit_61, lit_62, lit_63, lit_64, lit_97, lit_99, lit_100, lit_122, lit_175, lit_176, lit_200, lit_255, lit_400, lit_700, lit_800, lit_999, lit_1000, lit_1400, lit_2000, lit_2033, lit_2038, lit_2100, lit_2124, lit_8000, lit_10000, lit_12345, lit_32767, lit_1000000, lit_1000000000, ↓bndX_h, ↓bndK_h, bxh_inl, bxh_inr, bkh_inl, bkh_inr, Nat.reduceEqDiff, ↓bnd_h, ↓lt_h, ↓ite_h, bh_some, lh_eq, ih_T, ih_F, ne_eq, not_false_eq_true, not_true_eq_false, eq_self, and_true, true_and, io_def, io_add, io_mul, io_sub, io_lt, io_le, io_eq, io_clamp, io_inbT, io_div, io_mod, io_m1, m1_io, m1_lt, m1_le, neg_1, gI_m1, y6]
            exact rec (i + 1) _ ⟨by omega, by omega, mI_same, by rw [mI_diff (Or.inr (by omega))]; exact y5, by rw [mI_diff (Or.inr (by omega))]; exact y7, hFY.sI (by simp)⟩ (by omega)
      | false =>
        rw [bI_f, if_neg (by decide)]
        simp -dsimp (disch := first | assumption | omega) only [lit_0, lit_1, lit_2, lit_3, lit_4, lit_5, lit_6, lit_7, lit_8, lit_9, lit_10, lit_11, lit_12, lit_13, lit_14, lit_15, lit_16, lit_17, lit_18, lit_19, lit_20, lit_21, lit_22, lit_23, lit_24, lit_25, lit_26, lit_27, lit_28, lit_29, lit_30, lit_31, lit_32, lit_33, lit_34, lit_35, lit_36, lit_37, lit_38, lit_39, lit_40, lit_41, lit_42, lit_43, lit_44, lit_45, lit_46, lit_47, lit_48, lit_49, lit_50, lit_51, lit_52, lit_53, lit_54, lit_55, lit_56, lit_57, lit_58, lit_59, lit_60, lit_61, lit_62, lit_63, lit_64, lit_97, lit_99, lit_100, lit_122, lit_175, lit_176, lit_200, lit_255, lit_400, lit_700, lit_800, lit_999, lit_1000, lit_1400, lit_2000, lit_2033, lit_2038, lit_2100, lit_2124, lit_8000, lit_10000, lit_12345, lit_32767, lit_1000000, lit_1000000000, ↓bndX_h, ↓bndK_h, bxh_inl, bxh_inr, bkh_inl, bkh_inr, Nat.reduceEqDiff, ↓bnd_h, ↓lt_h, ↓ite_h, bh_some, lh_eq, ih_T, ih_F, ne_eq, not_false_eq_true, not_true_eq_false, eq_self, and_true, true_and, io_def, io_add, io_mul, io_sub, io_lt, io_le, io_eq, io_clamp, io_inbT, io_div, io_mod, io_m1, m1_io, m1_lt, m1_le, neg_1, gI_m1, c_isDigit hb]
        cases hd : dgB (P j) with
        | true =>
          rw [bI_t, if_pos rfl]
          obtain ⟨r1, r2⟩ := q4 hl hd
          have hF2 : On 2 [5, 6, 7, 8] M (sI U1 2 7 (io 2)) := hF1.sI (by simp)
          simp -dsimp (disch := first | assumption | omega) only [lit_0, lit_1, lit_2, lit_3, lit_4, lit_5, lit_6, lit_7, lit_8, lit_9, lit_10, lit_11, lit_12, lit_13, lit_14, lit_15, lit_16, lit_17, lit_18, lit_19, lit_20, lit_21, lit_22, lit_23, lit_24, lit_25, lit_26, lit_27, lit_28, lit_29, lit_30, lit_31, lit_32, lit_33, lit_34, lit_35, lit_36, lit_37, lit_38, lit_39, lit_40, lit_41, lit_42, lit_43, lit_44, lit_45, lit_46, lit_47, lit_48, lit_49, lit_50, lit_51, lit_52, lit_53, lit_54, lit_55, lit_56, lit_57, lit_58, lit_59, lit_60, lit_61, lit_62, lit_63, lit_64, lit_97, lit_99, lit_100, lit_122, lit_175, lit_176, lit_200, lit_255, lit_400, lit_700, lit_800, lit_999, lit_1000, lit_1400, lit_2000, lit_2033, lit_2038, lit_2100, lit_2124, lit_8000, lit_10000, lit_12345, lit_32767, lit_1000000, lit_1000000000, ↓bndX_h, ↓bndK_h, bxh_inl, bxh_inr, bkh_inl, bkh_inr, Nat.reduceEqDiff, ↓bnd_h, ↓lt_h, ↓ite_h, bh_some, lh_eq, ih_T, ih_F, ne_eq, not_false_eq_true, not_true_eq_false, eq_self, and_true, true_and, io_def, io_add, io_mul, io_sub, io_lt, io_le, io_eq, io_clamp, io_inbT, io_div, io_mod, io_m1, m1_io, m1_lt, m1_le, neg_1, gI_m1]
          refine Wp.seqh (c_readNumber (s := j) (q := q) hn hPb (h.keep hF2 (by simp)) (by rw [mI_diff (Or.inr (by omega))]; exact f5) (by rw [mI_diff (Or.inr (by omega))]; exact f6) (by omega) q2 r1 r2) (fun _ Y ⟨a1, a2, a3⟩ => ?_)
          refine Wp.ret ⟨⟨?_, a1, ?_, fun _ => a2⟩, hF2.trans (a3.sub (fun j hj => by simp only [List.mem_cons, List.not_mem_nil, or_false] at hj ⊢; omega))⟩
          · rw [a3.1 _ _ (Or.inr (by simp)), mI_diff (Or.inr (by omega))]; exact f5
          · rw [a3.1 _ _ (Or.inr (by simp)), mI_same]
        | false =>
          rw [bI_f, if_neg (by decide)]
          have hqs := q5 hl hd
          subst hqs
          simp -dsimp (disch := first | assumption | omega) only [lit_0, lit_1, lit_2, lit_3, lit_4, lit_5, lit_6, lit_7, lit_8, lit_9, lit_10, lit_11, lit_12, lit_13, lit_14, lit_15, lit_16, lit_17, lit_18, lit_19, lit_20, lit_21, lit_22, lit_23, lit_24, lit_25, lit_26, lit_27, lit_28, lit_29, lit_30, lit_31, lit_32, lit_33, lit_34, lit_35, lit_36, lit_37, lit_38, lit_39, lit_40, lit_41, lit_42, lit_43, lit_44, lit_45, lit_46, lit_47, lit_48, lit_49, lit_50, lit_51, lit_52, lit_53, lit_54, lit_55, lit_56, lit_57, lit_58, lit_59, lit_60, lit_61, lit_62, lit_63, lit_64, lit_97, lit_99, lit_100, lit_122, lit_175, lit_176, lit_200, lit_255, lit_400, lit_700, lit_800, lit_999, lit_1000, lit_1400, lit_2000, lit_2033, lit_2038, lit_2100, lit_2124, lit_8000, lit_10000, lit_12345, lit_32767, lit_1000000, lit_1000000000, ↓bndX_h, ↓bndK_h, bxh_inl, bxh_inr, bkh_inl, bkh_inr, Nat.reduceEqDiff, ↓bnd_h, ↓lt_h, ↓ite_h, bh_some, lh_eq, ih_T, ih_F, ne_eq, not_false_eq_true, not_true_eq_false, eq_self, and_true, true_and, io_def, io_add, io_mul, io_sub, io_lt, io_le, io_eq, io_clamp, io_inbT, io_div, io_mod, io_m1, m1_io, m1_lt, m1_le, neg_1, gI_m1, c_isSign hb]
          have fin3 : ∀ x, x < 256 → x ≠ 2 → Wp (zX6_advance_B173 2 2 (io x) U1) (fun _ M' => TkC M' j (j + 1) x (dvS P j (j + 1 - j)) ∧ On 2 [5, 6, 7, 8] M M') := fun x hx hx2 => by
            have g6 : mI (sI U1 2 7 (io x)) 2 6 = io j := by rw [mI_diff (Or.inr (by omega))]; exact f6
            unfold zX6_advance_B173
            simp -dsimp (disch := first | assumption | omega) only [lit_0, lit_1, lit_2, lit_3, lit_4, lit_5, lit_6, lit_7, lit_8, lit_9, lit_10, lit_11, lit_12, lit_13, lit_14, lit_15, lit_16, lit_17, lit_18, lit_19, lit_20, lit_21, lit_22, lit_23, lit_24, lit_25, lit_26, lit_27, lit_28, lit_29, lit_30, lit_31, lit_32, lit_33, lit_34, lit_35, lit_36, lit_37, lit_38, lit_39, lit_40, lit_41, lit_42, lit_43, lit_44, lit_45, lit_46, lit_47, lit_48, lit_49, lit_50, lit_51, lit_52, lit_53, lit_54, lit_55, lit_56, lit_57, lit_58, lit_59, lit_60, lit_61, lit_62, lit_63, lit_64, lit_97, lit_99, lit_100, lit_122, lit_175, lit_176, lit_200, lit_255, lit_400, lit_700, lit_800, lit_999, lit_1000, lit_1400, lit_2000, lit_2033, lit_2038, lit_2100, lit_2124, lit_8000, lit_10000, lit_12345, lit_32767, lit_1000000, lit_1000000000, ↓bndX_h, ↓bndK_h, bxh_inl, bxh_inr, bkh_inl, bkh_inr, Nat.reduceEqDiff, ↓bnd_h, ↓lt_h, ↓ite_h, bh_some, lh_eq, ih_T, ih_F, ne_eq, not_false_eq_true, not_true_eq_false, eq_self, and_true, true_and, io_def, io_add, io_mul, io_sub, io_lt, io_le, io_eq, io_clamp, io_inbT, io_div, io_mod, io_m1, m1_io, m1_lt, m1_le, neg_1, gI_m1, K0_2, g6]
            refine Wp.ret ⟨⟨?_, mI_same, ?_, fun z => absurd z hx2⟩, (hF1.sI (by simp)).sI (by simp)⟩
            · rw [mI_diff (Or.inr (by omega)), mI_diff (Or.inr (by omega))]; exact f5
            · rw [mI_diff (Or.inr (by omega)), mI_same]
          cases hm : mkB (P j) with
          | true =>
            rw [bI_t, if_pos rfl]
            have hne : P j ≠ 2 := fun z => by rw [z] at hm; exact absurd hm (by decide)
            simp -dsimp (disch := first | assumption | omega) only [lit_0, lit_1, lit_2, lit_3, lit_4, lit_5, lit_6, lit_7, lit_8, lit_9, lit_10, lit_11, lit_12, lit_13, lit_14, lit_15, lit_16, lit_17, lit_18, lit_19, lit_20, lit_21, lit_22, lit_23, lit_24, lit_25, lit_26, lit_27, lit_28, lit_29, lit_30, lit_31, lit_32, lit_33, lit_34, lit_35, lit_36, lit_37, lit_38, lit_39, lit_40, lit_41, lit_42, lit_43, lit_44, lit_45, lit_46, lit_47, lit_48, lit_49, lit_50, lit_51, lit_52, lit_53, lit_54, lit_55, lit_56, lit_57, lit_58, lit_59, lit_60, lit_61, lit_62, lit_63, lit_64, lit_97, lit_99, lit_100, lit_122, lit_175, lit_176, lit_200, lit_255, lit_400, lit_700, lit_800, lit_999, lit_1000, lit_1400, lit_2000, lit_2033, lit_2038, lit_2100, lit_2124, lit_8000, lit_10000, lit_12345, lit_32767, lit_1000000, lit_1000000000, ↓bndX_h, ↓bndK_h, bxh_inl, bxh_inr, bkh_inl, bkh_inr, Nat.reduceEqDiff, ↓bnd_h, ↓lt_h, ↓ite_h, bh_some, lh_eq, ih_T, ih_F, ne_eq, not_false_eq_true, not_true_eq_false, eq_self, and_true, true_and, io_def, io_add, io_mul, io_sub, io_lt, io_le, io_eq, io_clamp, io_inbT, io_div, io_mod, io_m1, m1_io, m1_lt, m1_le, neg_1, gI_m1]
            exact fin3 _ hb hne
          | false =>
            rw [bI_f, if_neg (by decide)]
            simp -dsimp (disch := first | assumption | omega) only [lit_0, lit_1, lit_2, lit_3, lit_4, lit_5, lit_6, lit_7, lit_8, lit_9, lit_10, lit_11, lit_12, lit_13, lit_14, lit_15, lit_16, lit_17, lit_18, lit_19, lit_20, lit_21, lit_22, lit_23, lit_24, lit_25, lit_26, lit_27, lit_28, lit_29, lit_30, lit_31, lit_32, lit_33, lit_34, lit_35, lit_36, lit_37, lit_38, lit_39, lit_40, lit_41, lit_42, lit_43, lit_44, lit_45, lit_46, lit_47, lit_48, lit_49, lit_50, lit_51, lit_52, lit_53, lit_54, lit_55, lit_56, lit_57, lit_58, lit_59, lit_60, lit_61, lit_62, lit_63, lit_64, lit_97, lit_99, lit_100, lit_122, lit_175, lit_176, lit_200, lit_255, lit_400, lit_700, lit_800, lit_999, lit_1000, lit_1400, lit_2000, lit_2033, lit_2038, lit_2100, lit_2124, lit_8000, lit_10000, lit_12345, lit_32767, lit_1000000, lit_1000000000, ↓bndX_h, ↓bndK_h, bxh_inl, bxh_inr, bkh_inl, bkh_inr, Nat.reduceEqDiff, ↓bnd_h, ↓lt_h, ↓ite_h, bh_some, lh_eq, ih_T, ih_F, ne_eq, not_false_eq_true, not_true_eq_false, eq_self, and_true, true_and, io_def, io_add, io_mul, io_sub, io_lt, io_le, io_eq, io_clamp, io_inbT, io_div, io_mod, io_m1, m1_io, m1_lt, m1_le, neg_1, gI_m1]
            exact fin3 3 (by omega) (by omega)
    · have hjn : j = n := by omega
      have hq1 := hq0 hjn
      subst hq1
      rw [if_pos hjn]
      refine Wp.ret ⟨⟨?_, ?_, mI_same, fun z => absurd z (by decide)⟩, hF1.sI (by simp)⟩
      · rw [mI_diff (Or.inr (by omega))]; exact f5
      · rw [mI_diff (Or.inr (by omega)), f6, hjn]
  unfold zX6_advance_B8
  simp -dsimp (disch := first | assumption | omega) only [lit_0, lit_1, lit_2, lit_3, lit_4, lit_5, lit_6, lit_7, lit_8, lit_9, lit_10, lit_11, lit_12, lit_13, lit_14, lit_15, lit_16, lit_17, lit_18, lit_19, lit_20, lit_21, lit_22, lit_23, lit_24, lit_25, lit_26, lit_27, lit_28, lit_29, lit_30, lit_31, lit_32, lit_33, lit_34, lit_35, lit_36, lit_37, lit_38, lit_39, lit_40, lit_41, lit_42, lit_43, lit_44, lit_45, lit_46, lit_47, lit_48, lit_49, lit_50, lit_51, lit_52, lit_53, lit_54, lit_55, lit_56, lit_57, lit_58, lit_59, lit_60, lit_61, lit_62, lit_63, lit_64, lit_97, lit_99, lit_100, lit_122, lit_175, lit_176, lit_200, lit_255, lit_400, lit_700, lit_800, lit_999, lit_1000, lit_1400, lit_2000, lit_2033, lit_2038, lit_2100, lit_2124, lit_8000, lit_10000, lit_12345, lit_32767, lit_1000000, lit_1000000000, ↓bndX_h, ↓bndK_h, bxh_inl, bxh_inr, bkh_inl, bkh_inr, Nat.reduceEqDiff, ↓bnd_h, ↓lt_h, ↓ite_h, bh_some, lh_eq, ih_T, ih_F, ne_eq, not_false_eq_true, not_true_eq_false, eq_self, and_true, true_and, io_def, io_add, io_mul, io_sub, io_lt, io_le, io_eq, io_clamp, io_inbT, io_div, io_mod, io_m1, m1_io, m1_lt, m1_le, neg_1, gI_m1, e4, e5]
  refine Wp.csh (fun c => ?_) (fun c => ?_)
  · exact fin (by omega)
  · have hk : j < n := by omega
    have ea := at_io (M := U) K0_3 (show j < 700 by omega) (by omega)
    rw [e3 _ hk] at ea
    have hb := hPb _ hk
    simp -dsimp (disch := first | assumption | omega) only [lit_0, lit_1, lit_2, lit_3, lit_4, lit_5, lit_6, lit_7, lit_8, lit_9, lit_10, lit_11, lit_12, lit_13, lit_14, lit_15, lit_16, lit_17, lit_18, lit_19, lit_20, lit_21, lit_22, lit_23, lit_24, lit_25, lit_26, lit_27, lit_28, lit_29, lit_30, lit_31, lit_32, lit_33, lit_34, lit_35, lit_36, lit_37, lit_38, lit_39, lit_40, lit_41, lit_42, lit_43, lit_44, lit_45, lit_46, lit_47, lit_48, lit_49, lit_50, lit_51, lit_52, lit_53, lit_54, lit_55, lit_56, lit_57, lit_58, lit_59, lit_60, lit_61, lit_62, lit_63, lit_64, lit_97, lit_99, lit_100, lit_122, lit_175, lit_176, lit_200, lit_255, lit_400, lit_700, lit_800, lit_999, lit_1000, lit_1400, lit_2000, lit_2033, lit_2038, lit_2100, lit_2124, lit_8000, lit_10000, lit_12345, lit_32767, lit_1000000, lit_1000000000, ↓bndX_h, ↓bndK_h, bxh_inl, bxh_inr, bkh_inl, bkh_inr, Nat.reduceEqDiff, ↓bnd_h, ↓lt_h, ↓ite_h, bh_some, lh_eq, ih_T, ih_F, ne_eq, not_false_eq_true, not_true_eq_false, eq_self, and_true, true_and, io_def, io_add, io_mul, io_sub, io_lt, io_le, io_eq, io_clamp, io_inbT, io_div, io_mod, io_m1, m1_io, m1_lt, m1_le, neg_1, gI_m1, PC1.p2_0, e5, ea, c_isBlank hb]
    by_cases z : j = s
    · have hf : blB (P j) = false := by
        rcases hse with he | he
        · omega
        · rw [z]; exact he.2
      rw [hf, bI_f]
      simp -dsimp (disch := first | assumption | omega) only [lit_0, lit_1, lit_2, lit_3, lit_4, lit_5, lit_6, lit_7, lit_8, lit_9, lit_10, lit_11, lit_12, lit_13, lit_14, lit_15, lit_16, lit_17, lit_18, lit_19, lit_20, lit_21, lit_22, lit_23, lit_24, lit_25, lit_26, lit_27, lit_28, lit_29, lit_30, lit_31, lit_32, lit_33, lit_34, lit_35, lit_36, lit_37, lit_38, lit_39, lit_40, lit_41, lit_42, lit_43, lit_44, lit_45, lit_46, lit_47, lit_48, lit_49, lit_50, lit_51, lit_52, lit_53, lit_54, lit_55, lit_56, lit_57, lit_58, lit_59, lit_60, lit_61, lit_62, lit_63, lit_64, lit_97, lit_99, lit_100, lit_122, lit_175, lit_176, lit_200, lit_255, lit_400, lit_700, lit_800, lit_999, lit_1000, lit_1400, lit_2000, lit_2033, lit_2038, lit_2100, lit_2124, lit_8000, lit_10000, lit_12345, lit_32767, lit_1000000, lit_1000000000, ↓bndX_h, ↓bndK_h, bxh_inl, bxh_inr, bkh_inl, bkh_inr, Nat.reduceEqDiff, ↓bnd_h, ↓lt_h, ↓ite_h, bh_some, lh_eq, ih_T, ih_F, ne_eq, not_false_eq_true, not_true_eq_false, eq_self, and_true, true_and, io_def, io_add, io_mul, io_sub, io_lt, io_le, io_eq, io_clamp, io_inbT, io_div, io_mod, io_m1, m1_io, m1_lt, m1_le, neg_1, gI_m1]
      exact fin z
    · rw [hbl j hj1 (by omega), bI_t]
      simp -dsimp (disch := first | assumption | omega) only [lit_0, lit_1, lit_2, lit_3, lit_4, lit_5, lit_6, lit_7, lit_8, lit_9, lit_10, lit_11, lit_12, lit_13, lit_14, lit_15, lit_16, lit_17, lit_18, lit_19, lit_20, lit_21, lit_22, lit_23, lit_24, lit_25, lit_26, lit_27, lit_28, lit_29, lit_30, lit_31, lit_32, lit_33, lit_34, lit_35, lit_36, lit_37, lit_38, lit_39, lit_40, lit_41, lit_42, lit_43, lit_44, lit_45, lit_46, lit_47, lit_48, lit_49, lit_50, lit_51, lit_52, lit_53, lit_54, lit_55, lit_56, lit_57, lit_58, lit_59, lit_60, lit_61, lit_62, lit_63, lit_64, lit_97, lit_99, lit_100, lit_122, lit_175, lit_176, lit_200, lit_255, lit_400, lit_700, lit_800, lit_999, lit_1000, lit_1400, lit_2000, lit_2033, lit_2038, lit_2100, lit_2124, lit_8000, lit_10000, lit_12345, lit_32767, lit_1000000, lit_1000000000, ↓bndX_h, ↓bndK_h, bxh_inl, bxh_inr, bkh_inl, bkh_inr, Nat.reduceEqDiff, ↓bnd_h, ↓lt_h, ↓ite_h, bh_some, lh_eq, ih_T, ih_F, ne_eq, not_false_eq_true, not_true_eq_false, eq_self, and_true, true_and, io_def, io_add, io_mul, io_sub, io_lt, io_le, io_eq, io_clamp, io_inbT, io_div, io_mod, io_m1, m1_io, m1_lt, m1_le, neg_1, gI_m1, e5]
      exact rec (j + 1) _ ⟨by omega, by omega, mI_same, hF.sI (by simp)⟩ (by omega)
