/-! ===== LEVEL 2: gate: from the beginning ===== -/
def Zst (s q k m : Nat) : ZV := ((s, q, k, m, 0, fun _ => 0, 0), (0, 1, 0, 100, fun _ => 0, fun _ => 0, fun _ => 0, fun _ => 0, fun _ => 0, fun _ => 0, 0), (0, 0, 0, 0), 0)
theorem okZ_st {P : Nat → Nat} {n s q k m : Nat} (h : VT P n s q k m) : okZ P n (Zst s q k m) :=
  ⟨⟨h, Nat.zero_le _, by show 0 < 512; omega, fun i hi => absurd hi (Nat.not_lt_zero i), fun i hi => absurd hi (Nat.not_lt_zero i)⟩, Nat.zero_le _, by show 1 ≤ 2; omega, Nat.zero_le _, by show 1 ≤ 100; omega, by show 100 ≤ 999; omega, ⟨Nat.zero_le _, Nat.zero_le _, Nat.zero_le _, Nat.zero_le _⟩, by show 0 < 64; omega, fun s hs => absurd hs (Nat.not_lt_zero s)⟩
/-- what a TEXT comes to, in the class -/
def rdC (P : Nat → Nat) (n r : Nat) (o : (Nat × Nat) ⊕ ZV) (x : Int32) (M : Mem) : Prop := match o with
  | .inl q => x = io q.1 ∧ BdC M q.1 q.2
  | .inr Z => x = io 0 ∧ ZC M P n r Z
def GdO (P : Nat → Nat) (n : Nat) (o : (Nat × Nat) ⊕ ZV) : Prop := match o with
  | .inl q => 1 ≤ q.1 ∧ q.1 ≤ 4 ∧ q.2 ≤ n
  | .inr Z => okZ P n Z
def FrR (r : Nat) (M M' : Mem) : Prop := (∀ o k, o ≠ 2 → (o < r ∨ r + 6 < o ∨ (o = r + 4 ∧ k = 0)) → mI M' o k = mI M o k) ∧ (∀ o k, mR M' o k = mR M o k) ∧ ∀ o k, (o = 0 ∨ 72 < o) → mL M' o k = mL M o k
theorem c_clearR {M : Mem} {r : Nat} (hr : isRu r) (hP : PC1 M) : Wp (zX8_clear r M) (fun _ M' => (mI M' r 0 = io 0 ∧ mI M' r 1 = io 0 ∧ mI M' r 2 = io 1 ∧ mI M' r 3 = io 0 ∧ mI M' r 4 = io 100 ∧ mI M' r 5 = io 0 ∧ mI M' r 6 = io 0) ∧ CS M' (r + 6) (0, 0, 0, 0) ∧ (∀ o k, o ≠ r → o ≠ r + 6 → mI M' o k = mI M o k) ∧ (∀ o k, mR M' o k = mR M o k) ∧ ∀ o k, (o = 0 ∨ 72 < o) → mL M' o k = mL M o k) := by
  have hPR := hP.PR hr
  have hr6 : (r + 6 = 0) = False := eq_false (by omega)
  have hr72 : r + 6 ≠ 72 ∧ r + 6 < 40 := by rcases hr with rfl | rfl | rfl <;> omega
  obtain ⟨M1, hM1⟩ : ∃ M1, M1 = sI (sI (sI (sI (sI (sI (sI M r 0 (io 0)) r 1 (io 0)) r 2 (io 1)) r 3 (io 0)) r 4 (io 100)) r 5 (io 0)) r 6 (io 0) := ⟨_, rfl⟩
  have e12 : mR M1 r 12 = r + 6 := by rw [hM1]; exact hPR.p12
  have hg : ∀ k, mI M1 r k = if k = 6 then io 0 else if k = 5 then io 0 else if k = 4 then io 100 else if k = 3 then io 0 else if k = 2 then io 1 else if k = 1 then io 0 else if k = 0 then io 0 else mI M r k := fun k => by
    rw [hM1]
    simp only [mI_sI, true_and]
  have ho : ∀ o k, o ≠ r → mI M1 o k = mI M o k := fun o k h => by
    rw [hM1, mI_diff (Or.inl h), mI_diff (Or.inl h), mI_diff (Or.inl h), mI_diff (Or.inl h), mI_diff (Or.inl h), mI_diff (Or.inl h), mI_diff (Or.inl h)]
  have hR1 : ∀ o k, mR M1 o k = mR M o k := fun o k => by rw [hM1]; rfl
  have hL1 : ∀ o k, mL M1 o k = mL M o k := fun o k => by rw [hM1]; rfl
  have heq : zX8_clear r M = bnd (zX9_clear (r + 6) M1) fun _ M9 => some ((), M9) := by
    unfold zX8_clear
    rw [if_pos (K0_r hr)]
    simp only [lit_0, lit_1, lit_100, lt_eq]
    rw [← hM1, if_pos (by rw [e12]; omega), e12, if_pos (K0_r6 hr)]
  rw [heq]
  have hbec := c_become (M := M1) (isSe_of hr) (show 0 ≤ 175 by omega)
  unfold zX9_clear
  rw [if_pos (K0_r6 hr), lit_0]
  refine Wp.bd (Wp.seq hbec (fun _ M2 ⟨a1, a2⟩ => Wp.ret (Wp.ret ?_)))
  have hI : ∀ o k, o ≠ r + 6 → mI M2 o k = mI M1 o k := fun o k h => a2.I (by simp only [ob, Bool.and_true, Bool.or_eq_true, decide_eq_true_eq]; omega)
  have hk : ∀ k, mI M2 r k = mI M1 r k := fun k => hI _ _ (by omega)
  refine ⟨⟨?_, ?_, ?_, ?_, ?_, ?_, ?_⟩, a1, fun o k h1 h2 => (hI o k h2).trans (ho o k h1), fun o k => (a2.2.2 o rfl k).trans (hR1 o k), fun o k h => ?_⟩
  · rw [hk, hg]; rfl
  · rw [hk, hg]; rfl
  · rw [hk, hg]; rfl
  · rw [hk, hg]; rfl
  · rw [hk, hg]; rfl
  · rw [hk, hg]; rfl
  · rw [hk, hg]; rfl
  · rw [← hL1]
    exact a2.L (by simp only [ob, Bool.and_true, Bool.or_eq_true, decide_eq_true_eq]; omega) (by omega)
theorem c_read {P : Nat → Nat} {n r s q k m : Nat} {o : (Nat × Nat) ⊕ ZV} (hr : isRu r) (hn : n ≤ 700) (hV : VT P n s q k m)
    (hadv : ∀ M, CSt M P n → mI M 2 6 = io 0 → Wp (zX6_advance 2 M) (fun _ M' => TkC M' s q k m ∧ On 2 [5, 6, 7, 8] M M'))
    (htx : ∀ f i M, n - s < f → i ≤ s → ZC M P n r (Zst s q k m) → Wp (zX6_read_L38 f 2 (io i) M) (fun x M' => rdC P n r o x M' ∧ FrD r M M')) :
    ∀ M, PC1 M → mR M 2 3 = r → (∀ k, k < n → mI M 3 k = io (P k)) → mI M (r + 4) 0 = io 0 → Wp (zX6_read 2 (io n) M) (fun x M' => rdC P n r o x M' ∧ mI M' 2 1 = io 0 ∧ FrR r M M') := fun M hP h3 ht hz => by
  have hrn := ru_n0 hr
  have hr2 : 2 < r ∧ r < 40 := by rcases hr with rfl | rfl | rfl <;> omega
  have hr3 : r ≠ 3 := by rcases hr with rfl | rfl | rfl <;> omega
  obtain ⟨M1, hM1⟩ : ∃ M1, M1 = sI (sI (sI (sI (sI M 2 4 (io n)) 2 6 (io 0)) 2 10 (io 0)) 2 11 (io 0)) 2 1 (io 0) := ⟨_, rfl⟩
  have hP1 : PC1 M1 := by rw [hM1]; exact hP
  have e3 : mR M1 2 3 = r := by rw [hM1]; exact h3
  have hg : ∀ k, mI M1 2 k = if k = 1 then io 0 else if k = 11 then io 0 else if k = 10 then io 0 else if k = 6 then io 0 else if k = 4 then io n else mI M 2 k := fun k => by
    rw [hM1]
    simp only [mI_sI, true_and]
  have ho : ∀ o k, o ≠ 2 → mI M1 o k = mI M o k := fun o k h => by
    rw [hM1, mI_diff (Or.inl h), mI_diff (Or.inl h), mI_diff (Or.inl h), mI_diff (Or.inl h), mI_diff (Or.inl h)]
  have hR1 : ∀ o k, mR M1 o k = mR M o k := fun o k => by rw [hM1]; rfl
  have hL1 : ∀ o k, mL M1 o k = mL M o k := fun o k => by rw [hM1]; rfl
  have heq : zX6_read 2 (io n) M = bnd (zX8_clear r M1) fun _ M7 => bnd (zX6_advance 2 M7) fun _ M9 => zX6_read_L38 FU 2 (io 0) M9 := by
    unfold zX6_read
    rw [if_pos K0_2]
    simp only [lit_0, lt_eq]
    rw [← hM1, e3, if_pos (by omega), if_pos (K0_r hr)]
  rw [heq]
  refine Wp.seq (c_clearR hr hP1) (fun _ M2 ⟨⟨b0, b1, b2, b3, b4, b5, b6⟩, bS, bI, bR, bL⟩ => ?_)
  have hI2 : ∀ k, mI M2 2 k = mI M1 2 k := fun k => bI _ _ (by omega) (by omega)
  have hSt : CSt M2 P n := ⟨hP1.keep (fun o k _ => bR o k), by rw [hI2, hg]; rfl, fun k hk => by rw [bI _ _ (by omega) (by omega), ho _ _ (by omega)]; exact ht k hk⟩
  refine Wp.seq (hadv M2 hSt (by rw [hI2, hg]; rfl)) (fun _ M3 ⟨t1, t2⟩ => ?_)
  have hI3 : ∀ o k, (o ≠ 2 ∨ k ∉ [5, 6, 7, 8]) → mI M3 o k = mI M2 o k := t2.1
  have hZ : ZC M3 P n r (Zst s q k m) := by
    refine ⟨⟨hSt.keep t2 (by simp), (t2.2.1 _ _).trans ((bR _ _).trans e3), t1, (hI3 _ _ (by omega)).trans b6, (hI3 _ _ (by omega)).trans b5, fun i hi => absurd hi (Nat.not_lt_zero i), ?_⟩, (hI3 _ _ (by omega)).trans b0, (hI3 _ _ (by omega)).trans b1, (hI3 _ _ (by omega)).trans b2, (hI3 _ _ (by omega)).trans b3, (hI3 _ _ (by omega)).trans b4, fun s hs => absurd hs (Nat.not_lt_zero s), ?_, ?_, ?_⟩
    · rw [hI3 _ _ (Or.inr (by simp)), hI2, hg]; rfl
    · show mI M3 (r + 4) 0 = io 0
      rw [hI3 _ _ (by omega), bI _ _ (by omega) (by omega), ho _ _ (by omega)]
      exact hz
    · exact bS.keep (fun k => hI3 _ _ (by omega))
    · rw [hI3 _ _ (Or.inr (by simp)), hI2, hg]; rfl
  refine (htx FU 0 M3 (by rw [FU_val]; omega) (Nat.zero_le _) hZ).mono (fun x M4 ⟨c1, c2⟩ => ⟨c1, ?_, fun o k h1 h2 => ?_, fun o k => ?_, fun o k h3' => ?_⟩)
  · rw [c2.1 _ _ (Or.inr (by simp [fD])) (Or.inl (by omega)), hI3 _ _ (Or.inr (by simp)), hI2, hg]; rfl
  · rw [c2.1 _ _ (Or.inl h1) h2, hI3 _ _ (Or.inl h1), bI _ _ (by omega) (by omega), ho _ _ h1]
  · rw [c2.2.1, t2.2.1, bR, hR1]
  · rw [c2.2.2, t2.2.2, bL _ _ h3', hL1]
