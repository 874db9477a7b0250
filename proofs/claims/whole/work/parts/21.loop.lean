/-! ===== LEVEL 2: the law's loop, from its cases ===== -/
/-- a case keeps the invariant and goes on -/
def StepOK (Inv : Mem → Prop) (B : Nat → (Nat → Int32) → (Nat → Nat → Nat → Int32 → Mem → Option (Int32 × Mem)) → Nat → Nat → Nat → Int32 → Mem → Option (Int32 × Mem)) : Prop :=
  ∀ (L : Nat) (xs : Nat → Int32) (KK : Nat → Nat → Nat → Int32 → Mem → Option (Int32 × Mem)) (i : Nat) (M : Mem), Inv M → 6 * i + 6 ≤ L → L ≤ 3072 → ∃ M', Inv M' ∧ B L xs KK 1 72 111 (Int32.ofNat (6 * i)) M = KK 1 72 111 (Int32.ofNat (6 * i) + 6) M'
theorem inb_of {i n : Nat} (h : i < n) (hn : n ≤ 100000) : inb (Int32.ofNat i) n = true := by
  have h1 : i < 2 ^ 31 := by omega
  refine decide_eq_true (fun q => ?_)
  rcases q with q | q
  · rw [Int32.lt_iff_toInt_lt, Int32.toInt_ofNat_of_lt h1] at q
    have : (0 : Int32).toInt = 0 := by decide
    omega
  · rw [Int32.toNatClampNeg_ofNat_of_lt h1] at q
    omega
theorem at_of {i j n : Nat} (hj : i + j < n) (hn : n ≤ 100000) : inb (Int32.ofNat i + Int32.ofNat j) n = true := by
  rw [← Int32.ofNat_add]
  exact inb_of hj hn
theorem lim_of {L i : Nat} (hL : L ≤ 3072) (hi : i ≤ 600) : ((Int32.ofNat L - 6) < Int32.ofNat (6 * i)) ↔ L < 6 * i + 6 := by
  have e6 : (6 : Int32).toInt = 6 := by decide
  rw [Int32.lt_iff_toInt_lt, Int32.toInt_sub, Int32.toInt_ofNat_of_lt (by omega), Int32.toInt_ofNat_of_lt (by omega), e6]
  have hb : ((L : Int) - 6).bmod (2 ^ 32) = (L : Int) - 6 := by
    rw [Int.bmod_def]
    split <;> omega
  rw [hb]
  omega

theorem law_loop {Inv : Mem → Prop} (h0 : StepOK Inv zL_law_B192) (h1 : StepOK Inv zL_law_B265) (h2 : StepOK Inv zL_law_B333) (h3 : StepOK Inv zL_law_B346) (h4 : StepOK Inv zL_law_B402) (h5 : StepOK Inv zL_law_B470) (h6 : StepOK Inv zL_law_B550) (h7 : StepOK Inv zL_law_B630) (h8 : StepOK Inv zL_law_B710) (h9 : StepOK Inv zL_law_B758) (h10 : StepOK Inv zL_law_B833) (h11 : StepOK Inv zL_law_B913) (h12 : StepOK Inv zL_law_B993) (h13 : StepOK Inv zL_law_B1061) (h14 : StepOK Inv zL_law_B1129) (h15 : StepOK Inv zL_law_B1209) (h16 : StepOK Inv zL_law_B1301) (h17 : StepOK Inv zL_law_B1381) (h18 : StepOK Inv zL_law_B1449) (h19 : StepOK Inv zL_law_B1517) (h20 : StepOK Inv zL_law_B1597) (h21 : StepOK Inv zL_law_B1653) (h22 : StepOK Inv zL_law_B1745) (h23 : StepOK Inv zL_law_B1813) (h24 : StepOK Inv zL_law_B1881) (h25 : StepOK Inv zL_law_B1961) (h26 : StepOK Inv zL_law_B2041) (h27 : StepOK Inv zL_law_B2097) (h28 : StepOK Inv zL_law_B2153) (h29 : StepOK Inv zL_law_B2252) (h30 : StepOK Inv zL_law_B2320) (h31 : StepOK Inv zL_law_B2400) (h32 : StepOK Inv zL_law_B2456) (h33 : StepOK Inv zL_law_B2467) : ∀ (k i : Nat) (M : Mem) (L : Nat) (xs : Nat → Int32), L ≤ 3072 → Inv M → k + i = 513 → 6 * i ≤ L → ∃ M9, zL_law_L23 L xs k 1 72 111 (Int32.ofNat (6 * i)) M = some (1, M9) := by
  intro k
  induction k with
  | zero =>
    intro i M L xs hL hI hk hi
    omega
  | succ k ih =>
    intro i M L xs hL hI hk hi
    show ∃ M9, zL_law_B23 L xs (zL_law_L23 L xs k) 1 72 111 (Int32.ofNat (6 * i)) M = some (1, M9)
    have next : ∀ M', Inv M' → 6 * i + 6 ≤ L → ∃ M9, zL_law_L23 L xs k 1 72 111 (Int32.ofNat (6 * i) + 6) M' = some (1, M9) := by
      intro M' hI' h6
      have h := ih (i + 1) M' L xs hL hI' (by omega) (by omega)
      have e : Int32.ofNat (6 * (i + 1)) = Int32.ofNat (6 * i) + 6 := by
        rw [show 6 * (i + 1) = 6 * i + 6 by omega, Int32.ofNat_add]
        rfl
      rw [e] at h
      exact h
    unfold zL_law_B23
    by_cases hlim : Int32.ofNat L - 6 < Int32.ofNat (6 * i)
    · rw [if_pos hlim]
      exact ⟨M, rfl⟩
    · rw [if_neg hlim]
      have hh6 : 6 * i + 6 ≤ L := by
        rw [lim_of hL (by omega)] at hlim
        omega
      rw [if_pos (inb_of (by omega) (by omega)), lt_eq]
      generalize xs (Int32.toNatClampNeg (Int32.ofNat (6 * i))) &&& 63 = v
      have go : ∀ {B : Nat → (Nat → Int32) → (Nat → Nat → Nat → Int32 → Mem → Option (Int32 × Mem)) → Nat → Nat → Nat → Int32 → Mem → Option (Int32 × Mem)}, StepOK Inv B → ∃ M9, B L xs (zL_law_L23 L xs k) 1 72 111 (Int32.ofNat (6 * i)) M = some (1, M9) := by
        intro B h
        obtain ⟨M', hI', e⟩ := h L xs (zL_law_L23 L xs k) i M hI hh6 hL
        rw [e]
        exact next M' hI' hh6
      by_cases e0 : v = 0
      · rw [if_pos e0]
        exact go h0
      rw [if_neg e0]
      by_cases e1 : v = 1
      · rw [if_pos e1]
        exact go h1
      rw [if_neg e1]
      by_cases e2 : v = 2
      · rw [if_pos e2]
        exact go h2
      rw [if_neg e2]
      by_cases e3 : v = 3
      · rw [if_pos e3]
        exact go h3
      rw [if_neg e3]
      by_cases e4 : v = 4
      · rw [if_pos e4]
        exact go h4
      rw [if_neg e4]
      by_cases e5 : v = 5
      · rw [if_pos e5]
        exact go h5
      rw [if_neg e5]
      by_cases e6 : v = 6
      · rw [if_pos e6]
        exact go h6
      rw [if_neg e6]
      by_cases e7 : v = 7
      · rw [if_pos e7]
        exact go h7
      rw [if_neg e7]
      by_cases e8 : v = 8
      · rw [if_pos e8]
        exact go h8
      rw [if_neg e8]
      by_cases e9 : v = 9
      · rw [if_pos e9]
        exact go h9
      rw [if_neg e9]
      by_cases e10 : v = 10
      · rw [if_pos e10]
        exact go h10
      rw [if_neg e10]
      by_cases e11 : v = 11
      · rw [if_pos e11]
        exact go h11
      rw [if_neg e11]
      by_cases e12 : v = 12
      · rw [if_pos e12]
        exact go h12
      rw [if_neg e12]
      by_cases e13 : v = 13
      · rw [if_pos e13]
        exact go h13
      rw [if_neg e13]
      by_cases e14 : v = 14
      · rw [if_pos e14]
        exact go h14
      rw [if_neg e14]
      by_cases e15 : v = 15
      · rw [if_pos e15]
        exact go h15
      rw [if_neg e15]
      by_cases e16 : v = 16
      · rw [if_pos e16]
        exact go h16
      rw [if_neg e16]
      by_cases e17 : v = 17
      · rw [if_pos e17]
        exact go h17
      rw [if_neg e17]
      by_cases e18 : v = 18
      · rw [if_pos e18]
        exact go h18
      rw [if_neg e18]
      by_cases e19 : v = 19
      · rw [if_pos e19]
        exact go h19
      rw [if_neg e19]
      by_cases e20 : v = 20
      · rw [if_pos e20]
        exact go h20
      rw [if_neg e20]
      by_cases e21 : v = 21
      · rw [if_pos e21]
        exact go h21
      rw [if_neg e21]
      by_cases e22 : v = 22
      · rw [if_pos e22]
        exact go h22
      rw [if_neg e22]
      by_cases e23 : v = 23
      · rw [if_pos e23]
        exact go h23
      rw [if_neg e23]
      by_cases e24 : v = 24
      · rw [if_pos e24]
        exact go h24
      rw [if_neg e24]
      by_cases e25 : v = 25
      · rw [if_pos e25]
        exact go h25
      rw [if_neg e25]
      by_cases e26 : v = 26
      · rw [if_pos e26]
        exact go h26
      rw [if_neg e26]
      by_cases e27 : v = 27
      · rw [if_pos e27]
        exact go h27
      rw [if_neg e27]
      by_cases e28 : v = 28
      · rw [if_pos e28]
        exact go h28
      rw [if_neg e28]
      by_cases e29 : v = 29
      · rw [if_pos e29]
        exact go h29
      rw [if_neg e29]
      by_cases e30 : v = 30
      · rw [if_pos e30]
        exact go h30
      rw [if_neg e30]
      by_cases e31 : v = 31
      · rw [if_pos e31]
        exact go h31
      rw [if_neg e31]
      by_cases e32 : v = 32
      · rw [if_pos e32]
        exact go h32
      rw [if_neg e32]
      by_cases e33 : v = 33
      · rw [if_pos e33]
        exact go h33
      rw [if_neg e33]
      exact next M hI hh6
