/-! ===== LEVEL 2: sums, and what they say of CASES ===== -/
def sumL : List Nat → (Nat → Nat) → Nat
  | [], _ => 0
  | a :: l, f => f a + sumL l f
theorem sumL_N {n : Nat} {f : Nat → Nat} : ∀ {pl : List Nat}, pl.Nodup → (∀ t ∈ pl, t < n) → (∀ t, t < n → t ∉ pl → f t = 0) → sumL pl f = sumN n f := by
  have key : ∀ (pl : List Nat), pl.Nodup → (∀ t ∈ pl, t < n) → sumL pl f = sumN n (fun t => if t ∈ pl then f t else 0) := by
    intro pl
    induction pl with
    | nil => intro _ _; exact (sumN_zero (fun i _ => by simp)).symm
    | cons a l ih =>
      intro hn ht
      have hn' := List.nodup_cons.mp hn
      have e : ∀ t, t < n → (if t ∈ a :: l then f t else 0) = (if t = a then f a else 0) + (if t ∈ l then f t else 0) := by
        intro t _
        by_cases h : t = a
        · subst h; simp [hn'.1]
        · simp [h]
      rw [sumN_congr e, sumN_add, ← ih hn'.2 (fun t h => ht t (List.mem_cons_of_mem _ h)), sumN_one (ht a (List.mem_cons_self ..)) (fun i _ hi => by simp [hi])]
      simp [sumL]
  intro pl h1 h2 h3
  rw [key pl h1 h2]
  refine sumN_congr (fun t ht => ?_)
  by_cases h : t ∈ pl
  · rw [if_pos h]
  · rw [if_neg h, h3 t ht h]
theorem sumN_eq_of_le {n : Nat} {a b : Nat → Nat} (h : ∀ t, t < n → a t ≤ b t) (hs : sumN n a = sumN n b) : ∀ t, t < n → a t = b t := by
  induction n with
  | zero => intro t ht; omega
  | succ n ih =>
    simp only [sumN] at hs
    have h1 := sumN_le (fun i hi => h i (by omega) : ∀ i, i < n → a i ≤ b i)
    have h2 := h n (by omega)
    intro t ht
    by_cases e : t = n
    · subst e; omega
    · exact ih (fun i hi => h i (by omega)) (by omega) t (by omega)
theorem div_add_le (a b c : Nat) : a / c + b / c ≤ (a + b) / c := by
  rcases Nat.eq_zero_or_pos c with rfl | h
  · simp
  · rw [Nat.le_div_iff_mul_le h, Nat.add_mul]
    exact Nat.add_le_add (Nat.div_mul_le_self a c) (Nat.div_mul_le_self b c)
theorem sumN_div {m all a : Nat} {od : Nat → Nat} : sumN m (fun i => od i * a / all) ≤ sumN m od * a / all := by
  induction m with
  | zero => simp [sumN]
  | succ m ih =>
    simp only [sumN]
    rw [Nat.add_mul]
    exact Nat.le_trans (Nat.add_le_add_right ih _) (div_add_le _ _ _)
theorem sumN_mono {m n : Nat} {f : Nat → Nat} (h : m ≤ n) : sumN m f ≤ sumN n f := by
  induction n with
  | zero => have : m = 0 := by omega
            subst this; exact Nat.le_refl _
  | succ n ih =>
    by_cases e : m = n + 1
    · subst e; exact Nat.le_refl _
    · simp only [sumN]
      exact Nat.le_trans (ih (by omega)) (Nat.le_add_right _ _)
theorem pt_left {n all a m : Nat} {od : Nat → Nat} (hall : sumN n od = all) (h0 : 0 < all) (hm : m ≤ n) : sumN m (fun i => od i * a / all) ≤ a := by
  refine Nat.le_trans sumN_div ?_
  have h1 : sumN m od ≤ all := by rw [← hall]; exact sumN_mono hm
  calc sumN m od * a / all ≤ all * a / all := Nat.div_le_div_right (Nat.mul_le_mul_right _ h1)
    _ = a := by rw [Nat.mul_comm]; exact Nat.mul_div_cancel _ h0
theorem pt_lt {n all a s : Nat} {od : Nat → Nat} (h : s + 1 < n) : ptS n od all a s = od s * a / all := by
  unfold ptS
  rw [if_neg (by omega)]
theorem pt_sums {n all a m : Nat} {od : Nat → Nat} (h : m < n) : sumN m (ptS n od all a) = sumN m (fun i => od i * a / all) :=
  sumN_congr (fun i hi => pt_lt (by omega))
theorem pt_sum {n all a : Nat} {od : Nat → Nat} (hall : sumN n od = all) (h0 : 0 < all) (hn : 0 < n) : sumN n (ptS n od all a) = a := by
  obtain ⟨m, rfl⟩ : ∃ m, n = m + 1 := ⟨n - 1, by omega⟩
  simp only [sumN]
  rw [pt_sums (by omega)]
  have h1 := pt_left (a := a) (m := m) hall h0 (by omega)
  unfold ptS
  rw [if_pos rfl]
  omega
theorem pt_le {n all a s : Nat} {od : Nat → Nat} (hall : sumN n od = all) (h0 : 0 < all) (hs : s < n) : ptS n od all a s ≤ a := by
  have := sumN_mem (f := ptS n od all a) hs
  rw [pt_sum hall h0 (by omega)] at this
  exact this
theorem pt_zero {n all s : Nat} {od : Nat → Nat} : ptS n od all 0 s = 0 := by
  unfold ptS
  split <;> simp
/-- what is left ahead of the SORT s -/
theorem pt_last {n all a s : Nat} {od : Nat → Nat} (h : s + 1 = n) : ptS n od all a s = a - sumN s (ptS n od all a) := by
  unfold ptS
  rw [if_pos h]
  congr 1
  exact sumN_congr (fun i hi => by rw [if_neg (by omega)])
theorem stepC_sum {n all si : Nat} {od : Nat → Nat} {gf : Nat → Nat → Nat} {cs : Nat → Nat} (hall : sumN n od = all) (h0 : 0 < all) (hn : 0 < n) (hgo : ∀ t s, t < 100 → s < n → cs t ≠ 0 → goS si t (gf s t) < 100) :
    sumN 100 (stepC n od all si gf cs) = sumN 100 cs := by
  unfold stepC
  rw [sumN_swap 100 100 (fun u t => sumN n (fun s => if goS si t (gf s t) = u then ptS n od all (cs t) s else 0))]
  refine sumN_congr (fun t ht => ?_)
  rw [sumN_swap]
  by_cases hc : cs t = 0
  · rw [hc]
    refine sumN_zero (fun s _ => sumN_zero (fun u _ => ?_))
    split
    · exact pt_zero
    · rfl
  · refine Eq.trans (sumN_congr (fun s hs => ?_)) (pt_sum (a := cs t) hall h0 hn)
    rw [sumN_one (hgo t s ht hs hc) (fun u _ hu => if_neg (fun e => hu e.symm)), if_pos rfl]
theorem stepC_supp {n all si : Nat} {od : Nat → Nat} {gf : Nat → Nat → Nat} {cs : Nat → Nat} {S : Nat → Prop} (hgo : ∀ t s, t < 100 → s < n → cs t ≠ 0 → S (goS si t (gf s t))) : ∀ u, stepC n od all si gf cs u ≠ 0 → S u := by
  intro u hu
  refine Classical.byContradiction (fun hS => hu ?_)
  unfold stepC
  refine sumN_zero (fun t ht => sumN_zero (fun s hs => ?_))
  split
  · next e =>
    by_cases hc : cs t = 0
    · rw [hc]; exact pt_zero
    · exact absurd (e ▸ hgo t s ht hs hc) hS
  · rfl
/-- a walk is in order: what it needs of odds and gifts -/
def WOK (n : Nat) (od : Nat → Nat) (all si : Nat) (gf : Nat → Nat → Nat) : Prop := n ≤ 8 ∧ sumN n od = all ∧ (∀ s, s < n → 1 ≤ od s ∧ od s ≤ 99) ∧ si ≤ 2 ∧ ∀ s t, s < n → t < stN si → gf s t ≤ 10
theorem WOK.pos {n all si : Nat} {od : Nat → Nat} {gf : Nat → Nat → Nat} (h : WOK n od all si gf) (hn : 0 < n) : 0 < all := by
  have := sumN_mem (f := od) hn
  have := (h.2.2.1 0 hn).1
  have := h.2.1
  omega
theorem stN_le (si : Nat) : stN si ≤ 100 := by unfold stN; split <;> (try split) <;> omega
theorem stN_pos (si : Nat) : 0 < stN si := by unfold stN; split <;> (try split) <;> omega
theorem behS_lt {si st g : Nat} (hg : g ≤ 9) (hsi : si ≤ 2) : behS si st g < stN si := by
  unfold behS stN
  split
  · omega
  · split <;> omega
theorem goS_lt {si st x : Nat} (hx : x ≤ 10) (hsi : si ≤ 2) (hst : st < stN si) : goS si st x < stN si := by
  unfold goS
  split
  · exact hst
  · exact behS_lt (by omega) hsi
theorem casesS_ok {n all si seed : Nat} {od : Nat → Nat} {gf : Nat → Nat → Nat} (h : WOK n od all si gf) (hn : 0 < n) (hs : seed < stN si) : ∀ k, sumN 100 (casesS n od all si gf seed k) = 1000000000 ∧ ∀ t, casesS n od all si gf seed k t ≠ 0 → t < stN si := by
  intro k
  induction k with
  | zero =>
    refine ⟨?_, fun t ht => ?_⟩
    · show sumN 100 (fun t => if t = seed then 1000000000 else 0) = _
      rw [sumN_one (Nat.lt_of_lt_of_le hs (stN_le si)) (fun i _ hi => if_neg hi), if_pos rfl]
    · by_cases e : t = seed
      · exact e ▸ hs
      · exact absurd (if_neg e) ht
  | succ k ih =>
    refine ⟨?_, ?_⟩
    · rw [← ih.1]
      exact stepC_sum h.2.1 (h.pos hn) hn (fun t s _ hs' hc => Nat.lt_of_lt_of_le (goS_lt (h.2.2.2.2 s t hs' (ih.2 t hc)) h.2.2.2.1 (ih.2 t hc)) (stN_le si))
    · exact stepC_supp (S := fun u => u < stN si) (fun t s _ hs' hc => goS_lt (h.2.2.2.2 s t hs' (ih.2 t hc)) h.2.2.2.1 (ih.2 t hc))
theorem casesS_le {n all si seed : Nat} {od : Nat → Nat} {gf : Nat → Nat → Nat} (h : WOK n od all si gf) (hn : 0 < n) (hs : seed < stN si) (k t : Nat) : casesS n od all si gf seed k t ≤ 1000000000 := by
  by_cases e : casesS n od all si gf seed k t = 0
  · omega
  · obtain ⟨h1, h2⟩ := casesS_ok h hn hs k
    rw [← h1]
    exact sumN_mem (Nat.lt_of_lt_of_le (h2 t e) (stN_le si))
theorem stepG_le {n all si : Nat} {od : Nat → Nat} {gf : Nat → Nat → Nat} {cs : Nat → Nat} (h : WOK n od all si gf) (hn : 0 < n) (hc : ∀ t, cs t ≠ 0 → t < stN si) : stepG n od all gf cs ≤ sumN 100 cs * 9 := by
  unfold stepG
  rw [← sumN_mul]
  refine sumN_le (fun t _ => ?_)
  by_cases e : cs t = 0
  · rw [e, sumN_zero (fun s _ => by rw [pt_zero, Nat.zero_mul])]
    exact Nat.zero_le _
  · rw [← pt_sum (a := cs t) h.2.1 (h.pos hn) hn, ← sumN_mul]
    refine sumN_le (fun s hs => ?_)
    have e2 := pt_sum (a := cs t) h.2.1 (h.pos hn) hn
    rw [e2]
    exact Nat.mul_le_mul_left _ (by have := h.2.2.2.2 s t hs (hc t e); omega)
theorem stepA_le {n all si : Nat} {od : Nat → Nat} {gf : Nat → Nat → Nat} {cs : Nat → Nat} (h : WOK n od all si gf) (hn : 0 < n) : stepA n od all gf cs ≤ sumN 100 cs := by
  unfold stepA
  refine sumN_le (fun t _ => ?_)
  have e2 := pt_sum (a := cs t) h.2.1 (h.pos hn) hn
  calc _ ≤ sumN n (ptS n od all (cs t)) := sumN_le (fun s _ => by split <;> omega)
    _ = cs t := e2
theorem givenS_le {n all si seed : Nat} {od : Nat → Nat} {gf : Nat → Nat → Nat} (h : WOK n od all si gf) (hn : 0 < n) (hs : seed < stN si) (k : Nat) : givenS n od all si gf seed k ≤ k * 9000000000 := by
  induction k with
  | zero => exact Nat.le_refl _
  | succ k ih =>
    unfold givenS at ih ⊢
    simp only [sumN]
    have h1 := stepG_le h hn (casesS_ok h hn hs k).2
    rw [(casesS_ok h hn hs k).1] at h1
    omega
theorem awayS_le {n all si seed : Nat} {od : Nat → Nat} {gf : Nat → Nat → Nat} (h : WOK n od all si gf) (hn : 0 < n) (hs : seed < stN si) (k : Nat) : awayS n od all si gf seed k ≤ k * 1000000000 := by
  induction k with
  | zero => exact Nat.le_refl _
  | succ k ih =>
    unfold awayS at ih ⊢
    simp only [sumN]
    have h1 := stepA_le (cs := casesS n od all si gf seed k) h hn
    rw [(casesS_ok h hn hs k).1] at h1
    omega
/-- CASES that stand still go on so -/
theorem cases_still {n all si seed : Nat} {od : Nat → Nat} {gf : Nat → Nat → Nat} {k : Nat} (h : casesS n od all si gf seed (k + 1) = casesS n od all si gf seed k) : ∀ d, casesS n od all si gf seed (k + d) = casesS n od all si gf seed k := by
  intro d
  induction d with
  | zero => rfl
  | succ d ih =>
    show stepC n od all si gf (casesS n od all si gf seed (k + d)) = _
    rw [ih]
    exact h
theorem given_still {n all si seed : Nat} {od : Nat → Nat} {gf : Nat → Nat → Nat} {k : Nat} (h : casesS n od all si gf seed (k + 1) = casesS n od all si gf seed k) : ∀ d, givenS n od all si gf seed (k + d) = givenS n od all si gf seed k + d * stepG n od all gf (casesS n od all si gf seed k) := by
  intro d
  induction d with
  | zero => simp
  | succ d ih =>
    show givenS n od all si gf seed (k + d) + stepG n od all gf (casesS n od all si gf seed (k + d)) = _
    rw [ih, cases_still h, Nat.add_mul, Nat.one_mul, Nat.add_assoc]
theorem away_still {n all si seed : Nat} {od : Nat → Nat} {gf : Nat → Nat → Nat} {k : Nat} (h : casesS n od all si gf seed (k + 1) = casesS n od all si gf seed k) : ∀ d, awayS n od all si gf seed (k + d) = awayS n od all si gf seed k + d * stepA n od all gf (casesS n od all si gf seed k) := by
  intro d
  induction d with
  | zero => simp
  | succ d ih =>
    show awayS n od all si gf seed (k + d) + stepA n od all gf (casesS n od all si gf seed (k + d)) = _
    rw [ih, cases_still h, Nat.add_mul, Nat.one_mul, Nat.add_assoc]
theorem sumN_cut {m n : Nat} {f : Nat → Nat} (hm : m ≤ n) (h : ∀ i, m ≤ i → i < n → f i = 0) : sumN n f = sumN m f := by
  induction n with
  | zero => have : m = 0 := by omega
            subst this; rfl
  | succ n ih =>
    by_cases e : m = n + 1
    · subst e; rfl
    · simp only [sumN]
      rw [ih (by omega) (fun i h1 h2 => h i h1 (by omega)), h n (by omega) (by omega), Nat.add_zero]
/-! what the first m SORTS of a STATE bring -/
def pC (n : Nat) (od : Nat → Nat) (all si : Nat) (gf : Nat → Nat → Nat) (cs : Nat → Nat) (u t m : Nat) : Nat := sumN m (fun s => if goS si t (gf s t) = u then ptS n od all (cs t) s else 0)
def pG (n : Nat) (od : Nat → Nat) (all : Nat) (gf : Nat → Nat → Nat) (cs : Nat → Nat) (t m : Nat) : Nat := sumN m (fun s => ptS n od all (cs t) s * (gf s t - 1))
def pA (n : Nat) (od : Nat → Nat) (all : Nat) (gf : Nat → Nat → Nat) (cs : Nat → Nat) (t m : Nat) : Nat := sumN m (fun s => if gf s t = 0 then ptS n od all (cs t) s else 0)
theorem pC_zero {n all si t u m : Nat} {od : Nat → Nat} {gf : Nat → Nat → Nat} {cs : Nat → Nat} (h : cs t = 0) : pC n od all si gf cs u t m = 0 := sumN_zero (fun s _ => by rw [h, pt_zero]; split <;> rfl)
theorem pG_zero {n all t m : Nat} {od : Nat → Nat} {gf : Nat → Nat → Nat} {cs : Nat → Nat} (h : cs t = 0) : pG n od all gf cs t m = 0 := sumN_zero (fun s _ => by rw [h, pt_zero, Nat.zero_mul])
theorem pA_zero {n all t m : Nat} {od : Nat → Nat} {gf : Nat → Nat → Nat} {cs : Nat → Nat} (h : cs t = 0) : pA n od all gf cs t m = 0 := sumN_zero (fun s _ => by rw [h, pt_zero]; split <;> rfl)
theorem stepC_p {n all si u N : Nat} {od : Nat → Nat} {gf : Nat → Nat → Nat} {cs : Nat → Nat} (hN : N ≤ 100) (h : ∀ t, cs t ≠ 0 → t < N) : stepC n od all si gf cs u = sumN N (fun t => pC n od all si gf cs u t n) :=
  sumN_cut (f := fun t => pC n od all si gf cs u t n) hN (fun i h1 _ => pC_zero (Classical.byContradiction (fun q => by have := h i q; omega)))
theorem stepG_p {n all N : Nat} {od : Nat → Nat} {gf : Nat → Nat → Nat} {cs : Nat → Nat} (hN : N ≤ 100) (h : ∀ t, cs t ≠ 0 → t < N) : stepG n od all gf cs = sumN N (fun t => pG n od all gf cs t n) :=
  sumN_cut (f := fun t => pG n od all gf cs t n) hN (fun i h1 _ => pG_zero (Classical.byContradiction (fun q => by have := h i q; omega)))
theorem stepA_p {n all N : Nat} {od : Nat → Nat} {gf : Nat → Nat → Nat} {cs : Nat → Nat} (hN : N ≤ 100) (h : ∀ t, cs t ≠ 0 → t < N) : stepA n od all gf cs = sumN N (fun t => pA n od all gf cs t n) :=
  sumN_cut (f := fun t => pA n od all gf cs t n) hN (fun i h1 _ => pA_zero (Classical.byContradiction (fun q => by have := h i q; omega)))
theorem pt_upto {n all a m : Nat} {od : Nat → Nat} (hall : sumN n od = all) (h0 : 0 < all) (hm : m ≤ n) : sumN m (ptS n od all a) ≤ a := by
  rcases Nat.eq_zero_or_pos n with e | e
  · have : m = 0 := by omega
    subst this; exact Nat.zero_le _
  · exact Nat.le_trans (sumN_mono hm) (Nat.le_of_eq (pt_sum hall h0 e))
theorem pC_succ {n all si u t s : Nat} {od : Nat → Nat} {gf : Nat → Nat → Nat} {cs : Nat → Nat} : pC n od all si gf cs u t (s + 1) = pC n od all si gf cs u t s + (if goS si t (gf s t) = u then ptS n od all (cs t) s else 0) := rfl
theorem pG_succ {n all t s : Nat} {od : Nat → Nat} {gf : Nat → Nat → Nat} {cs : Nat → Nat} : pG n od all gf cs t (s + 1) = pG n od all gf cs t s + ptS n od all (cs t) s * (gf s t - 1) := rfl
theorem pA_succ {n all t s : Nat} {od : Nat → Nat} {gf : Nat → Nat → Nat} {cs : Nat → Nat} : pA n od all gf cs t (s + 1) = pA n od all gf cs t s + (if gf s t = 0 then ptS n od all (cs t) s else 0) := rfl
