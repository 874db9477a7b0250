/-! ===== LEVEL 2: near: couples ===== -/
def kC (n : Nat) (od : Nat → Nat) (all : Nat) (d : Nat → Nat → Nat) (cs : Nat → Nat) (u c m : Nat) : Nat := sumN m (fun s => if d c s = u then ptS n od all (cs c) s else 0)
def kW (n : Nat) (od : Nat → Nat) (all : Nat) (w : Nat → Nat → Nat) (cs : Nat → Nat) (c m : Nat) : Nat := sumN m (fun s => ptS n od all (cs c) s * w c s)
def skC (n : Nat) (od : Nat → Nat) (all : Nat) (d : Nat → Nat → Nat) (cs : Nat → Nat) (u : Nat) : Nat := sumN 10000 (fun c => kC n od all d cs u c n)
def skW (n : Nat) (od : Nat → Nat) (all : Nat) (w : Nat → Nat → Nat) (cs : Nat → Nat) : Nat := sumN 10000 (fun c => kW n od all w cs c n)
def nrS (n : Nat) (od : Nat → Nat) (all : Nat) (d : Nat → Nat → Nat) (c0 : Nat) : Nat → Nat → Nat
  | 0 => fun c => if c = c0 then 1000000000 else 0
  | k + 1 => skC n od all d (nrS n od all d c0 k)
def nwS (n : Nat) (od : Nat → Nat) (all : Nat) (d w : Nat → Nat → Nat) (c0 k : Nat) : Nat := sumN k (fun j => skW n od all w (nrS n od all d c0 j))
theorem kC_zero {n all u c m : Nat} {od : Nat → Nat} {d : Nat → Nat → Nat} {cs : Nat → Nat} (h : cs c = 0) : kC n od all d cs u c m = 0 := sumN_zero (fun s _ => by rw [h, pt_zero]; split <;> rfl)
theorem kW_zero {n all c m : Nat} {od : Nat → Nat} {w : Nat → Nat → Nat} {cs : Nat → Nat} (h : cs c = 0) : kW n od all w cs c m = 0 := sumN_zero (fun s _ => by rw [h, pt_zero, Nat.zero_mul])
theorem kC_le {n all u c m : Nat} {od : Nat → Nat} {d : Nat → Nat → Nat} {cs : Nat → Nat} (hall : sumN n od = all) (h0 : 0 < all) (hm : m ≤ n) : kC n od all d cs u c m ≤ cs c :=
  Nat.le_trans (sumN_le (fun s _ => by split <;> omega)) (pt_upto hall h0 hm)
theorem kW_le {n all c m : Nat} {od : Nat → Nat} {w : Nat → Nat → Nat} {cs : Nat → Nat} (hall : sumN n od = all) (h0 : 0 < all) (hm : m ≤ n) (hw : ∀ s, s < n → w c s ≤ 9) : kW n od all w cs c m ≤ cs c * 9 := by
  have h1 : kW n od all w cs c m ≤ sumN m (fun s => ptS n od all (cs c) s * 9) := sumN_le (fun s hs => Nat.mul_le_mul_left _ (hw s (by omega)))
  rw [sumN_mul] at h1
  exact Nat.le_trans h1 (Nat.mul_le_mul_right _ (pt_upto hall h0 hm))
theorem ind_le (d N p : Nat) : sumN N (fun u => if d = u then p else 0) ≤ p := by
  by_cases h : d < N
  · rw [sumN_one h (fun i _ hi => if_neg (fun z => hi z.symm)), if_pos rfl]
    exact Nat.le_refl _
  · rw [sumN_zero (fun i hi => if_neg (by omega))]
    exact Nat.zero_le _
theorem skC_sum {n all : Nat} {od : Nat → Nat} {d : Nat → Nat → Nat} {cs : Nat → Nat} (hall : sumN n od = all) (h0 : 0 < all) : sumN 10000 (skC n od all d cs) ≤ sumN 10000 cs := by
  have e : sumN 10000 (skC n od all d cs) = sumN 10000 (fun c => sumN 10000 (fun u => kC n od all d cs u c n)) := sumN_swap 10000 10000 (fun u c => kC n od all d cs u c n)
  rw [e]
  refine sumN_le (fun c _ => ?_)
  have e2 : sumN 10000 (fun u => kC n od all d cs u c n) = sumN n (fun s => sumN 10000 (fun u => if d c s = u then ptS n od all (cs c) s else 0)) := sumN_swap 10000 n (fun u s => if d c s = u then ptS n od all (cs c) s else 0)
  rw [e2]
  exact Nat.le_trans (sumN_le (fun s _ => ind_le _ _ _)) (pt_upto hall h0 (Nat.le_refl _))
theorem skC_supp {n all : Nat} {od : Nat → Nat} {d : Nat → Nat → Nat} {cs : Nat → Nat} {OK : Nat → Prop} (h : ∀ c, cs c ≠ 0 → OK c) (hd : ∀ c s, OK c → s < n → OK (d c s)) : ∀ u, skC n od all d cs u ≠ 0 → OK u := by
  intro u hu
  refine Classical.byContradiction (fun hn => hu (sumN_zero (fun c _ => ?_)))
  by_cases hc : cs c = 0
  · exact kC_zero hc
  · refine sumN_zero (fun s hs => ?_)
    rw [if_neg]
    intro z
    exact hn (z ▸ hd c s (h c hc) hs)
theorem nr0_sum (c0 : Nat) : sumN 10000 (fun c => if c = c0 then 1000000000 else 0) ≤ 1000000000 := by
  have e : sumN 10000 (fun c => if c = c0 then 1000000000 else 0) = sumN 10000 (fun c => if c0 = c then 1000000000 else 0) := sumN_congr (fun i _ => by
    by_cases q : i = c0
    · rw [if_pos q, if_pos q.symm]
    · rw [if_neg q, if_neg (fun z => q z.symm)])
  rw [e]
  exact ind_le _ _ _
theorem nr_ok {n all c0 : Nat} {od : Nat → Nat} {d : Nat → Nat → Nat} {OK : Nat → Prop} (hall : sumN n od = all) (h0 : 0 < all) (hc0 : OK c0) (hd : ∀ c s, OK c → s < n → OK (d c s)) : ∀ k, sumN 10000 (nrS n od all d c0 k) ≤ 1000000000 ∧ ∀ c, nrS n od all d c0 k c ≠ 0 → OK c
  | 0 => ⟨nr0_sum c0, fun c hc => by
      have : c = c0 := Classical.byContradiction (fun q => hc (if_neg q))
      rw [this]; exact hc0⟩
  | k + 1 => by
    have ih := nr_ok hall h0 hc0 hd k
    exact ⟨Nat.le_trans (skC_sum hall h0) ih.1, skC_supp ih.2 hd⟩
theorem skW_le {n all : Nat} {od : Nat → Nat} {w : Nat → Nat → Nat} {cs : Nat → Nat} (hall : sumN n od = all) (h0 : 0 < all) (hw : ∀ c s, cs c ≠ 0 → s < n → w c s ≤ 9) (hs : sumN 10000 cs ≤ 1000000000) : skW n od all w cs ≤ 9000000000 := by
  have h1 : skW n od all w cs ≤ sumN 10000 (fun c => cs c * 9) := sumN_le (fun c _ => by
    by_cases hc : cs c = 0
    · rw [kW_zero hc]; exact Nat.zero_le _
    · exact kW_le hall h0 (Nat.le_refl _) (fun s hs => hw c s hc hs))
  rw [sumN_mul] at h1
  omega
theorem nwS_le {n all c0 : Nat} {od : Nat → Nat} {d w : Nat → Nat → Nat} {OK : Nat → Prop} (hall : sumN n od = all) (h0 : 0 < all) (hc0 : OK c0) (hd : ∀ c s, OK c → s < n → OK (d c s)) (hw : ∀ c s, OK c → s < n → w c s ≤ 9) (k : Nat) : nwS n od all d w c0 k ≤ k * 9000000000 := by
  induction k with
  | zero => exact Nat.zero_le _
  | succ k ih =>
    have h1 := nr_ok hall h0 hc0 hd k
    have h2 := skW_le (w := w) hall h0 (fun c s hc hs => hw c s (h1.2 c hc) hs) h1.1
    show nwS n od all d w c0 k + skW n od all w (nrS n od all d c0 k) ≤ _
    omega
/-! sums in blocks -/
theorem sumN_app (m n : Nat) (f : Nat → Nat) : sumN (m + n) f = sumN m f + sumN n (fun y => f (m + y)) := by
  induction n with
  | zero => rfl
  | succ n ih => rw [← Nat.add_assoc]; simp only [sumN]; rw [ih, Nat.add_assoc]
theorem sumN_block (a n : Nat) (f : Nat → Nat) : sumN (a * n) f = sumN a (fun x => sumN n (fun y => f (x * n + y))) := by
  induction a with
  | zero => rw [Nat.zero_mul]; rfl
  | succ a ih => rw [Nat.succ_mul, sumN_app, ih]; rfl
theorem sum_code {s0 s1 : Nat} {f : Nat → Nat} (h0 : s0 ≤ 100) (h1 : s1 ≤ 100) (h1p : 0 < s1) (hf : ∀ c, ¬ (c / 100 < s0 ∧ c % 100 < s1) → f c = 0) : sumN (s0 * s1) (fun i => f (i / s1 * 100 + i % s1)) = sumN 10000 f := by
  have e : (10000 : Nat) = 100 * 100 := rfl
  rw [e, sumN_block, sumN_block]
  rw [sumN_cut h0 (fun x hx hx2 => sumN_zero (fun y hy => hf _ (by omega)))]
  refine sumN_congr (fun x hx => ?_)
  rw [sumN_cut h1 (fun y hy hy2 => hf _ (by omega))]
  refine sumN_congr (fun y hy => ?_)
  show f ((x * s1 + y) / s1 * 100 + (x * s1 + y) % s1) = f (x * 100 + y)
  rw [Nat.mul_comm x s1, Nat.mul_add_div h1p, Nat.mul_add_mod, Nat.div_eq_of_lt hy, Nat.mod_eq_of_lt hy, Nat.add_zero]
/-! the gates -/
def nxS (v0 : GV) (sv0 : SV) (c s : Nat) : Nat := giftS v0 sv0 s (c / 100) 0
def nyS (v0 : GV) (sv0 : SV) (v1 : GV) (sv1 : SV) (c s : Nat) : Nat := giftS v1 sv1 s (c % 100) (nxS v0 sv0 c s - 1)
def nbS (v0 : GV) (sv0 : SV) (v1 : GV) (sv1 : SV) (c s : Nat) : Nat := if s < gN v1 then goS (gSi v1) (c % 100) (nyS v0 sv0 v1 sv1 c s) else c % 100
def ndS (v0 : GV) (sv0 : SV) (v1 : GV) (sv1 : SV) (c s : Nat) : Nat := goS (gSi v0) (c / 100) (nxS v0 sv0 c s) * 100 + nbS v0 sv0 v1 sv1 c s
def nwF (v0 : GV) (sv0 : SV) (c s : Nat) : Nat := nxS v0 sv0 c s - 1
def nwG (v0 : GV) (sv0 : SV) (v1 : GV) (sv1 : SV) (c s : Nat) : Nat := if s < gN v1 then nyS v0 sv0 v1 sv1 c s - 1 else 0
def nwA (v0 : GV) (sv0 : SV) (v1 : GV) (sv1 : SV) (c s : Nat) : Nat := if s < gN v1 ∧ nyS v0 sv0 v1 sv1 c s = 0 then 1 else 0
def okC (v0 v1 : GV) (c : Nat) : Prop := c / 100 < stN (gSi v0) ∧ c % 100 < stN (gSi v1)
theorem nx_le {v0 : GV} {sv0 : SV} {c s : Nat} (hv : okG v0) (hs : s < gN v0) : nxS v0 sv0 c s ≤ 10 := by
  have := (hv.2.2.2.2.2.2 s hs).2.2.2.1
  exact giftQ_le (v := v0) (sv := sv0) (s := s) (st := c / 100) (money := gPu v0 s - 0) (by omega)
theorem ny_le {v0 v1 : GV} {sv0 sv1 : SV} {c s : Nat} (hv : okG v1) (hs : s < gN v1) : nyS v0 sv0 v1 sv1 c s ≤ 10 := by
  have := (hv.2.2.2.2.2.2 s hs).2.2.2.1
  exact giftQ_le (v := v1) (sv := sv1) (s := s) (st := c % 100) (money := gPu v1 s - (nxS v0 sv0 c s - 1)) (by omega)
theorem nb_lt {v0 v1 : GV} {sv0 sv1 : SV} {c s : Nat} (hv1 : okG v1) (hc : okC v0 v1 c) : nbS v0 sv0 v1 sv1 c s < stN (gSi v1) := by
  unfold nbS
  by_cases h : s < gN v1
  · rw [if_pos h]; exact goS_lt (ny_le hv1 h) (okG_si hv1) hc.2
  · rw [if_neg h]; exact hc.2
theorem nd_ok {v0 v1 : GV} {sv0 sv1 : SV} {c s : Nat} (hv0 : okG v0) (hv1 : okG v1) (hc : okC v0 v1 c) (hs : s < gN v0) : okC v0 v1 (ndS v0 sv0 v1 sv1 c s) := by
  have h1 := goS_lt (nx_le (sv0 := sv0) (c := c) hv0 hs) (okG_si hv0) hc.1
  have h2 := nb_lt (sv0 := sv0) (sv1 := sv1) (s := s) hv1 hc
  have h3 := stN_le (gSi v1)
  unfold okC ndS
  constructor <;> omega
theorem nw_le {v0 v1 : GV} {sv0 sv1 : SV} {c s : Nat} (hv0 : okG v0) (hv1 : okG v1) (hs : s < gN v0) : nwF v0 sv0 c s ≤ 9 ∧ nwG v0 sv0 v1 sv1 c s ≤ 9 ∧ nwA v0 sv0 v1 sv1 c s ≤ 9 := by
  have h1 := nx_le (sv0 := sv0) (c := c) hv0 hs
  refine ⟨?_, ?_, ?_⟩
  · unfold nwF; omega
  · unfold nwG
    by_cases h : s < gN v1
    · have := ny_le (v0 := v0) (sv0 := sv0) (sv1 := sv1) (c := c) hv1 h
      rw [if_pos h]; omega
    · rw [if_neg h]; omega
  · unfold nwA
    split <;> omega
