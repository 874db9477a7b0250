/-! ===== LEVEL 2: gate ===== -/
def b00 : BV := (0, 0, 0, io 0, io 0, fun _ => 0, fun _ => 0)
def gvZ (Z : ZV) : GV := (gN (zV Z), gSi (zV Z), gCh (zV Z), gBo (zV Z), gOd (zV Z), gWo (zV Z), gPu (zV Z), gB (zV Z), gE (zV Z), xC (zX Z), xL (zX Z))
def gtE (V : VV) (e : Int32) : VV := (vG V, vS V, vB V, vK V, vH V, vT V, vU V, 0, vP V, e)
def gtV (V : VV) (g : Nat) (Z : ZV) : VV := ((fun h => if h = g then gvZ Z else vG V h), (fun h => if h = g then zS Z else vS V h), (fun h => if h = g then b00 else vB V h), vK V, false, vT V, vU V, 0, vP V, m1)
theorem okV.gtE {V : VV} {e : Int32} (h : okV V) : okV (gtE V e) := ⟨h.1, Nat.zero_le _, fun k hk => absurd hk (Nat.not_lt_zero k)⟩
theorem okG_Z {P : Nat → Nat} {n : Nat} {Z : ZV} (hn : n ≤ 700) (h : okZ P n Z) : okG (gvZ Z) := by
  obtain ⟨h1, h2, h3, h4, h5, h6, h7, h8, h9⟩ := h
  refine ⟨h2, h3, h4, h5, h6, ?_, fun s hs => ?_⟩
  · show xL (zX Z) ≤ 700
    have := h1.2.1; have := h1.1.1; have := h1.1.2.1
    omega
  · obtain ⟨a1, a2, a3, a4, a5, a6, a7⟩ := h9 s hs
    exact ⟨a1, a2, a3, a4, a5, a6, hgt_of _ _ _ a7⟩
theorem okB_00 {v : GV} : okB v b00 := by
  have : 0 < stN (gSi v) := by unfold stN; split <;> (try split) <;> omega
  exact ⟨this, this, by show 0 ≤ 200; omega, fun i hi => absurd hi (Nat.not_lt_zero i), fun j _ => Nat.zero_le _, fun j _ _ => rfl⟩
theorem okV.gtV {P : Nat → Nat} {n g : Nat} {V : VV} {Z : ZV} (hn : n ≤ 700) (h : okV V) (hZ : okZ P n Z) : okV (gtV V g Z) := by
  refine ⟨fun g' hg' => ?_, Nat.zero_le _, fun k hk => absurd hk (Nat.not_lt_zero k)⟩
  obtain ⟨a1, a2, a3, a4⟩ := h.1 g' hg'
  show okG (if g' = g then gvZ Z else vG V g') ∧ okS (if g' = g then zS Z else vS V g') ∧ okB (if g' = g then gvZ Z else vG V g') (if g' = g then b00 else vB V g') ∧ (false = true → _)
  by_cases q : g' = g
  · rw [if_pos q, if_pos q, if_pos q]
    exact ⟨okG_Z hn hZ, (okZ_self hZ).1, okB_00, fun z => by cases z⟩
  · rw [if_neg q, if_neg q, if_neg q]
    exact ⟨a1, a2, a3, fun z => by cases z⟩
/-! the class -/
theorem R2_dis {M : Mem} {R : Nat → Nat} (h : RI M R) {g : Nat} (hg : g < 2) : R g + 6 < R 2 ∨ R 2 + 6 < R g := by
  have hne : R g ≠ R 2 := by
    have : g = 0 ∨ g = 1 := by omega
    rcases this with rfl | rfl
    · exact h.2.2.2.2.2.2.2.1
    · exact h.2.2.2.2.2.2.2.2
  rcases h.ru hg with e | e | e <;> rcases h.2.2.2.2.2.1 with e' | e' | e' <;> omega
theorem ru_rng {r : Nat} (h : isRu r) : r = 4 ∨ r = 12 ∨ r = 26 := h
theorem ICp.gtE {M M' : Mem} {R : Nat → Nat} {V : VV} {e : Int32} (h : ICp M R V) (hI : ∀ o k, o ≤ 40 → o ≠ 2 → (o ≠ 1 ∨ k ≠ 6) → (o < R 2 ∨ R 2 + 6 < o ∨ (o = R 2 + 4 ∧ k = 0)) → mI M' o k = mI M o k) (hR : ∀ o k, o ≤ 40 → mR M' o k = mR M o k) (h1 : mI M' 2 1 = io 0) (h6 : mI M' 1 6 = e) : ICp M' R (gtE V e) := by
  obtain ⟨q1, q2, q3, q4, q5, q6, q7, q8, q9⟩ := h
  have hr2 := ru_rng q2.2.2.2.2.2.1
  refine ⟨q1.keep hR, q2.keep hR, fun g' hg' => ?_, ?_, fun i hi => ?_, fun q i hi => ?_, h1, fun k hk => absurd hk (Nat.not_lt_zero k), h6, fun r hr => ?_⟩
  · obtain ⟨a1, a2, a3, a4⟩ := q3 g' hg'
    obtain ⟨i1, i2, i3, -⟩ := ids q2 hg'
    have := R2_dis q2 hg'
    exact ⟨a1.keep (fun j hj k => hI _ _ (by omega) (by omega) (by omega) (by omega)), a2.keep (fun k => hI _ _ (by omega) (by omega) (by omega) (by omega)), a3.keep (fun j hj k => hI _ _ (by omega) (by omega) (by omega) (by omega)), fun q => (a4 q).keep (fun j hj k => hI _ _ (by omega) (by omega) (by omega) (by omega))⟩
  · rw [hI _ _ (by omega) (by omega) (by omega) (by omega)]; exact q4
  · rw [hI _ _ (by omega) (by omega) (by omega) (by omega)]; exact q5 i hi
  · rw [hI _ _ (by omega) (by omega) (by omega) (by omega)]; exact q6 q i hi
  · have hr' := ru_rng hr
    rw [hI _ _ (by omega) (by omega) (by omega) (by omega)]; exact q9.2 r hr
theorem PC1.sR {M : Mem} {o k v : Nat} (h : PC1 M) (ho : (o = 2 ∧ k = 3) ∨ ((o = 11 ∨ o = 25) ∧ k = 0)) : PC1 (sR M o k v) := fun t ht => by
  have hd : ∀ t ∈ PTc1, ¬ ((t.1 = 2 ∧ t.2.1 = 3) ∨ ((t.1 = 11 ∨ t.1 = 25) ∧ t.2.1 = 0)) := by decide
  have := hd t ht
  rw [mR_sR, if_neg (by omega)]
  exact h t ht
theorem c_clearB {M : Mem} {g : Nat} (hP : PC1 M) : Wp (zX0_clear (bid g) M) (fun _ M' => CB M' (bid g) b00 ∧ (∀ o k, (o < bid g ∨ bid g + 2 < o) → mI M' o k = mI M o k) ∧ (∀ o k, mR M' o k = mR M o k) ∧ ∀ o k, (o = 0 ∨ 72 < o) → mL M' o k = mL M o k) := by
  have hb : bid g = 19 ∨ bid g = 33 := by unfold bid; split <;> simp
  obtain ⟨M1, hM1⟩ : ∃ M1, M1 = sI (sI (sI (sI (sI M (bid g) 0 (io 0)) (bid g) 1 (io 0)) (bid g) 2 (io 0)) (bid g) 3 (io 0)) (bid g) 4 (io 0) := ⟨_, rfl⟩
  have hP1 : PC1 M1 := by rw [hM1]; exact hP
  have hg' : ∀ k, mI M1 (bid g) k = if k = 4 then io 0 else if k = 3 then io 0 else if k = 2 then io 0 else if k = 1 then io 0 else if k = 0 then io 0 else mI M (bid g) k := fun k => by
    rw [hM1]
    simp only [mI_sI, true_and]
  have ho : ∀ o k, o ≠ bid g → mI M1 o k = mI M o k := fun o k h => by
    rw [hM1, mI_diff (Or.inl h), mI_diff (Or.inl h), mI_diff (Or.inl h), mI_diff (Or.inl h), mI_diff (Or.inl h)]
  have e6 : mR M1 (bid g) 6 = bid g + 2 := GP.b6 hP1
  have heq : zX0_clear (bid g) M = bnd (zJ7_fill_53178 (bid g + 2) (io 0) M1) fun _ M5 => some ((), M5) := by
    unfold zX0_clear zX0_beginAt
    rw [if_pos K0_bid, if_pos K0_bid]
    simp only [lit_0, lt_eq, bnd_some]
    rw [← hM1, e6, if_pos (by omega)]
  rw [heq]
  refine Wp.seq (c_fill K0_bid2 (by omega)) (fun _ M2 ⟨a1, a2⟩ => Wp.ret ⟨?_, fun o k h => ?_, fun o k => ?_, fun o k h => ?_⟩)
  · have hk : ∀ k, mI M2 (bid g) k = mI M1 (bid g) k := fun k => a2.I (by simp only [ob, Bool.and_true, Bool.or_eq_true, decide_eq_true_eq]; omega)
    refine ⟨?_, ?_, ?_, ?_, ?_, fun i hi => absurd hi (Nat.not_lt_zero i), fun j hj => a1 j hj⟩
    · rw [hk, hg']; rfl
    · rw [hk, hg']; rfl
    · rw [hk, hg']; rfl
    · rw [hk, hg']; rfl
    · rw [hk, hg']; rfl
  · rw [a2.I (by simp only [ob, Bool.and_true, Bool.or_eq_true, decide_eq_true_eq]; omega), ho _ _ (by omega)]
  · rw [a2.2.2 o rfl k, hM1]; rfl
  · rw [a2.L (by simp only [ob, Bool.and_true, Bool.or_eq_true, decide_eq_true_eq]; omega) (by omega), hM1]; rfl
def swR (R : Nat → Nat) (g : Nat) : Nat → Nat := fun i => if i = g then R 2 else if i = 2 then R g else R i
theorem swR_g {R : Nat → Nat} {g : Nat} : swR R g g = R 2 := if_pos rfl
theorem swR_2 {R : Nat → Nat} {g : Nat} (hg : g < 2) : swR R g 2 = R g := by unfold swR; rw [if_neg (by omega), if_pos rfl]
theorem swR_o {R : Nat → Nat} {g h : Nat} (hh : h < 2) (hne : h ≠ g) : swR R g h = R h := by unfold swR; rw [if_neg hne, if_neg (by omega)]
theorem CG_Z {M : Mem} {P : Nat → Nat} {n r : Nat} {Z : ZV} (hZ : okZ P n Z) (h : ZC M P n r Z) : CG M r (gvZ Z) := by
  obtain ⟨c1, c2, c3, c4, c5, c6, c7⟩ := h.1
  obtain ⟨b1, b2, b3, b4, b5, b6, b7, b8, b9⟩ := h.2
  exact ⟨b1, b2, b3, b4, b5, c4, b6, c6, xA (zX Z), hZ.1.2.2.1, c5, hZ.1.2.2.2.2⟩
theorem ICp.gtV {M M' : Mem} {g : Nat} {R : Nat → Nat} {V : VV} {Z : ZV} (h : ICp M R V) (hg : g < 2) (hI : ∀ o k, o ≤ 40 → o ≠ 2 → (o ≠ 1 ∨ (k ≠ 5 ∧ k ≠ 6)) → (o < R 2 ∨ R 2 + 6 < o ∨ (o = R 2 + 4 ∧ k = 0)) → (o < bid g ∨ bid g + 2 < o) → mI M' o k = mI M o k) (hP : PC1 M') (hR : ∀ o k, (o ≠ gid g ∨ k ≠ 0) → (o ≠ 2 ∨ k ≠ 3) → mR M' o k = mR M o k) (hRg : mR M' (gid g) 0 = R 2) (hR2 : mR M' 2 3 = R g) (hC : CG M' (R 2) (gvZ Z)) (hS : CS M' (R 2 + 6) (zS Z)) (hB : CB M' (bid g) b00) (h5 : mI M' 1 5 = io 0) (h1 : mI M' 2 1 = io 0) (h6 : mI M' 1 6 = m1) : ICp M' (swR R g) (gtV V g Z) := by
  obtain ⟨q1, q2, q3, q4, q5, q6, q7, q8, q9⟩ := h
  have hr2 := ru_rng q2.2.2.2.2.2.1
  have hbg : bid g = 19 ∨ bid g = 33 := by unfold bid; split <;> simp
  have hgg : g = 0 ∨ g = 1 := by omega
  have hbb : ∀ h, h < 2 → h ≠ g → bid h + 2 < bid g ∨ bid g + 2 < bid h := fun h hh hne => bid_inj hg hh hne
  refine ⟨hP, ?_, fun g' hg' => ?_, h5, fun i hi => ?_, fun q i hi => (by cases q), h1, fun k hk => absurd hk (Nat.not_lt_zero k), h6, fun r hr => ?_⟩
  · obtain ⟨p0, p1, p2, p3, p4, p5, p6, p7, p8⟩ := q2
    rcases hgg with rfl | rfl
    · have e11 : gid 0 = 11 := rfl
      refine ⟨hRg, ?_, hR2, p5, p4, p3, fun z => p8 z.symm, fun z => p7 z.symm, fun z => p6 z.symm⟩
      rw [hR _ _ (by rw [e11]; omega) (by omega)]; exact p1
    · have e25 : gid 1 = 25 := rfl
      refine ⟨?_, hRg, hR2, p3, p5, p4, p7, p6, fun z => p8 z.symm⟩
      rw [hR _ _ (by rw [e25]; omega) (by omega)]; exact p0
  · obtain ⟨a1, a2, a3, a4⟩ := q3 g' hg'
    obtain ⟨i1, i2, i3, -⟩ := ids q2 hg'
    show CG M' (swR R g g') (if g' = g then gvZ Z else vG V g') ∧ CS M' (swR R g g' + 6) (if g' = g then zS Z else vS V g') ∧ CB M' (bid g') (if g' = g then b00 else vB V g') ∧ (false = true → _)
    by_cases q : g' = g
    · rw [if_pos q, if_pos q, if_pos q, q, swR_g]
      exact ⟨hC, hS, hB, fun z => by cases z⟩
    · have := R2_dis q2 hg'
      have := hbb g' hg' q
      rw [if_neg q, if_neg q, if_neg q, swR_o hg' q]
      exact ⟨a1.keep (fun j hj k => hI _ _ (by omega) (by omega) (by omega) (by omega) (by omega)), a2.keep (fun k => hI _ _ (by omega) (by omega) (by omega) (by omega) (by omega)), a3.keep (fun j hj k => hI _ _ (by omega) (by omega) (by omega) (by omega) (by omega)), fun z => by cases z⟩
  · rw [hI _ _ (by omega) (by omega) (by omega) (by omega) (by omega)]; exact q5 i hi
  · have hr' := ru_rng hr
    rw [hI _ _ (by omega) (by omega) (by omega) (by omega) (by omega)]; exact q9.2 r hr
theorem c_gate_ok {M M8 : Mem} {P : Nat → Nat} {n g : Nat} {R : Nat → Nat} {V : VV} {Z : ZV} (hIp : ICp M R V) (hIs : ICs M) (hg : g < 2) (hZ : okZ P n Z) (hZC : ZC M8 P n (R 2) Z) (h1 : mI M8 2 1 = io 0) (hF : FrR (R 2) M M8) : Wp (zX11_gate_B45 1 (gid g) (io 0) 1 m1 M8) (fun x M' => x = .inl (io 0) ∧ ICp M' (swR R g) (gtV V g Z) ∧ ICs M' ∧ Fg [(1, 71)] [(1, 71)] M M') := by
  have hP8 : PC1 M8 := hIp.1.keep (fun o k _ => hF.2.1 o k)
  have hr2 := ru_rng hIp.2.1.2.2.2.2.2.1
  have hbg : bid g = 19 ∨ bid g = 33 := by unfold bid; split <;> simp
  have hgi : gid g = 11 ∨ gid g = 25 := by unfold gid; split <;> simp
  have r0 : mR M8 (gid g) 0 = R g := (hF.2.1 _ _).trans (hIp.2.1.r0 hg)
  have hrg := ru_rng (hIp.2.1.ru hg)
  have p3 := hZC.1.2.1
  obtain ⟨M2, hM2⟩ : ∃ M2, M2 = sR (sR (sI M8 1 6 m1) (gid g) 0 (R 2)) 2 3 (R g) := ⟨_, rfl⟩
  have hP2 : PC1 M2 := by
    rw [hM2]
    exact (PC1.sR (PC1.sR (show PC1 (sI M8 1 6 m1) from hP8) (by omega)) (by omega))
  have hI2 : ∀ o k, mI M2 o k = mI (sI M8 1 6 m1) o k := fun o k => by rw [hM2]; rfl
  have hR2 : ∀ o k, (o ≠ gid g ∨ k ≠ 0) → (o ≠ 2 ∨ k ≠ 3) → mR M2 o k = mR M8 o k := fun o k a b => by
    rw [hM2, mR_sR, if_neg (by omega), mR_sR, if_neg (by omega)]; rfl
  have hRg : mR M2 (gid g) 0 = R 2 := by rw [hM2, mR_sR, if_neg (by omega), mR_sR, if_pos ⟨rfl, rfl⟩]
  have hR23 : mR M2 2 3 = R g := by rw [hM2, mR_sR, if_pos ⟨rfl, rfl⟩]
  have heq : zX11_gate_B45 1 (gid g) (io 0) 1 m1 M8 = bnd (zX0_clear (bid g) M2) fun _ M14 => lt (sI M14 1 5 (io 0)) fun M16 => some (.inl (io 0), M16) := by
    have a1 : mR (sI M8 1 6 m1) (gid g) 0 = R g := r0
    have a2 : mR (sI M8 1 6 m1) 1 0 = 2 := hP8.p1_0
    have a3 : mR (sI M8 1 6 m1) 2 3 = R 2 := p3
    have a4 : mR (sR (sI M8 1 6 m1) (gid g) 0 (R 2)) 1 0 = 2 := by rw [mR_sR, if_neg (by omega)]; exact a2
    have a5 : mR M2 (gid g) 1 = bid g := GP.r1 hP2
    unfold zX11_gate_B45
    simp only [lit_0, lt_eq]
    rw [if_pos K0_1, if_pos trivial, if_pos K0_gid, if_pos (by rw [a1]; omega), a2, if_pos (by decide), if_pos K0_2, a3, if_pos (by omega), a4, if_pos (by decide), if_pos K0_2, a1, ← hM2, a5, if_pos (by omega), if_pos K0_bid]
  rw [heq]
  refine Wp.seq (c_clearB hP2) (fun _ M14 ⟨b1, b2, b3, b4⟩ => Wp.lt1 (Wp.ret ⟨rfl, ?_, ?_, ?_⟩))
  · have e8 : ∀ o k, (o ≠ 1 ∨ (k ≠ 5 ∧ k ≠ 6)) → (o < bid g ∨ bid g + 2 < o) → mI (sI M14 1 5 (io 0)) o k = mI M8 o k := fun o k a b => by
      rw [mI_diff (by omega), b2 _ _ b, hI2, mI_diff (by omega)]
    refine hIp.gtV hg (fun o k a b c d e => ?_) (hP2.keep (fun o k _ => b3 o k)) (fun o k a b => ?_) ((b3 _ _).trans hRg) ((b3 _ _).trans hR23) ((CG_Z hZ hZC).keep (fun j hj k => e8 _ _ (by omega) (by omega))) (hZC.2.2.2.2.2.2.2.2.1.keep (fun k => e8 _ _ (by omega) (by omega))) (b1.keep (fun j hj k => mI_diff (by omega))) mI_same ?_ ?_
    · rw [e8 _ _ c e, hF.1 _ _ b d]
    · show mR M14 o k = mR M o k
      rw [b3, hR2 _ _ a b, hF.2.1]
    · rw [e8 _ _ (by omega) (by omega)]; exact h1
    · rw [mI_diff (by omega), b2 _ _ (by omega), hI2, mI_same]
  · refine hIs.keep (fun o k h1 h2 => ?_) (fun o k h1 h2 => ?_)
    · rw [mI_diff (by omega), b2 _ _ (by omega), hI2, mI_diff (by omega), hF.1 _ _ (by omega) (by omega)]
    · show mR M14 o k = mR M o k
      rw [b3, hR2 _ _ (by omega) (by omega), hF.2.1]
  · refine ⟨fun o ho k => ?_, fun o ho h72 k => ?_, fun o ho k => ?_⟩
    · simp only [ob, Bool.and_true, Bool.or_eq_true, decide_eq_true_eq] at ho
      rw [mI_diff (by omega), b2 _ _ (by omega), hI2, mI_diff (by omega), hF.1 _ _ (by omega) (by omega)]
    · simp only [ob, Bool.and_true, Bool.or_eq_true, decide_eq_true_eq] at ho
      show mL M14 o k = mL M o k
      rw [b4 _ _ (by omega), hM2]
      exact hF.2.2 _ _ (by omega)
    · simp only [ob, Bool.and_true, Bool.or_eq_true, decide_eq_true_eq] at ho
      show mR M14 o k = mR M o k
      rw [b3, hR2 _ _ (by omega) (by omega), hF.2.1]
