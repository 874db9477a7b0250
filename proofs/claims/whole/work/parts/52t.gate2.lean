/-! ===== LEVEL 2: gate, the reference and both ===== -/
def ownF (o k : Nat) : Prop := (o = 72 ∧ (k = 2 ∨ (20 ≤ k ∧ k ≤ 30))) ∨ (o = 82 ∧ 1400 ≤ k) ∨ (o = 75 ∧ k = 2) ∨ (o = 76 ∧ 14 ≤ k ∧ k ≤ 20) ∨ (77 ≤ o ∧ o ≤ 81 ∧ 16 ≤ k ∧ k ≤ 23)
theorem FrN.G {N N' : Mem} (h : FrN N N') : GFr ownF N N' :=
  ⟨fun o k q => h.1 o k (by
    by_cases c : o = 72
    · right
      intro z
      simp only [fM, List.mem_cons, List.not_mem_nil, or_false] at z
      unfold ownF at q
      omega
    · exact Or.inl c) (by unfold ownF at q; omega) (by unfold ownF at q; omega) (by unfold ownF at q; omega) (by unfold ownF at q; omega), h.2.1, h.2.2⟩
theorem MG.low {N N' : Mem} {g : Nat} {v : GV} (hg : g < 2) (hn : gN v ≤ 8) (hL : gL v ≤ 700) (h : MG N g v) (e : ∀ o k, (o = 75 ∧ k = g) ∨ (o = 76 ∧ 7 * g ≤ k ∧ k < 7 * g + 7) ∨ (77 ≤ o ∧ o ≤ 81 ∧ 8 * g ≤ k ∧ k < 8 * g + 8) ∨ (o = 82 ∧ 700 * g ≤ k ∧ k < 700 * g + 700) → mI N' o k = mI N o k) : MG N' g v := by
  obtain ⟨a1, a2, a3, a4, a5, a6⟩ := h
  refine ⟨(e _ _ (by omega)).trans a1, (e _ _ (by omega)).trans a2, (e _ _ (by omega)).trans a3, (e _ _ (by omega)).trans a4, fun s hs => ?_, fun k hk => (e _ _ (by omega)).trans (a6 k hk)⟩
  obtain ⟨b1, b2, b3, b4, b5⟩ := a5 s hs
  exact ⟨(e _ _ (by omega)).trans b1, (e _ _ (by omega)).trans b2, (e _ _ (by omega)).trans b3, (e _ _ (by omega)).trans b4, (e _ _ (by omega)).trans b5⟩
theorem MS.low {N N' : Mem} {g : Nat} {s : SV} (h : MS N g s) (e : ∀ k, 7 * g ≤ k → k < 7 * g + 7 → mI N' 76 k = mI N 76 k) : MS N' g s := by
  obtain ⟨a1, a2, a3, a4⟩ := h
  exact ⟨(e _ (by omega) (by omega)).trans a1, (e _ (by omega) (by omega)).trans a2, (e _ (by omega) (by omega)).trans a3, (e _ (by omega) (by omega)).trans a4⟩
theorem IM.gtE {N N' : Mem} {V : VV} {e : Int32} (hV : okV V) (h : IM N V) (hF : GFr ownF N N') (h20 : mI N' 72 20 = io 0) (h29 : mI N' 72 29 = e) : IM N' (gtE V e) := by
  obtain ⟨h1, h2, h3, h4, h5, h6, h7, h8⟩ := h
  have hI : ∀ o k, 83 ≤ o → mI N' o k = mI N o k := fun o k ho => hF.1 _ _ (by unfold ownF; omega)
  refine ⟨hF.PM h1, fun g' hg' => ?_, ?_, fun i hi => ?_, fun q i hi => ?_, h20, fun k hk => absurd hk (Nat.not_lt_zero k), h29⟩
  · obtain ⟨a1, a2, a3, a4⟩ := h2 g' hg'
    obtain ⟨o1, o2, o3, o4⟩ := hV.1 g' hg'
    exact ⟨a1.low hg' o1.1 o1.2.2.2.2.2.1 (fun o k hok => hF.1 _ _ (by unfold ownF; omega)), a2.low (fun k k1 k2 => hF.1 _ _ (by unfold ownF; omega)), a3.keep hg' o3.2.2.1 (fun j _ _ => hI _ _ (by omega)) (fun k _ _ => hI _ _ (by omega)) (fun k _ _ => hI _ _ (by omega)), fun q => (a4 q).keep hg' (o4 q).2.2.1 (fun j _ _ => hI _ _ (by omega)) (fun k _ _ => hI _ _ (by omega)) (fun k _ _ => hI _ _ (by omega))⟩
  · rw [hF.1 _ _ (by unfold ownF; omega)]; exact h3
  · rw [hI _ _ (by omega)]; exact h4 i hi
  · rw [hI _ _ (by omega)]; exact h5 q i hi
theorem IM.gtV {N N4 N' : Mem} {P : Nat → Nat} {n g : Nat} {V : VV} {Z : ZV} (hV : okV V) (hn : n ≤ 700) (hg : g < 2) (h : IM N V) (hF : GFr ownF N N4) (hZ : okZ P n Z) (hZM : ZM N4 P n Z) (hT : (mI N' 75 g = mI N4 75 2 ∧ tk3 g (xL (zX Z)) N4 N' ∧ (∀ j, j < 8 → cp8 g N4 N' j) ∧ ∀ j, j < 7 → mI N' 76 (7 * g + j) = mI N4 76 (14 + j)) ∧ GFr (ownT 75 g) N4 N') (h20 : mI N4 72 20 = io 0) (h29 : mI N4 72 29 = m1) : IM N' (gtV V g Z) := by
  obtain ⟨h1, h2, h3, h4, h5, h6, h7, h8⟩ := h
  obtain ⟨⟨t1, ⟨t2, ⟨u1, u2, u3, u4, u5⟩, t3, t4⟩, t5, t6⟩, hF2⟩ := hT
  have hE : ∀ o k, ¬ ownF o k → ¬ ownT 75 g o k → mI N' o k = mI N o k := fun o k a b => (hF2.1 _ _ b).trans (hF.1 _ _ a)
  have hI : ∀ o k, 90 ≤ o → mI N' o k = mI N o k := fun o k ho => hE _ _ (by unfold ownF; omega) (by unfold ownT; omega)
  refine ⟨hF2.PM (hF.PM h1), fun g' hg' => ?_, t4, fun i hi => ?_, fun q i hi => (by cases q), ?_, fun k hk => absurd hk (Nat.not_lt_zero k), ?_⟩
  · obtain ⟨a1, a2, a3, a4⟩ := h2 g' hg'
    obtain ⟨o1, o2, o3, o4⟩ := hV.1 g' hg'
    show MG N' g' (if g' = g then gvZ Z else vG V g') ∧ MS N' g' (if g' = g then zS Z else vS V g') ∧ MBk N' 83 g' (if g' = g then b00 else vB V g') ∧ (false = true → _)
    by_cases q : g' = g
    · rw [if_pos q, if_pos q, if_pos q]
      subst q
      obtain ⟨c1, c2, c3, c4, c5⟩ := hZM.1
      obtain ⟨b1, b2, b3, b4, b5, ⟨s0, s1, s2, s3⟩⟩ := hZM.2
      have hgN := hZ.2.1
      have e0 := t6 0 (by omega)
      rw [Nat.add_zero] at e0
      refine ⟨⟨t1.trans b1, e0.trans b2, (t6 5 (by omega)).trans b3, (t6 6 (by omega)).trans b4, fun s hs => ?_, fun k hk => (t2 k hk).trans (c5 k hk)⟩, ⟨(t6 1 (by omega)).trans s0, (t6 2 (by omega)).trans s1, (t6 3 (by omega)).trans s2, (t6 4 (by omega)).trans s3⟩, ⟨u1, u2, u3, u4, u5, fun i hi => absurd hi (Nat.not_lt_zero i), fun j hj => t3 j hj⟩, fun z => by cases z⟩
      have hs' : s < gN (zV Z) := hs
      obtain ⟨d1, d2, d3, d4, d5⟩ := t5 s (by omega)
      obtain ⟨f1, f2, f3, f4, f5⟩ := b5 s hs'
      exact ⟨d1.trans f1, d2.trans f2, d3.trans f3, d4.trans f4, d5.trans f5⟩
    · rw [if_neg q, if_neg q, if_neg q]
      exact ⟨a1.low hg' o1.1 o1.2.2.2.2.2.1 (fun o k hok => hE _ _ (by unfold ownF; omega) (by unfold ownT; omega)), a2.low (fun k k1 k2 => hE _ _ (by unfold ownF; omega) (by unfold ownT; omega)), a3.keep hg' o3.2.2.1 (fun j _ _ => hE _ _ (by unfold ownF; omega) (by unfold ownT; omega)) (fun k _ _ => hE _ _ (by unfold ownF; omega) (by unfold ownT; omega)) (fun k _ _ => hE _ _ (by unfold ownF; omega) (by unfold ownT; omega)), fun z => by cases z⟩
  · rw [hI _ _ (by omega)]; exact h4 i hi
  · rw [hF2.1 _ _ (by unfold ownT; omega)]; exact h20
  · rw [hF2.1 _ _ (by unfold ownT; omega)]; exact h29
/-- the reference, from the range on -/
theorem m_gate {P : Nat → Nat} {n g s q k m : Nat} {o : (Nat × Nat) ⊕ ZV} {V : VV} {N : Mem} (hV : okV V) (hN : IM N V) (hg : g < 2) (hnF : n ≤ vF V) (hP : P = vP V) (hGd : GdO P n o) (hVT : VT P n s q k m)
    (hadv : ∀ N, MSt N P n → mI N 72 21 = io 0 → Wp (zX12_stepOn 72 N) (fun _ N' => TkM N' s q k m ∧ On 72 [21, 23, 24, 25, 26] N N'))
    (htx : ∀ f g x1 N Q, n - s + 1 < f → ZM N P n (Zst s q k m) → RT x1 0 → (∀ N', QM P n o N N' → Wp (zX12_gate_B100 72 (io g) N') Q) → Wp (zX12_gate_L77 f 72 (io g) (io x1) N) Q) :
    Wp (zX12_gate 72 (io g) (io n) N) (fun y N1 => (match o with
      | .inl p => y = io p.1 ∧ IM N1 (setT (gtE V (io p.2)) 0)
      | .inr Z => y = io 0 ∧ IM N1 (gtV V g Z)) ∧ mI N1 72 2 = io 0 ∧ Fg [(72, 110)] [] N N1) := by
  have hn : n ≤ 700 := by have := hV.2.1; omega
  have hP1 := hN.1
  have h20 : mI (sI N 72 2 (io 0)) 72 20 = io (vF V) := (mI_diff (by omega)).trans hN.2.2.2.2.2.1
  obtain ⟨M1, hM1⟩ : ∃ M1, M1 = sI (sI (sI (sI (sI (sI (sI N 72 2 (io 0)) 72 20 (io 0)) 72 22 (io n)) 72 21 (io 0)) 72 27 (io 0)) 72 29 m1) 72 30 (io 0) := ⟨_, rfl⟩
  have hPM1 : PM M1 := by rw [hM1]; exact hP1
  have hF1 : GFr ownF N M1 := by
    rw [hM1]
    exact ((((((GFr.refl.sI (by unfold ownF; omega)).sI (by unfold ownF; omega)).sI (by unfold ownF; omega)).sI (by unfold ownF; omega)).sI (by unfold ownF; omega)).sI (by unfold ownF; omega)).sI (by unfold ownF; omega)
  have hg1 : ∀ k, mI M1 72 k = if k = 30 then io 0 else if k = 29 then m1 else if k = 27 then io 0 else if k = 21 then io 0 else if k = 22 then io n else if k = 20 then io 0 else if k = 2 then io 0 else mI N 72 k := fun k => by
    rw [hM1]
    simp only [mI_sI, true_and]
  have heq : zX12_gate 72 (io g) (io n) N = bnd (zX12_atFirst 72 (io 2) M1) fun _ M15 => bnd (zX12_stepOn 72 M15) fun _ M16 => zX12_gate_L77 FU 72 (io g) (io 0) M16 := by
    have e1 : ¬ (io n < io 0) := io_not_lt0 (by omega)
    have e2 : io n ≤ io (vF V) := by rw [io_le (by omega) (by have := hV.2.1; omega)]; exact hnF
    have e10 : ¬ (io 1 = io 0) := by rw [io_eq (by omega) (by omega)]; decide
    unfold zX12_gate
    simp only [lit_0, lt_eq, neg_1]
    rw [if_pos K0_72, m_isGate_in hg, bnd_some, if_neg e10, if_neg e1, h20, if_pos e2]
    rw [hM1]
    rfl
  rw [heq]
  refine Wp.seq (m_atFirst hPM1) (fun _ N2 ⟨b1, b2⟩ => ?_)
  have h2k : ∀ k, k ∉ fM → mI N2 72 k = mI M1 72 k := fun k hk => b2.1 _ _ (Or.inr hk) (by omega) (by omega) (by omega) (by omega)
  have h2m : ∀ k, mI N2 72 k = mI M1 72 k := fun k => by
    sorry
  sorry
