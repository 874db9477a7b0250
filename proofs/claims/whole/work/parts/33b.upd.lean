/-! ===== LEVEL 2: changes of the state ===== -/
def setB (V : VV) (g : Nat) (b : BV) : VV := (vG V, vS V, (fun h => if h = g then b else vB V h), vK V, vH V, vT V, vU V, vF V, vP V, vE V)
def setS (V : VV) (g : Nat) (s : SV) : VV := (vG V, (fun h => if h = g then s else vS V h), vB V, vK V, vH V, vT V, vU V, vF V, vP V, vE V)
def setT (V : VV) (k : Nat) : VV := (vG V, vS V, vB V, vK V, vH V, (fun j => if j = k then vT V j + 1 else vT V j), vU V, vF V, vP V, vE V)
theorem okV.setB {V : VV} {g : Nat} {b : BV} (h : okV V) (hb : okB (vG V g) b) : okV (setB V g b) := by
  refine ⟨fun g' hg' => ?_, h.2.1, h.2.2⟩
  obtain ⟨a1, a2, a3, a4⟩ := h.1 g' hg'
  refine ⟨a1, a2, ?_, a4⟩
  show okB (vG V g') (if g' = g then b else vB V g')
  by_cases q : g' = g
  · rw [if_pos q, q]; exact hb
  · rw [if_neg q]; exact a3
theorem okV.setS {V : VV} {g : Nat} {s : SV} (h : okV V) (hs : okS s) : okV (setS V g s) := by
  refine ⟨fun g' hg' => ?_, h.2.1, h.2.2⟩
  obtain ⟨a1, a2, a3, a4⟩ := h.1 g' hg'
  refine ⟨a1, ?_, a3, a4⟩
  show okS (if g' = g then s else vS V g')
  by_cases q : g' = g
  · rw [if_pos q]; exact hs
  · rw [if_neg q]; exact a2
theorem okV.setT {V : VV} {k : Nat} (h : okV V) : okV (setT V k) := h
theorem CG.keep {M M' : Mem} {r : Nat} {v : GV} (h : CG M r v) (e : ∀ j, j ≤ 5 → ∀ k, mI M' (r + j) k = mI M (r + j) k) : CG M' r v := by
  have e0 : ∀ k, mI M' r k = mI M r k := e 0 (by omega)
  simpa only [CG, e0, e 1 (by omega), e 2 (by omega), e 3 (by omega), e 4 (by omega), e 5 (by omega)] using h
theorem CS.keep {M M' : Mem} {p : Nat} {s : SV} (h : CS M p s) (e : ∀ k, mI M' p k = mI M p k) : CS M' p s := by
  simpa only [CS, e] using h
theorem CB.keep {M M' : Mem} {o : Nat} {b : BV} (h : CB M o b) (e : ∀ j, j ≤ 2 → ∀ k, mI M' (o + j) k = mI M (o + j) k) : CB M' o b := by
  have e0 : ∀ k, mI M' o k = mI M o k := e 0 (by omega)
  simpa only [CB, e0, e 1 (by omega), e 2 (by omega)] using h
theorem PC1.keep {M M' : Mem} (h : PC1 M) (e : ∀ o k, o ≤ 40 → mR M' o k = mR M o k) : PC1 M' := fun t ht => by
  have : ∀ t ∈ PTc1, t.1 ≤ 40 := by decide
  rw [e _ _ (this t ht)]
  exact h t ht
theorem RI.keep {M M' : Mem} {R : Nat → Nat} (h : RI M R) (e : ∀ o k, o ≤ 40 → mR M' o k = mR M o k) : RI M' R := by
  simpa only [RI, e 11 _ (by omega), e 25 _ (by omega), e 2 _ (by omega)] using h
/-- where the ids of a gate's parts lie -/
theorem ids {R : Nat → Nat} {M : Mem} (h : RI M R) {g : Nat} (hg : g < 2) : (4 ≤ R g ∧ R g ≤ 4 ∨ 12 ≤ R g ∧ R g ≤ 12 ∨ 26 ≤ R g ∧ R g ≤ 26) ∧ (bid g = 19 ∨ bid g = 33) ∧ (kid g = 22 ∨ kid g = 36) ∧ (gid g = 11 ∨ gid g = 25) := by
  refine ⟨?_, ?_, ?_, ?_⟩
  · rcases h.ru hg with e | e | e <;> omega
  · unfold bid; split <;> simp
  · unfold kid; split <;> simp
  · unfold gid; split <;> simp
theorem bid_inj {g h : Nat} (hg : g < 2) (hh : h < 2) (hne : h ≠ g) : bid h + 2 < bid g ∨ bid g + 2 < bid h := by
  unfold bid
  split <;> split <;> omega
theorem R_inj {M : Mem} {R : Nat → Nat} (hR : RI M R) {g h : Nat} (hg : g < 2) (hh : h < 2) (hne : h ≠ g) : R h + 6 < R g ∨ R g + 6 < R h := by
  have hne2 : R h ≠ R g := by
    have : (g = 0 ∧ h = 1) ∨ (g = 1 ∧ h = 0) := by omega
    rcases this with ⟨rfl, rfl⟩ | ⟨rfl, rfl⟩
    · exact fun e => hR.2.2.2.2.2.2.1 e.symm
    · exact hR.2.2.2.2.2.2.1
  rcases hR.ru hg with e | e | e <;> rcases hR.ru hh with e' | e' | e' <;> omega
theorem ICp.setB {M M' : Mem} {R : Nat → Nat} {V : VV} {g : Nat} {b : BV} (h : ICp M R V) (hg : g < 2) (hI : ∀ o k, o ≤ 40 → (o < bid g ∨ bid g + 2 < o) → mI M' o k = mI M o k) (hR : ∀ o k, o ≤ 40 → mR M' o k = mR M o k) (hb : CB M' (bid g) b) : ICp M' R (setB V g b) := by
  obtain ⟨h1, h2, h3, h4, h5, h6, h7, h8, h9⟩ := h
  refine ⟨h1.keep hR, h2.keep hR, fun g' hg' => ?_, ?_, fun i hi => ?_, fun q i hi => ?_, ?_, fun k hk => ?_, ?_⟩
  · obtain ⟨a1, a2, a3, a4⟩ := h3 g' hg'
    obtain ⟨i1, i2, i3, -⟩ := ids h2 hg'
    obtain ⟨-, j2, -, -⟩ := ids h2 hg
    refine ⟨a1.keep (fun j hj k => hI _ _ (by omega) (by omega)), a2.keep (fun k => hI _ _ (by omega) (by omega)), ?_, fun q => (a4 q).keep (fun j hj k => hI _ _ (by omega) (by omega))⟩
    show CB M' (bid g') (if g' = g then b else vB V g')
    by_cases q : g' = g
    · rw [if_pos q, q]; exact hb
    · rw [if_neg q]
      have := bid_inj hg hg' q
      exact a3.keep (fun j hj k => hI _ _ (by omega) (by omega))
  · obtain ⟨-, j2, -, -⟩ := ids h2 hg
    rw [hI _ _ (by omega) (by omega)]; exact h4
  · obtain ⟨-, j2, -, -⟩ := ids h2 hg
    rw [hI _ _ (by omega) (by omega)]; exact h5 i hi
  · obtain ⟨-, j2, -, -⟩ := ids h2 hg
    rw [hI _ _ (by omega) (by omega)]; exact h6 q i hi
  · obtain ⟨-, j2, -, -⟩ := ids h2 hg
    rw [hI _ _ (by omega) (by omega)]; exact h7
  · obtain ⟨-, j2, -, -⟩ := ids h2 hg
    rw [hI _ _ (by omega) (by omega)]; exact h8 k hk
  · obtain ⟨-, j2, -, -⟩ := ids h2 hg
    exact ⟨by rw [hI _ _ (by omega) (by omega)]; exact h9.1, fun r hr => by rw [hI _ _ (by rcases hr with rfl | rfl | rfl <;> omega) (by rcases hr with rfl | rfl | rfl <;> omega)]; exact h9.2 r hr⟩
theorem ICp.setS {M M' : Mem} {R : Nat → Nat} {V : VV} {g : Nat} {s : SV} (h : ICp M R V) (hg : g < 2) (hI : ∀ o k, o ≤ 40 → o ≠ R g + 6 → mI M' o k = mI M o k) (hR : ∀ o k, o ≤ 40 → mR M' o k = mR M o k) (hs : CS M' (R g + 6) s) : ICp M' R (setS V g s) := by
  obtain ⟨h1, h2, h3, h4, h5, h6, h7, h8, h9⟩ := h
  obtain ⟨j1, -, -, -⟩ := ids h2 hg
  refine ⟨h1.keep hR, h2.keep hR, fun g' hg' => ?_, ?_, fun i hi => ?_, fun q i hi => ?_, ?_, fun k hk => ?_, ?_⟩
  · obtain ⟨a1, a2, a3, a4⟩ := h3 g' hg'
    obtain ⟨i1, i2, i3, -⟩ := ids h2 hg'
    refine ⟨a1.keep (fun j hj k => hI _ _ (by omega) ?_), ?_, a3.keep (fun j hj k => hI _ _ (by omega) (by omega)), fun q => (a4 q).keep (fun j hj k => hI _ _ (by omega) (by omega))⟩
    · by_cases q : g' = g
      · subst q; omega
      · have := R_inj h2 hg hg' q; omega
    · show CS M' (R g' + 6) (if g' = g then s else vS V g')
      by_cases q : g' = g
      · rw [if_pos q, q]; exact hs
      · rw [if_neg q]
        have := R_inj h2 hg hg' q
        exact a2.keep (fun k => hI _ _ (by omega) (by omega))
  · rw [hI _ _ (by omega) (by omega)]; exact h4
  · rw [hI _ _ (by omega) (by omega)]; exact h5 i hi
  · rw [hI _ _ (by omega) (by omega)]; exact h6 q i hi
  · rw [hI _ _ (by omega) (by omega)]; exact h7
  · rw [hI _ _ (by omega) (by omega)]; exact h8 k hk
  · exact ⟨by rw [hI _ _ (by omega) (by omega)]; exact h9.1, fun r hr => by rw [hI _ _ (by rcases hr with rfl | rfl | rfl <;> omega) (by rcases hr with rfl | rfl | rfl <;> omega)]; exact h9.2 r hr⟩
theorem ICp.setT {M : Mem} {R : Nat → Nat} {V : VV} {k : Nat} (h : ICp M R V) (hk : k < 3) : ICp (sI M 39 k (vT V k + 1)) R (setT V k) := by
  have hI : ∀ o j, o ≠ 39 → mI (sI M 39 k (vT V k + 1)) o j = mI M o j := fun o j ho => by rw [mI_sI, if_neg (fun q => ho q.1)]
  obtain ⟨h1, h2, h3, h4, h5, h6, h7, h8, h9⟩ := h
  refine ⟨h1, h2, fun g' hg' => ?_, ?_, fun i hi => ?_, fun q i hi => ?_, ?_, fun k hk => ?_, ?_⟩
  · obtain ⟨a1, a2, a3, a4⟩ := h3 g' hg'
    obtain ⟨i1, i2, i3, -⟩ := ids h2 hg'
    exact ⟨a1.keep (fun j hj k => hI _ _ (by omega)), a2.keep (fun k => hI _ _ (by omega)), a3.keep (fun j hj k => hI _ _ (by omega)), fun q => (a4 q).keep (fun j hj k => hI _ _ (by omega))⟩
  · rw [hI _ _ (by omega)]; exact h4
  · show mI (sI M 39 k (vT V k + 1)) 39 i = if i = k then vT V i + 1 else vT V i
    rw [mI_sI]
    by_cases q : i = k
    · rw [if_pos ⟨rfl, q⟩, if_pos q, q]
    · rw [if_neg (fun z => q z.2), if_neg q]; exact h5 i hi
  · rw [hI _ _ (by omega)]; exact h6 q i hi
  · rw [hI _ _ (by omega)]; exact h7
  · rw [hI _ _ (by omega)]; exact h8 _ hk
  · exact ⟨by rw [hI _ _ (by omega)]; exact h9.1, fun r hr => by rw [hI _ _ (by rcases hr with rfl | rfl | rfl <;> omega)]; exact h9.2 r hr⟩
/-! the reference's side -/
def ownB (g o k : Nat) : Prop := (o = 72 ∧ k = 2) ∨ ((o = 83 ∨ o = 84 ∨ o = 85 ∨ o = 87 ∨ o = 88) ∧ k = g) ∨ (o = 86 ∧ 200 * g ≤ k ∧ k < 200 * g + 200) ∨ (o = 89 ∧ 32 * g ≤ k ∧ k < 32 * g + 32)
def OffB (g : Nat) (N N' : Mem) : Prop := (∀ o k, ¬ ownB g o k → mI N' o k = mI N o k) ∧ (∀ o k, mR N' o k = mR N o k) ∧ ∀ o k, mL N' o k = mL N o k
theorem OffB.refl {g : Nat} {N : Mem} : OffB g N N := ⟨fun _ _ _ => rfl, fun _ _ => rfl, fun _ _ => rfl⟩
theorem OffB.sI {g o k : Nat} {N N' : Mem} {x : Int32} (h : OffB g N N') (ho : ownB g o k) : OffB g N (sI N' o k x) :=
  ⟨fun a j q => by rw [mI_sI, if_neg (fun z => q (by rw [z.1, z.2]; exact ho))]; exact h.1 a j q, h.2.1, h.2.2⟩
theorem OffB.fg {g : Nat} {N N' : Mem} (h : OffB g N N') : Fg [(72, 110)] [] N N' :=
  ⟨fun o ho k => h.1 o k (by simp only [ob, Bool.and_true, Bool.or_eq_true, decide_eq_true_eq] at ho; unfold ownB; omega), fun o _ _ k => h.2.2 o k, fun o _ k => h.2.1 o k⟩
theorem MBk.keep {M M' : Mem} {a g : Nat} {b : BV} (hg : g < 2) (hb : bLe b ≤ 200) (h : MBk M a g b) (e1 : ∀ j, j ≤ 5 → j ≠ 3 → mI M' (a + j) g = mI M (a + j) g) (e2 : ∀ k, 200 * g ≤ k → k < 200 * g + 200 → mI M' (a + 3) k = mI M (a + 3) k) (e3 : ∀ k, 32 * g ≤ k → k < 32 * g + 32 → mI M' (a + 6) k = mI M (a + 6) k) : MBk M' a g b := by
  obtain ⟨h1, h2, h3, h4, h5, h6, h7⟩ := h
  refine ⟨?_, ?_, ?_, ?_, ?_, fun i hi => ?_, fun j hj => ?_⟩
  · have := e1 0 (by omega) (by omega)
    rw [Nat.add_zero] at this
    rw [this]; exact h1
  · rw [e1 1 (by omega) (by omega)]; exact h2
  · rw [e1 2 (by omega) (by omega)]; exact h3
  · rw [e1 4 (by omega) (by omega)]; exact h4
  · rw [e1 5 (by omega) (by omega)]; exact h5
  · rw [e2 _ (by omega) (by omega)]; exact h6 i hi
  · rw [e3 _ (by omega) (by omega)]; exact h7 j hj
theorem MS.keep {M M' : Mem} {g : Nat} {s : SV} (h : MS M g s) (e : ∀ k, mI M' 76 k = mI M 76 k) : MS M' g s := by
  simpa only [MS, e] using h
theorem IM.setB {N N' : Mem} {V : VV} {g : Nat} {b : BV} (hV : okV V) (h : IM N V) (hg : g < 2) (hO : OffB g N N') (hb : MBk N' 83 g b) : IM N' (setB V g b) := by
  obtain ⟨h1, h2, h3, h4, h5, h6, h7, h8⟩ := h
  have hI : ∀ o k, o < 83 → (o ≠ 72 ∨ k ≠ 2) → mI N' o k = mI N o k := fun o k ho hk => hO.1 o k (by unfold ownB; omega)
  have hI2 : ∀ o k, 90 ≤ o → mI N' o k = mI N o k := fun o k ho => hO.1 o k (by unfold ownB; omega)
  refine ⟨fun t ht => ?_, fun g' hg' => ?_, ?_, fun i hi => ?_, fun q i hi => ?_, ?_, fun k hk => ?_, ?_⟩
  · rw [hO.2.1]; exact h1 t ht
  · obtain ⟨a1, a2, a3, a4⟩ := h2 g' hg'
    obtain ⟨-, -, o3, o4⟩ := hV.1 g' hg'
    refine ⟨a1.keep (fun o q1 q2 k => hI _ _ (by omega) (by omega)), a2.keep (fun k => hI _ _ (by omega) (by omega)), ?_, fun q => (a4 q).keep hg' (o4 q).2.2.1 (fun j _ _ => hI2 _ _ (by omega)) (fun k _ _ => hI2 _ _ (by omega)) (fun k _ _ => hI2 _ _ (by omega))⟩
    show MBk N' 83 g' (if g' = g then b else vB V g')
    by_cases q : g' = g
    · rw [if_pos q, q]; exact hb
    · rw [if_neg q]
      refine a3.keep hg' o3.2.2.1 (fun j _ _ => hO.1 _ _ ?_) (fun k _ _ => hO.1 _ _ ?_) (fun k _ _ => hO.1 _ _ ?_) <;> (unfold ownB; omega)
  · rw [hI _ _ (by omega) (by omega)]; exact h3
  · rw [hI2 _ _ (by omega)]; exact h4 i hi
  · rw [hI2 _ _ (by omega)]; exact h5 q i hi
  · rw [hI _ _ (by omega) (by omega)]; exact h6
  · rw [hI2 _ _ (by omega)]; exact h7 k hk
  · rw [hI _ _ (by omega) (by omega)]; exact h8
theorem IM.setT {N : Mem} {V : VV} {k : Nat} (h : IM N V) (hk : k < 3) : IM (sI N 90 k (vT V k + 1)) (setT V k) := by
  have hI : ∀ o j, o ≠ 90 → mI (sI N 90 k (vT V k + 1)) o j = mI N o j := fun o j ho => by rw [mI_sI, if_neg (fun q => ho q.1)]
  obtain ⟨h1, h2, h3, h4, h5, h6, h7, h8⟩ := h
  refine ⟨h1, fun g' hg' => ?_, ?_, fun i hi => ?_, fun q i hi => ?_, ?_, fun k hk => ?_, ?_⟩
  · obtain ⟨a1, a2, a3, a4⟩ := h2 g' hg'
    refine ⟨a1.keep (fun o q1 q2 k => hI _ _ (by omega)), a2.keep (fun k => hI _ _ (by omega)), ?_, fun q => ?_⟩
    · show MBk _ 83 g' (vB V g')
      simpa only [MBk, Nat.reduceAdd, hI 83 _ (by omega), hI 84 _ (by omega), hI 85 _ (by omega), hI 86 _ (by omega), hI 87 _ (by omega), hI 88 _ (by omega), hI 89 _ (by omega)] using a3
    · show MBk _ 103 g' (vK V g')
      simpa only [MBk, Nat.reduceAdd, hI 103 _ (by omega), hI 104 _ (by omega), hI 105 _ (by omega), hI 106 _ (by omega), hI 107 _ (by omega), hI 108 _ (by omega), hI 109 _ (by omega)] using a4 q
  · rw [hI _ _ (by omega)]; exact h3
  · show mI (sI N 90 k (vT V k + 1)) 90 i = if i = k then vT V i + 1 else vT V i
    rw [mI_sI]
    by_cases q : i = k
    · rw [if_pos ⟨rfl, q⟩, if_pos q, q]
    · rw [if_neg (fun z => q z.2), if_neg q]; exact h4 i hi
  · rw [hI _ _ (by omega)]; exact h5 q i hi
  · rw [hI _ _ (by omega)]; exact h6
  · rw [hI _ _ (by omega)]; exact h7 _ hk
  · rw [hI _ _ (by omega)]; exact h8
theorem IM.setS {N N' : Mem} {V : VV} {g : Nat} {s : SV} (h : IM N V) (hg : g < 2) (hI : ∀ o k, (o ≠ 72 ∨ k ≠ 2) → (o ≠ 76 ∨ k < 7 * g + 1 ∨ 7 * g + 4 < k) → mI N' o k = mI N o k) (hR : ∀ o k, mR N' o k = mR N o k) (hs : MS N' g s) : IM N' (setS V g s) := by
  obtain ⟨h1, h2, h3, h4, h5, h6, h7, h8⟩ := h
  have hI2 : ∀ o k, o ≠ 72 → o ≠ 76 → mI N' o k = mI N o k := fun o k q1 q2 => hI o k (Or.inl q1) (Or.inl q2)
  refine ⟨fun t ht => ?_, fun g' hg' => ?_, ?_, fun i hi => ?_, fun q i hi => ?_, ?_, fun k hk => ?_, ?_⟩
  · rw [hR]; exact h1 t ht
  · obtain ⟨⟨b0, b1, b2, b3, bs, bk⟩, ⟨t1, t2, t3, t4⟩, a3, a4⟩ := h2 g' hg'
    have hx : ∀ j, (j = 0 ∨ j = 5 ∨ j = 6) → mI N' 76 (7 * g' + j) = mI N 76 (7 * g' + j) := fun j hj => hI _ _ (by omega) (by
      by_cases q : g' = g
      · subst q; omega
      · omega)
    refine ⟨⟨?_, ?_, ?_, ?_, fun s hs => ?_, fun k hk => ?_⟩, ?_, ?_, fun q => ?_⟩
    · rw [hI2 _ _ (by omega) (by omega)]; exact b0
    · have := hx 0 (by omega)
      rw [Nat.add_zero] at this
      rw [this]; exact b1
    · rw [hx 5 (by omega)]; exact b2
    · rw [hx 6 (by omega)]; exact b3
    · obtain ⟨d1, d2, d3, d4, d5⟩ := bs s hs
      refine ⟨?_, ?_, ?_, ?_, ?_⟩ <;> (rw [hI2 _ _ (by omega) (by omega)]; assumption)
    · rw [hI2 _ _ (by omega) (by omega)]; exact bk k hk
    · show MS N' g' (if g' = g then s else vS V g')
      by_cases q : g' = g
      · rw [if_pos q, q]; exact hs
      · rw [if_neg q]
        refine ⟨?_, ?_, ?_, ?_⟩ <;> (rw [hI _ _ (by omega) (by omega)]; assumption)
    · show MBk _ 83 g' (vB V g')
      simpa only [MBk, Nat.reduceAdd, hI2 83 _ (by omega) (by omega), hI2 84 _ (by omega) (by omega), hI2 85 _ (by omega) (by omega), hI2 86 _ (by omega) (by omega), hI2 87 _ (by omega) (by omega), hI2 88 _ (by omega) (by omega), hI2 89 _ (by omega) (by omega)] using a3
    · show MBk _ 103 g' (vK V g')
      simpa only [MBk, Nat.reduceAdd, hI2 103 _ (by omega) (by omega), hI2 104 _ (by omega) (by omega), hI2 105 _ (by omega) (by omega), hI2 106 _ (by omega) (by omega), hI2 107 _ (by omega) (by omega), hI2 108 _ (by omega) (by omega), hI2 109 _ (by omega) (by omega)] using a4 q
  · rw [hI _ _ (by omega) (by omega)]; exact h3
  · rw [hI _ _ (by omega) (by omega)]; exact h4 i hi
  · rw [hI _ _ (by omega) (by omega)]; exact h5 q i hi
  · rw [hI _ _ (by omega) (by omega)]; exact h6
  · rw [hI _ _ (by omega) (by omega)]; exact h7 k hk
  · rw [hI _ _ (by omega) (by omega)]; exact h8
