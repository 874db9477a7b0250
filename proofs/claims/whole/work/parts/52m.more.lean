/-! ===== LEVEL 2: gate: the other clauses ===== -/
def vSi (v : GV) (x : Nat) : GV := (gN v, x, gCh v, gBo v, gOd v, gWo v, gPu v, gB v, gE v, gC v, gL v)
def vCh (v : GV) (x : Nat) : GV := (gN v, gSi v, x, gBo v, gOd v, gWo v, gPu v, gB v, gE v, gC v, gL v)
def vBo (v : GV) (x : Nat) : GV := (gN v, gSi v, gCh v, x, gOd v, gWo v, gPu v, gB v, gE v, gC v, gL v)
def sCd (s : SV) (x : Nat) : SV := (x + 1, sKe s, sGl s, sLe s)
def sKp (s : SV) (x : Nat) : SV := (sCa s, x, sGl s, sLe s)
def sGs (s : SV) (x : Nat) : SV := (sCa s, sKe s, x, sLe s)
def sLs (s : SV) (x : Nat) : SV := (sCa s, sKe s, sGl s, x)
theorem BC.si {M : Mem} {r T L : Nat} {v : GV} {s : SV} {x : Nat} (hr : isRu r) (h : BC M r v s T L) : BC (sI M r 2 (io x)) r (vSi v x) s T L := by
  obtain ⟨b1, b2, b3, b4, b5, b6, b7, ⟨s0, s1, s2, s3⟩, b9⟩ := h
  have hr2 : 2 < r := by rcases hr with rfl | rfl | rfl <;> omega
  refine ⟨(mI_diff (by omega)).trans b1, (mI_diff (by omega)).trans b2, mI_same, (mI_diff (by omega)).trans b4, (mI_diff (by omega)).trans b5, fun s hs => ?_, (mI_diff (by omega)).trans b7, ⟨(mI_diff (by omega)).trans s0, (mI_diff (by omega)).trans s1, (mI_diff (by omega)).trans s2, (mI_diff (by omega)).trans s3⟩, (mI_diff (by omega)).trans b9⟩
  obtain ⟨a1, a2, a3, a4, a5⟩ := b6 s hs
  exact ⟨(mI_diff (by omega)).trans a1, (mI_diff (by omega)).trans a2, (mI_diff (by omega)).trans a3, (mI_diff (by omega)).trans a4, (mI_diff (by omega)).trans a5⟩
theorem BC.ch {M : Mem} {r T L : Nat} {v : GV} {s : SV} {x : Nat} (hr : isRu r) (h : BC M r v s T L) : BC (sI M r 3 (io x)) r (vCh v x) s T L := by
  obtain ⟨b1, b2, b3, b4, b5, b6, b7, ⟨s0, s1, s2, s3⟩, b9⟩ := h
  have hr2 : 2 < r := by rcases hr with rfl | rfl | rfl <;> omega
  refine ⟨(mI_diff (by omega)).trans b1, (mI_diff (by omega)).trans b2, (mI_diff (by omega)).trans b3, mI_same, (mI_diff (by omega)).trans b5, fun s hs => ?_, (mI_diff (by omega)).trans b7, ⟨(mI_diff (by omega)).trans s0, (mI_diff (by omega)).trans s1, (mI_diff (by omega)).trans s2, (mI_diff (by omega)).trans s3⟩, (mI_diff (by omega)).trans b9⟩
  obtain ⟨a1, a2, a3, a4, a5⟩ := b6 s hs
  exact ⟨(mI_diff (by omega)).trans a1, (mI_diff (by omega)).trans a2, (mI_diff (by omega)).trans a3, (mI_diff (by omega)).trans a4, (mI_diff (by omega)).trans a5⟩
theorem BC.bo {M : Mem} {r T L : Nat} {v : GV} {s : SV} {x : Nat} (hr : isRu r) (h : BC M r v s T L) : BC (sI M r 4 (io x)) r (vBo v x) s T L := by
  obtain ⟨b1, b2, b3, b4, b5, b6, b7, ⟨s0, s1, s2, s3⟩, b9⟩ := h
  have hr2 : 2 < r := by rcases hr with rfl | rfl | rfl <;> omega
  refine ⟨(mI_diff (by omega)).trans b1, (mI_diff (by omega)).trans b2, (mI_diff (by omega)).trans b3, (mI_diff (by omega)).trans b4, mI_same, fun s hs => ?_, (mI_diff (by omega)).trans b7, ⟨(mI_diff (by omega)).trans s0, (mI_diff (by omega)).trans s1, (mI_diff (by omega)).trans s2, (mI_diff (by omega)).trans s3⟩, (mI_diff (by omega)).trans b9⟩
  obtain ⟨a1, a2, a3, a4, a5⟩ := b6 s hs
  exact ⟨(mI_diff (by omega)).trans a1, (mI_diff (by omega)).trans a2, (mI_diff (by omega)).trans a3, (mI_diff (by omega)).trans a4, (mI_diff (by omega)).trans a5⟩
theorem BC.cd {M : Mem} {r T L : Nat} {v : GV} {s : SV} {x : Nat} (hr : isRu r) (h : BC M r v s T L) : BC (sI M (r + 6) 0 (io x)) r v (sCd s x) T L := by
  obtain ⟨b1, b2, b3, b4, b5, b6, b7, ⟨s0, s1, s2, s3⟩, b9⟩ := h
  have hr2 : 2 < r := by rcases hr with rfl | rfl | rfl <;> omega
  refine ⟨(mI_diff (by omega)).trans b1, (mI_diff (by omega)).trans b2, (mI_diff (by omega)).trans b3, (mI_diff (by omega)).trans b4, (mI_diff (by omega)).trans b5, fun s hs => ?_, (mI_diff (by omega)).trans b7, ⟨mI_same, (mI_diff (by omega)).trans s1, (mI_diff (by omega)).trans s2, (mI_diff (by omega)).trans s3⟩, (mI_diff (by omega)).trans b9⟩
  obtain ⟨a1, a2, a3, a4, a5⟩ := b6 s hs
  exact ⟨(mI_diff (by omega)).trans a1, (mI_diff (by omega)).trans a2, (mI_diff (by omega)).trans a3, (mI_diff (by omega)).trans a4, (mI_diff (by omega)).trans a5⟩
theorem BC.kp {M : Mem} {r T L : Nat} {v : GV} {s : SV} {x : Nat} (hr : isRu r) (h : BC M r v s T L) : BC (sI M (r + 6) 1 (io x)) r v (sKp s x) T L := by
  obtain ⟨b1, b2, b3, b4, b5, b6, b7, ⟨s0, s1, s2, s3⟩, b9⟩ := h
  have hr2 : 2 < r := by rcases hr with rfl | rfl | rfl <;> omega
  refine ⟨(mI_diff (by omega)).trans b1, (mI_diff (by omega)).trans b2, (mI_diff (by omega)).trans b3, (mI_diff (by omega)).trans b4, (mI_diff (by omega)).trans b5, fun s hs => ?_, (mI_diff (by omega)).trans b7, ⟨(mI_diff (by omega)).trans s0, mI_same, (mI_diff (by omega)).trans s2, (mI_diff (by omega)).trans s3⟩, (mI_diff (by omega)).trans b9⟩
  obtain ⟨a1, a2, a3, a4, a5⟩ := b6 s hs
  exact ⟨(mI_diff (by omega)).trans a1, (mI_diff (by omega)).trans a2, (mI_diff (by omega)).trans a3, (mI_diff (by omega)).trans a4, (mI_diff (by omega)).trans a5⟩
theorem BC.gs {M : Mem} {r T L : Nat} {v : GV} {s : SV} {x : Nat} (hr : isRu r) (h : BC M r v s T L) : BC (sI M (r + 6) 2 (io x)) r v (sGs s x) T L := by
  obtain ⟨b1, b2, b3, b4, b5, b6, b7, ⟨s0, s1, s2, s3⟩, b9⟩ := h
  have hr2 : 2 < r := by rcases hr with rfl | rfl | rfl <;> omega
  refine ⟨(mI_diff (by omega)).trans b1, (mI_diff (by omega)).trans b2, (mI_diff (by omega)).trans b3, (mI_diff (by omega)).trans b4, (mI_diff (by omega)).trans b5, fun s hs => ?_, (mI_diff (by omega)).trans b7, ⟨(mI_diff (by omega)).trans s0, (mI_diff (by omega)).trans s1, mI_same, (mI_diff (by omega)).trans s3⟩, (mI_diff (by omega)).trans b9⟩
  obtain ⟨a1, a2, a3, a4, a5⟩ := b6 s hs
  exact ⟨(mI_diff (by omega)).trans a1, (mI_diff (by omega)).trans a2, (mI_diff (by omega)).trans a3, (mI_diff (by omega)).trans a4, (mI_diff (by omega)).trans a5⟩
theorem BC.ls {M : Mem} {r T L : Nat} {v : GV} {s : SV} {x : Nat} (hr : isRu r) (h : BC M r v s T L) : BC (sI M (r + 6) 3 (io x)) r v (sLs s x) T L := by
  obtain ⟨b1, b2, b3, b4, b5, b6, b7, ⟨s0, s1, s2, s3⟩, b9⟩ := h
  have hr2 : 2 < r := by rcases hr with rfl | rfl | rfl <;> omega
  refine ⟨(mI_diff (by omega)).trans b1, (mI_diff (by omega)).trans b2, (mI_diff (by omega)).trans b3, (mI_diff (by omega)).trans b4, (mI_diff (by omega)).trans b5, fun s hs => ?_, (mI_diff (by omega)).trans b7, ⟨(mI_diff (by omega)).trans s0, (mI_diff (by omega)).trans s1, (mI_diff (by omega)).trans s2, mI_same⟩, (mI_diff (by omega)).trans b9⟩
  obtain ⟨a1, a2, a3, a4, a5⟩ := b6 s hs
  exact ⟨(mI_diff (by omega)).trans a1, (mI_diff (by omega)).trans a2, (mI_diff (by omega)).trans a3, (mI_diff (by omega)).trans a4, (mI_diff (by omega)).trans a5⟩
theorem BM.si {N : Mem} {v : GV} {s : SV} {x : Nat} (h : BM N v s) : BM (sI N 76 14 (io x)) (vSi v x) s := by
  obtain ⟨b1, b2, b3, b4, b5, ⟨s0, s1, s2, s3⟩⟩ := h
  refine ⟨(mI_diff (by omega)).trans b1, mI_same, (mI_diff (by omega)).trans b3, (mI_diff (by omega)).trans b4, fun s hs => ?_, ⟨(mI_diff (by omega)).trans s0, (mI_diff (by omega)).trans s1, (mI_diff (by omega)).trans s2, (mI_diff (by omega)).trans s3⟩⟩
  obtain ⟨a1, a2, a3, a4, a5⟩ := b5 s hs
  exact ⟨(mI_diff (by omega)).trans a1, (mI_diff (by omega)).trans a2, (mI_diff (by omega)).trans a3, (mI_diff (by omega)).trans a4, (mI_diff (by omega)).trans a5⟩
theorem BM.ch {N : Mem} {v : GV} {s : SV} {x : Nat} (h : BM N v s) : BM (sI N 76 19 (io x)) (vCh v x) s := by
  obtain ⟨b1, b2, b3, b4, b5, ⟨s0, s1, s2, s3⟩⟩ := h
  refine ⟨(mI_diff (by omega)).trans b1, (mI_diff (by omega)).trans b2, mI_same, (mI_diff (by omega)).trans b4, fun s hs => ?_, ⟨(mI_diff (by omega)).trans s0, (mI_diff (by omega)).trans s1, (mI_diff (by omega)).trans s2, (mI_diff (by omega)).trans s3⟩⟩
  obtain ⟨a1, a2, a3, a4, a5⟩ := b5 s hs
  exact ⟨(mI_diff (by omega)).trans a1, (mI_diff (by omega)).trans a2, (mI_diff (by omega)).trans a3, (mI_diff (by omega)).trans a4, (mI_diff (by omega)).trans a5⟩
theorem BM.bo {N : Mem} {v : GV} {s : SV} {x : Nat} (h : BM N v s) : BM (sI N 76 20 (io x)) (vBo v x) s := by
  obtain ⟨b1, b2, b3, b4, b5, ⟨s0, s1, s2, s3⟩⟩ := h
  refine ⟨(mI_diff (by omega)).trans b1, (mI_diff (by omega)).trans b2, (mI_diff (by omega)).trans b3, mI_same, fun s hs => ?_, ⟨(mI_diff (by omega)).trans s0, (mI_diff (by omega)).trans s1, (mI_diff (by omega)).trans s2, (mI_diff (by omega)).trans s3⟩⟩
  obtain ⟨a1, a2, a3, a4, a5⟩ := b5 s hs
  exact ⟨(mI_diff (by omega)).trans a1, (mI_diff (by omega)).trans a2, (mI_diff (by omega)).trans a3, (mI_diff (by omega)).trans a4, (mI_diff (by omega)).trans a5⟩
theorem BM.cd {N : Mem} {v : GV} {s : SV} {x : Nat} (h : BM N v s) : BM (sI N 76 15 (io x)) v (sCd s x) := by
  obtain ⟨b1, b2, b3, b4, b5, ⟨s0, s1, s2, s3⟩⟩ := h
  refine ⟨(mI_diff (by omega)).trans b1, (mI_diff (by omega)).trans b2, (mI_diff (by omega)).trans b3, (mI_diff (by omega)).trans b4, fun s hs => ?_, ⟨mI_same, (mI_diff (by omega)).trans s1, (mI_diff (by omega)).trans s2, (mI_diff (by omega)).trans s3⟩⟩
  obtain ⟨a1, a2, a3, a4, a5⟩ := b5 s hs
  exact ⟨(mI_diff (by omega)).trans a1, (mI_diff (by omega)).trans a2, (mI_diff (by omega)).trans a3, (mI_diff (by omega)).trans a4, (mI_diff (by omega)).trans a5⟩
theorem BM.kp {N : Mem} {v : GV} {s : SV} {x : Nat} (h : BM N v s) : BM (sI N 76 16 (io x)) v (sKp s x) := by
  obtain ⟨b1, b2, b3, b4, b5, ⟨s0, s1, s2, s3⟩⟩ := h
  refine ⟨(mI_diff (by omega)).trans b1, (mI_diff (by omega)).trans b2, (mI_diff (by omega)).trans b3, (mI_diff (by omega)).trans b4, fun s hs => ?_, ⟨(mI_diff (by omega)).trans s0, mI_same, (mI_diff (by omega)).trans s2, (mI_diff (by omega)).trans s3⟩⟩
  obtain ⟨a1, a2, a3, a4, a5⟩ := b5 s hs
  exact ⟨(mI_diff (by omega)).trans a1, (mI_diff (by omega)).trans a2, (mI_diff (by omega)).trans a3, (mI_diff (by omega)).trans a4, (mI_diff (by omega)).trans a5⟩
theorem BM.gs {N : Mem} {v : GV} {s : SV} {x : Nat} (h : BM N v s) : BM (sI N 76 17 (io x)) v (sGs s x) := by
  obtain ⟨b1, b2, b3, b4, b5, ⟨s0, s1, s2, s3⟩⟩ := h
  refine ⟨(mI_diff (by omega)).trans b1, (mI_diff (by omega)).trans b2, (mI_diff (by omega)).trans b3, (mI_diff (by omega)).trans b4, fun s hs => ?_, ⟨(mI_diff (by omega)).trans s0, (mI_diff (by omega)).trans s1, mI_same, (mI_diff (by omega)).trans s3⟩⟩
  obtain ⟨a1, a2, a3, a4, a5⟩ := b5 s hs
  exact ⟨(mI_diff (by omega)).trans a1, (mI_diff (by omega)).trans a2, (mI_diff (by omega)).trans a3, (mI_diff (by omega)).trans a4, (mI_diff (by omega)).trans a5⟩
theorem BM.ls {N : Mem} {v : GV} {s : SV} {x : Nat} (h : BM N v s) : BM (sI N 76 18 (io x)) v (sLs s x) := by
  obtain ⟨b1, b2, b3, b4, b5, ⟨s0, s1, s2, s3⟩⟩ := h
  refine ⟨(mI_diff (by omega)).trans b1, (mI_diff (by omega)).trans b2, (mI_diff (by omega)).trans b3, (mI_diff (by omega)).trans b4, fun s hs => ?_, ⟨(mI_diff (by omega)).trans s0, (mI_diff (by omega)).trans s1, (mI_diff (by omega)).trans s2, mI_same⟩⟩
  obtain ⟨a1, a2, a3, a4, a5⟩ := b5 s hs
  exact ⟨(mI_diff (by omega)).trans a1, (mI_diff (by omega)).trans a2, (mI_diff (by omega)).trans a3, (mI_diff (by omega)).trans a4, (mI_diff (by omega)).trans a5⟩
theorem okZ.mk {P : Nat → Nat} {n : Nat} {Z : ZV} {Y : XV} {v' : GV} {s' : SV} {T' : Nat} (h : okZ P n Z) (g : GdS P n (zX Z) (.inr Y)) (h0 : gN v' = gN (zV Z)) (h1 : gSi v' ≤ 2) (h2 : gCh v' ≤ 100) (h3 : 1 ≤ gBo v') (h4 : gBo v' ≤ 999) (h5 : okS s') (h6 : T' < 64) (h7 : gOd v' = gOd (zV Z)) (h8 : gWo v' = gWo (zV Z)) (h9 : gPu v' = gPu (zV Z)) (h10 : gB v' = gB (zV Z)) (h11 : gE v' = gE (zV Z)) : okZ P n (Y, v', s', T') := by
  obtain ⟨z1, z2, z3, z4, z5, z6, z7, z8, z9⟩ := h
  obtain ⟨g1, g2, g3, g4⟩ := g
  refine ⟨g1, by show gN v' ≤ 8; omega, h1, h2, h3, h4, h5, h6, fun s hs => ?_⟩
  have hs' : s < gN v' := hs
  show 1 ≤ gOd v' s ∧ gOd v' s ≤ 99 ∧ gWo v' s ≤ 99 ∧ gPu v' s ≤ 9 ∧ gB v' s ≤ gE v' s ∧ gE v' s ≤ xL Y ∧ hgR (xC Y) (gB v' s) (gE v' s - gB v' s) 0 = some 1
  rw [h7, h8, h9, h10, h11, g3, g4]
  exact z9 s (by omega)
theorem body_num {P : Nat → Nat} {n r lo hi idx oc kc : Nat} {Z : ZV} {up : XV → Nat → ZV} (hr : isRu r) (hn : n ≤ 700) (hPb : ∀ k, k < n → P k < 256) (hZ : okZ P n Z) (hh : hi ≤ 999) (hl : lo ≤ hi)
    (hup : ∀ Y x, lo ≤ x → x ≤ hi → GdS P n (zX Z) (.inr Y) → okZ P n (up Y x)) (hX : ∀ Y x, zX (up Y x) = Y) (hT : ∀ Y x, zT (up Y x) = zT Z) (hoc : ownC r oc kc) (hix : 14 ≤ idx ∧ idx ≤ 20)
    (hC : ∀ M Y x L, BC M r (zV Z) (zS Z) (zT Z) L → BC (sI M oc kc (io x)) r (zV (up Y x)) (zS (up Y x)) (zT (up Y x)) L) (hM : ∀ N Y x, BM N (zV Z) (zS Z) → BM (sI N 76 idx (io x)) (zV (up Y x)) (zS (up Y x))) :
    ∃ o, GdZ P n (zX Z) o ∧ (∀ Z', o = .inr Z' → zT Z' = zT Z) ∧ (∀ M, ZC M P n r Z → Wp (zX6_numberFrom 2 (io lo) (io hi) M) (fun v M2 => (v = io 0 ∨ v = io 1) ∧ mR M2 2 3 = r ∧ PC1 M2 ∧ QC P n r o M v (sI M2 oc kc (mI M2 2 9)) ∧ (v = io 0 → QC P n r o M v M2)))
      ∧ ∀ N (K : Mem → Option (Int32 × Mem)) Q, ZM N P n Z → (∀ N', QM P n o N N' → Wp (K N') Q) → Wp (zX12_readNumber 72 (io lo) (io hi) N) (fun v M2 => PM M2 ∧ Wp (K (sI M2 76 idx v)) Q) := by
  have hr2 : 2 < r := by rcases hr with rfl | rfl | rfl <;> omega
  have hoc2 : oc ≠ 2 := by unfold ownC at hoc; omega
  obtain ⟨x, o1, l1, l2, g1, g2, g3⟩ := sim_num (r := r) (lo := lo) (hi := hi) hr hn hPb hZ.1 hh hl
  cases o1 with
  | inl q =>
    obtain ⟨q1, q2, q3⟩ := g1
    refine ⟨.inl q, ⟨q1, q2, q3⟩, fun Z' h => (by cases h), fun M hM => (g2 M hM.1).mono (fun v M2 ⟨a1, a2, _⟩ => ⟨Or.inl a1.1, (a2.2.1 _ _).trans hM.1.2.1, (hM.1.1.Fr hr a2).1, ⟨⟨a1.1, (mI_diff (by omega)).trans a1.2.1, (mI_diff (by omega)).trans a1.2.2⟩, a2.D.put hoc⟩, fun _ => ⟨a1, a2.D⟩⟩), fun N K Q hN h => (g3 N hN.1).mono (fun v M2 ⟨a1, a2, _⟩ => ⟨(hN.1.1.Fr a2).1, h _ ⟨⟨(mI_diff (by omega)).trans a1.1, (mI_diff (by omega)).trans a1.2⟩, a2.N.put (by unfold ownM; omega)⟩⟩)⟩
  | inr Y =>
    have gY := g1
    obtain ⟨y1, y2, y3, y4⟩ := g1
    refine ⟨.inr (up Y x), ⟨hup Y x l1 l2 gY, by rw [hX]; exact y2⟩, fun Z' h => (by cases h; exact hT Y x), fun M hM => (g2 M hM.1).mono (fun v M2 ⟨a1, a2, a3⟩ => ⟨Or.inr a1.1, a1.2.2.1, a1.2.1.1, ⟨⟨a1.1, ?_⟩, a2.D.put hoc⟩, fun z => ?_⟩), fun N K Q hN h => (g3 N hN.1).mono (fun v M2 ⟨a1, a2, a3⟩ => ⟨a1.1.1, h _ ⟨?_, a2.N.put (by unfold ownM; omega)⟩⟩)⟩
    · rw [a3 a1.1]
      refine ⟨?_, ?_⟩
      · rw [hX]
        exact a1.2.put hr hoc
      · have hB := hC _ Y x _ (hM.2.keep hr a2)
        rw [hX, y3]
        exact hB
    · rw [a1.1, io_eq (by omega) (by omega)] at z
      omega
    · rw [a3 ⟨Y, rfl⟩]
      exact ⟨by rw [hX]; exact a1.put (by unfold ownM; omega), hM _ Y x (hN.2.keep a2)⟩
/-! told already? -/
theorem shrT_dec : ∀ x : Fin 128, ∀ j : Fin 7, decide (((io x.val >>> (io j.val &&& io 31)) &&& io 1) = io 1) = x.val.testBit j.val := by decide +kernel
theorem m_told {x j : Nat} (hx : x < 128) (hj : j < 7) : (((io x >>> (io j &&& io 31)) &&& io 1) = io 1) = (x.testBit j = true) := by
  have h := shrT_dec ⟨x, hx⟩ ⟨j, hj⟩
  simp only at h
  rw [← h]
  exact propext ⟨fun q => decide_eq_true q, fun q => of_decide_eq_true q⟩
theorem orT_dec : ∀ T : Fin 64, ∀ t : Fin 2, ∀ i : Fin 6, (2 * T.val + t.val) ||| 2 ^ (i.val + 1) = 2 * (T.val ||| 2 ^ i.val) + t.val := by decide +kernel
theorem orT0_dec : ∀ T : Fin 64, ∀ t : Fin 2, (2 * T.val + t.val) ||| 2 ^ 0 = 2 * T.val + 1 := by decide +kernel
theorem tbT_dec : ∀ T : Fin 64, ∀ t : Fin 2, ∀ i : Fin 6, (2 * T.val + t.val).testBit (i.val + 1) = T.val.testBit i.val := by decide +kernel
theorem or64 {T i : Nat} (hT : T < 64) (hi : i < 6) : T ||| 2 ^ i < 64 := Nat.or_lt_two_pow (n := 6) hT (Nat.pow_lt_pow_right (by decide) hi)
def RT (x : Nat) (T : Nat) : Prop := ∃ t, t ≤ 1 ∧ x = 2 * T + t
theorem RT.lt {x T : Nat} (h : RT x T) (hT : T < 64) : x < 128 := by
  obtain ⟨t, h1, h2⟩ := h
  omega
theorem RT.bit {x T i : Nat} (h : RT x T) (hT : T < 64) (hi : i < 6) : x.testBit (i + 1) = T.testBit i := by
  obtain ⟨t, h1, rfl⟩ := h
  exact tbT_dec ⟨T, hT⟩ ⟨t, by omega⟩ ⟨i, hi⟩
theorem RT.or {x T i : Nat} (h : RT x T) (hT : T < 64) (hi : i < 6) : RT (x ||| 2 ^ (i + 1)) (T ||| 2 ^ i) := by
  obtain ⟨t, h1, rfl⟩ := h
  exact ⟨t, h1, orT_dec ⟨T, hT⟩ ⟨t, by omega⟩ ⟨i, hi⟩⟩
theorem RT.or0 {x T : Nat} (h : RT x T) (hT : T < 64) : RT (x ||| 2 ^ 0) T := by
  obtain ⟨t, h1, rfl⟩ := h
  exact ⟨1, Nat.le_refl _, orT0_dec ⟨T, hT⟩ ⟨t, by omega⟩⟩
/-- once: the class notes it and steps on -/
theorem sim_once {P : Nat → Nat} {n r i : Nat} {Z : ZV} (hr : isRu r) (hn : n ≤ 700) (hPb : ∀ k, k < n → P k < 256) (hZ : okZ P n Z) (hi : i < 6) (hk : xK (zX Z) ≠ 0) :
    (zT Z).testBit i = true ∧ (∀ M, ZC M P n r Z → Wp (zX6_once 2 (io (2 ^ i)) M) (fun x M' => QC P n r (.inl (4, xS (zX Z))) M x M')) ∨
    (zT Z).testBit i = false ∧ ∃ Y, GdS P n (zX Z) (.inr Y) ∧ (∀ M, ZC M P n r Z → Wp (zX6_once 2 (io (2 ^ i)) M) (fun x M' => QC P n r (.inr (Y, zV Z, zS Z, zT Z ||| 2 ^ i)) M x M')) ∧ ∀ N, ZM N P n Z → Wp (zX12_stepOn 72 N) (fun _ N' => QM P n (.inr (Y, zV Z, zS Z, zT Z ||| 2 ^ i)) N N') := by
  have hT := hZ.2.2.2.2.2.2.2.1
  have hr2 : 2 < r := by rcases hr with rfl | rfl | rfl <;> omega
  have hb := and_pow_zero (m := zT Z) (s := i) (by omega) (by omega)
  have hlt : zT Z &&& 2 ^ i < 2147483648 := Nat.lt_of_le_of_lt Nat.and_le_left (by omega)
  cases ht : (zT Z).testBit i with
  | true =>
    refine Or.inl ⟨rfl, fun M hM => ?_⟩
    have e10 := hM.2.2.2.2.2.2.2.2.2
    rw [ht] at hb
    have hb2 : (io (zT Z &&& 2 ^ i) = io 0) = False := by rw [io_eq hlt (by omega), hb]; exact eq_false (by decide)
    unfold zX6_once
    simp -dsimp (disch := first | assumption | omega) only [lit_0, lit_1, lit_2, lit_3, lit_4, lit_5, lit_6, lit_7, lit_8, lit_9, lit_10, lit_11, lit_12, lit_13, lit_14, lit_15, lit_16, lit_17, lit_18, lit_19, lit_20, lit_21, lit_22, lit_23, lit_24, lit_25, lit_26, lit_27, lit_28, lit_29, lit_30, lit_31, lit_32, lit_33, lit_34, lit_35, lit_36, lit_37, lit_38, lit_39, lit_40, lit_41, lit_42, lit_43, lit_44, lit_45, lit_46, lit_47, lit_48, lit_49, lit_50, lit_51, lit_52, lit_53, lit_54, lit_55, lit_56, lit_57, lit_58, lit_59, lit_60, lit_61, lit_62, lit_63, lit_64, lit_97, lit_99, lit_100, lit_122, lit_175, lit_176, lit_200, lit_255, lit_400, lit_700, lit_800, lit_999, lit_1000, lit_1400, lit_2000, lit_2033, lit_2038, lit_2100, lit_2124, lit_8000, lit_10000, lit_12345, lit_32767, lit_1000000, lit_1000000000, ↓bndX_h, ↓bndK_h, bxh_inl, bxh_inr, bkh_inl, bkh_inr, Nat.reduceEqDiff, ↓bnd_h, ↓lt_h, ↓ite_h, bh_some, lh_eq, ih_T, ih_F, ne_eq, not_false_eq_true, not_true_eq_false, eq_self, and_true, true_and, io_def, K0_2, e10, and_io, hb2]
    refine Wp.seqh (c_refuseX hM.1) (fun v M' ⟨i1, i2, i3⟩ => ?_)
    subst i1
    simp -dsimp (disch := first | assumption | omega) only [lit_0, lit_1, lit_2, lit_3, lit_4, lit_5, lit_6, lit_7, lit_8, lit_9, lit_10, lit_11, lit_12, lit_13, lit_14, lit_15, lit_16, lit_17, lit_18, lit_19, lit_20, lit_21, lit_22, lit_23, lit_24, lit_25, lit_26, lit_27, lit_28, lit_29, lit_30, lit_31, lit_32, lit_33, lit_34, lit_35, lit_36, lit_37, lit_38, lit_39, lit_40, lit_41, lit_42, lit_43, lit_44, lit_45, lit_46, lit_47, lit_48, lit_49, lit_50, lit_51, lit_52, lit_53, lit_54, lit_55, lit_56, lit_57, lit_58, lit_59, lit_60, lit_61, lit_62, lit_63, lit_64, lit_97, lit_99, lit_100, lit_122, lit_175, lit_176, lit_200, lit_255, lit_400, lit_700, lit_800, lit_999, lit_1000, lit_1400, lit_2000, lit_2033, lit_2038, lit_2100, lit_2124, lit_8000, lit_10000, lit_12345, lit_32767, lit_1000000, lit_1000000000, ↓bndX_h, ↓bndK_h, bxh_inl, bxh_inr, bkh_inl, bkh_inr, Nat.reduceEqDiff, ↓bnd_h, ↓lt_h, ↓ite_h, bh_some, lh_eq, ih_T, ih_F, ne_eq, not_false_eq_true, not_true_eq_false, eq_self, and_true, true_and, io_def, true_or]
    exact Wp.ret ⟨⟨rfl, i2⟩, i3.D⟩
  | false =>
    rw [ht] at hb
    have hb2 : (io (zT Z &&& 2 ^ i) = io 0) = True := by rw [io_eq hlt (by omega), hb]; exact eq_true rfl
    have hse := hZ.1.1.2.2.2.1 hk
    obtain ⟨X1, a1, a2, a3, a4, a5, a6, a7⟩ := sim_advX (r := r) hr hn hPb hZ.1
    refine Or.inr ⟨rfl, X1, ⟨a1, by omega, a3, a4⟩, fun M hM => ?_, fun N hN => (a7 N hN.1).mono (fun _ N' ⟨b1, b2⟩ => ⟨⟨b1, hN.2.keep b2⟩, b2.N⟩)⟩
    have e10 := hM.2.2.2.2.2.2.2.2.2
    have hM1 : CX (sI M 2 10 (io (zT Z ||| 2 ^ i))) P n r (zX Z) := by
      obtain ⟨c1, c2, ⟨u1, u2, u3, u4⟩, c4, c5, c6, c7⟩ := hM.1
      exact ⟨⟨c1.1, (mI_diff (by omega)).trans c1.2.1, fun k hk => (mI_diff (by omega)).trans (c1.2.2 k hk)⟩, c2, ⟨(mI_diff (by omega)).trans u1, (mI_diff (by omega)).trans u2, (mI_diff (by omega)).trans u3, fun z => (mI_diff (by omega)).trans (u4 z)⟩, (mI_diff (by omega)).trans c4, (mI_diff (by omega)).trans c5, fun i hi => (mI_diff (by omega)).trans (c6 i hi), (mI_diff (by omega)).trans c7⟩
    have hB1 : BC (sI M 2 10 (io (zT Z ||| 2 ^ i))) r (zV Z) (zS Z) (zT Z ||| 2 ^ i) (xL (zX Z)) := by
      obtain ⟨b1, b2, b3, b4, b5, b6, b7, ⟨s0, s1, s2, s3⟩, b9⟩ := hM.2
      refine ⟨(mI_diff (by omega)).trans b1, (mI_diff (by omega)).trans b2, (mI_diff (by omega)).trans b3, (mI_diff (by omega)).trans b4, (mI_diff (by omega)).trans b5, fun s hs => ?_, (mI_diff (by omega)).trans b7, ⟨(mI_diff (by omega)).trans s0, (mI_diff (by omega)).trans s1, (mI_diff (by omega)).trans s2, (mI_diff (by omega)).trans s3⟩, mI_same⟩
      obtain ⟨a1, a2, a3, a4, a5⟩ := b6 s hs
      exact ⟨(mI_diff (by omega)).trans a1, (mI_diff (by omega)).trans a2, (mI_diff (by omega)).trans a3, (mI_diff (by omega)).trans a4, (mI_diff (by omega)).trans a5⟩
    have hF : FrD r M (sI M 2 10 (io (zT Z ||| 2 ^ i))) := ⟨fun o k a b => mI_diff (by rcases a with a | a; exact Or.inl a; exact Or.inr (fun z => a (by rw [z]; simp [fD]))), fun _ _ => rfl, fun _ _ => rfl⟩
    unfold zX6_once
    simp -dsimp (disch := first | assumption | omega) only [lit_0, lit_1, lit_2, lit_3, lit_4, lit_5, lit_6, lit_7, lit_8, lit_9, lit_10, lit_11, lit_12, lit_13, lit_14, lit_15, lit_16, lit_17, lit_18, lit_19, lit_20, lit_21, lit_22, lit_23, lit_24, lit_25, lit_26, lit_27, lit_28, lit_29, lit_30, lit_31, lit_32, lit_33, lit_34, lit_35, lit_36, lit_37, lit_38, lit_39, lit_40, lit_41, lit_42, lit_43, lit_44, lit_45, lit_46, lit_47, lit_48, lit_49, lit_50, lit_51, lit_52, lit_53, lit_54, lit_55, lit_56, lit_57, lit_58, lit_59, lit_60, lit_61, lit_62, lit_63, lit_64, lit_97, lit_99, lit_100, lit_122, lit_175, lit_176, lit_200, lit_255, lit_400, lit_700, lit_800, lit_999, lit_1000, lit_1400, lit_2000, lit_2033, lit_2038, lit_2100, lit_2124, lit_8000, lit_10000, lit_12345, lit_32767, lit_1000000, lit_1000000000, ↓bndX_h, ↓bndK_h, bxh_inl, bxh_inr, bkh_inl, bkh_inr, Nat.reduceEqDiff, ↓bnd_h, ↓lt_h, ↓ite_h, bh_some, lh_eq, ih_T, ih_F, ne_eq, not_false_eq_true, not_true_eq_false, eq_self, and_true, true_and, io_def, K0_2, e10, and_io, or_io, hb2]
    refine Wp.seqh (a6 _ hM1) (fun _ M' ⟨b1, b2⟩ => Wp.ret ⟨⟨rfl, b1, ?_⟩, hF.trans b2.D⟩)
    show BC M' r (zV Z) (zS Z) (zT Z ||| 2 ^ i) (xL X1)
    rw [a3]
    exact hB1.keep hr b2
