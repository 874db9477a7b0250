/-! ===== LEVEL 2: gate: the SORT clause, both ===== -/
def Bhd (P : Nat → Nat) (n : Nat) (Z : ZV) (X : XV) : Prop := VX P n X ∧ xS (zX Z) < xS X ∧ xL X = xL (zX Z) ∧ xC X = xC (zX Z)
theorem Bhd.step {P : Nat → Nat} {n : Nat} {Z : ZV} {X Y : XV} (h : Bhd P n Z X) (g : GdS P n X (.inr Y)) : Bhd P n Z Y := by
  obtain ⟨h1, h2, h3, h4⟩ := h
  obtain ⟨g1, g2, g3, g4⟩ := g
  exact ⟨g1, by omega, g3.trans h3, g4.trans h4⟩
def GdT (P : Nat → Nat) (n : Nat) (Z : ZV) (o : (Nat × Nat) ⊕ ZV) : Prop := GdZ P n (zX Z) o ∧ ∀ Z1, o = .inr Z1 → zT Z1 = zT Z
theorem GdS.bad {P : Nat → Nat} {n : Nat} {X : XV} {Z : ZV} {o1 : (Nat × Nat) ⊕ XV} (h : GdS P n X o1) : ∀ q, o1 = .inl q → GdT P n Z (.inl q) ∧ 1 ≤ q.1 ∧ q.1 ≤ 4 := fun q hq => by
  subst hq
  obtain ⟨h1, h2, h3⟩ := h
  exact ⟨⟨⟨h1, h2, h3⟩, fun Z1 z => by cases z⟩, h1, h2⟩
theorem okZ.add {P : Nat → Nat} {n od wo pu : Nat} {Z : ZV} {X Y : XV} (h : okZ P n Z) (hg : gN (zV Z) ≤ 7) (hB : Bhd P n Z X) (hA : Acc P n 31 X Y) (h1 : 1 ≤ od ∧ od ≤ 99) (h2 : wo ≤ 99) (h3 : pu ≤ 9) : okZ P n (addZ Z Y od wo pu) ∧ xS (zX Z) < xS Y := by
  obtain ⟨z1, z2, z3, z4, z5, z6, z7, z8, z9⟩ := h
  obtain ⟨b1, b2, b3, b4⟩ := hB
  obtain ⟨a1, a2, a3, a4, a5, a6, a7⟩ := hA
  refine ⟨⟨a2, by show gN (zV Z) + 1 ≤ 8; omega, z3, z4, z5, z6, z7, z8, fun s hs => ?_⟩, by omega⟩
  have hs' : s < gN (zV Z) + 1 := hs
  show 1 ≤ upF (gOd (zV Z)) (gN (zV Z)) od s ∧ upF (gOd (zV Z)) (gN (zV Z)) od s ≤ 99 ∧ upF (gWo (zV Z)) (gN (zV Z)) wo s ≤ 99 ∧ upF (gPu (zV Z)) (gN (zV Z)) pu s ≤ 9 ∧ upF (gB (zV Z)) (gN (zV Z)) (xL (zX Z)) s ≤ upF (gE (zV Z)) (gN (zV Z)) (xL Y) s ∧ upF (gE (zV Z)) (gN (zV Z)) (xL Y) s ≤ xL Y ∧ hgR (xC Y) (upF (gB (zV Z)) (gN (zV Z)) (xL (zX Z)) s) (upF (gE (zV Z)) (gN (zV Z)) (xL Y) s - upF (gB (zV Z)) (gN (zV Z)) (xL (zX Z)) s) 0 = some 1
  by_cases c : s < gN (zV Z)
  · obtain ⟨y1, y2, y3, y4, y5, y6, y7⟩ := z9 s c
    rw [upF_lt c, upF_lt c, upF_lt c, upF_lt c, upF_lt c]
    refine ⟨y1, y2, y3, y4, y5, by omega, ?_⟩
    rw [hgR_congr (c' := xC (zX Z)) _ _ _ (fun i h1 h2 => by rw [a6 i (by omega), b4])]
    exact y7
  · have : s = gN (zV Z) := by omega
    subst this
    rw [upF_eq, upF_eq, upF_eq, upF_eq, upF_eq]
    refine ⟨h1.1, h1.2, h2, h3, by omega, Nat.le_refl _, ?_⟩
    rw [← b3]
    exact a7 0 (by omega)
theorem MpA.afb {P : Nat → Nat} {n j od wo pu : Nat} {Z : ZV} {X : XV} {N N' : Mem} (h : MpA P n Z j od wo pu X N) (hF : FrM N N') : PM N' ∧ mI N' 75 2 = io (gN (zV Z)) :=
  ⟨(h.1.1.Fr hF).1, (h.2.1.keep hF).1⟩
theorem stg7 {P : Nat → Nat} {n r od wo pu : Nat} {Z : ZV} {X : XV} (hr : isRu r) (hn : n ≤ 700) (hPb : ∀ k, k < n → P k < 256) (hZ : okZ P n Z) (hg : gN (zV Z) ≤ 7) (h1 : 1 ≤ od ∧ od ≤ 99) (h2 : wo ≤ 99) (h3 : pu ≤ 9) (hB : Bhd P n Z X) :
    ∃ o, GdT P n Z o ∧ (∀ M0 M, FrD r M0 M → CpA P n r Z 3 od wo pu X M → kS7 r (QC P n r o M0) M) ∧ ∀ N0 N, FrN N0 N → MpA P n Z 4 od wo pu X N → Wp (zX12_readExpression RD 72 (io 0) N) (fun _ N' => rS7 (gN (zV Z)) (QM P n o N0) N') := by
  obtain ⟨o1, g1, g2, g3⟩ := sim_expr hr hn hPb 12 0 (by omega) (by omega) X hB.1
  refine stage_step (X := X) (o1 := o1) (F := zX6_either RD 2 (io 0)) (G := zX12_readExpression RD 72 (io 0)) (ec := fun _ => True) (em := fun _ => True) (kc1 := kS8 r) (km1 := fun _ Q N => rS7 (gN (zV Z)) Q N) (Cp1 := fun Y M => CpA P n r Z 3 od wo pu Y M) (Mp1 := fun Y _ N => MpA P n Z 4 od wo pu Y N) ?_ (fun M hM => (g2 M hM).mono (fun x M' h => ⟨h.1, h.2, fun _ => trivial⟩)) (fun N hN => (g3 N hN).mono (fun x N' h => ⟨h.1, h.2, fun _ => trivial⟩)) (fun M h => h.1) (fun N h => h.1) ?_ (fun Y M M' _ h hY hF _ => h.fr hr hY hF) (fun Y y N N' _ h hY hF _ => h.fr hY hF) (fun y N N' Q h hF hb hQ => bS7 hg (h.afb hF).1 (h.afb hF).2 hQ)
  · intro q hq
    subst hq
    obtain ⟨q1, q2, q3, -⟩ := g1
    exact ⟨⟨⟨q1, q2, q3⟩, fun Z1 z => by cases z⟩, q1, q2⟩
  · intro Y hY
    subst hY
    refine ⟨.inr (addZ Z Y od wo pu), ⟨hZ.add hg hB g1 h1 h2 h3, fun Z1 z => by cases z; rfl⟩, fun M0 M hF hM => ⟨hM.1.2.1, (c_close hr hg hM).mono (fun _ M' h => ⟨⟨rfl, h.1⟩, hF.trans h.2⟩)⟩, fun y N0 N hF hN => ⟨hN.1.1.1, hN.2.1.1, ?_⟩⟩
    have h := m_close hg hN
    exact ⟨h.1, hF.trans h.2⟩
theorem stgW3 {P : Nat → Nat} {n r od wo pu : Nat} {Z : ZV} {X : XV} (hr : isRu r) (hn : n ≤ 700) (hPb : ∀ k, k < n → P k < 256) (hZ : okZ P n Z) (hg : gN (zV Z) ≤ 7) (h1 : 1 ≤ od ∧ od ≤ 99) (h2 : wo ≤ 99) (h3 : pu ≤ 9) (hB : Bhd P n Z X) :
    ∃ o, GdT P n Z o ∧ (∀ M0 M, FrD r M0 M → CpA P n r Z 3 od wo pu X M → Wp (zX6_word 2 1005 M) (ifS (QC P n r o M0) (kS7 r (QC P n r o M0)))) ∧ ∀ N0 N, FrN N0 N → MpA P n Z 3 od wo pu X N → Wp (zX12_word 72 1032 N) (fun _ N' => rS6 (gN (zV Z)) (QM P n o N0) N') := by
  obtain ⟨o1, g1, g2, g3⟩ := sim_word (r := r) hr hn hPb hB.1 s1005 s1032
  refine stage_step (X := X) (o1 := o1) (F := zX6_word 2 1005) (G := zX12_word 72 1032) (ec := fun _ => True) (em := fun _ => True) (kc1 := kS7 r) (km1 := fun _ Q N => rS6 (gN (zV Z)) Q N) (Cp1 := fun Y M => CpA P n r Z 3 od wo pu Y M) (Mp1 := fun Y _ N => MpA P n Z 3 od wo pu Y N) g1.bad (fun M hM => (g2 M hM).mono (fun x M' h => ⟨h.1, h.2, fun _ => trivial⟩)) (fun N hN => (g3 N hN).mono (fun x N' h => ⟨h.1, h.2, fun _ => trivial⟩)) (fun M h => h.1) (fun N h => h.1) ?_ (fun Y M M' _ h hY hF _ => h.fr hr hY hF) (fun Y y N N' _ h hY hF _ => h.fr hY hF) (fun y N N' Q h hF hb hQ => bS6 hg (h.afb hF).1 (h.afb hF).2 hb hQ)
  intro Y hY
  subst hY
  have hBY := hB.step g1
  obtain ⟨o, k1, k2, k3⟩ := stg7 hr hn hPb hZ hg h1 h2 h3 hBY
  refine ⟨o, k1, k2, fun y N0 N hF hN => ⟨hN.1.1.1, ?_⟩⟩
  rw [hN.1.2.2.2.1, hBY.2.2.1]
  exact k3 N0 _ (hF.put (by unfold ownM; omega)) (hN.put hg (i := 4) rfl (by omega) (by omega) (by omega) (by omega) (fun _ => ⟨rfl, rfl, rfl, rfl⟩))
theorem stgN2 {P : Nat → Nat} {n r od wo : Nat} {Z : ZV} {X : XV} (hr : isRu r) (hn : n ≤ 700) (hPb : ∀ k, k < n → P k < 256) (hZ : okZ P n Z) (hg : gN (zV Z) ≤ 7) (h1 : 1 ≤ od ∧ od ≤ 99) (h2 : wo ≤ 99) (hB : Bhd P n Z X) :
    ∃ o, GdT P n Z o ∧ (∀ M0 M, FrD r M0 M → CpA P n r Z 2 od wo 0 X M → Wp (zX6_numberFrom 2 (io 0) (io 9) M) (ifS (QC P n r o M0) (kS6 r (gN (zV Z)) (QC P n r o M0)))) ∧ ∀ N0 N, FrN N0 N → MpA P n Z 2 od wo 0 X N → Wp (zX12_readNumber 72 (io 0) (io 9) N) (fun y N' => rS5 (gN (zV Z)) y (QM P n o N0) N') := by
  obtain ⟨v, o1, l1, l2, g1, g2, g3⟩ := sim_num (r := r) (lo := 0) (hi := 9) hr hn hPb hB.1 (by omega) (by omega)
  refine stage_step (X := X) (o1 := o1) (F := zX6_numberFrom 2 (io 0) (io 9)) (G := zX12_readNumber 72 (io 0) (io 9)) (ec := fun M => mI M 2 9 = io v) (em := fun y => y = io v) (kc1 := kS6 r (gN (zV Z))) (km1 := fun y Q N => rS5 (gN (zV Z)) y Q N) (Cp1 := fun Y M => CpA P n r Z 2 od wo 0 Y M ∧ mI M 2 9 = io v) (Mp1 := fun Y y N => MpA P n Z 2 od wo 0 Y N ∧ y = io v) g1.bad g2 g3 (fun M h => h.1) (fun N h => h.1) ?_ (fun Y M M' _ h hY hF e => ⟨h.fr hr hY hF, e⟩) (fun Y y N N' _ h hY hF e => ⟨h.fr hY hF, e⟩) (fun y N N' Q h hF hb hQ => bS5 hg (h.afb hF).1 (h.afb hF).2 hb hQ)
  intro Y hY
  subst hY
  have hBY := hB.step g1
  obtain ⟨o, k1, k2, k3⟩ := stgW3 hr hn hPb hZ hg h1 h2 l2 hBY
  refine ⟨o, k1, fun M0 M hF hM => ⟨hM.1.1.1.1, hM.1.1.2.1, ?_⟩, fun y N0 N hF hN => ⟨hN.1.1.1.1, ?_⟩⟩
  · rw [hM.2]
    exact k2 M0 _ (hF.put (by unfold ownC; omega)) (hM.1.put hr (i := 3) rfl (by omega) (by omega) (by omega) (by omega))
  · rw [hN.2]
    exact k3 N0 _ (hF.put (by unfold ownM; omega)) (hN.1.put hg (i := 3) rfl (by omega) (by omega) (by omega) (by omega) (by omega))
theorem stgW2 {P : Nat → Nat} {n r od wo : Nat} {Z : ZV} {X : XV} (hr : isRu r) (hn : n ≤ 700) (hPb : ∀ k, k < n → P k < 256) (hZ : okZ P n Z) (hg : gN (zV Z) ≤ 7) (h1 : 1 ≤ od ∧ od ≤ 99) (h2 : wo ≤ 99) (hB : Bhd P n Z X) :
    ∃ o, GdT P n Z o ∧ (∀ M0 M, FrD r M0 M → CpA P n r Z 2 od wo 0 X M → Wp (zX6_word 2 1004 M) (ifS (QC P n r o M0) (kS5 r (gN (zV Z)) (QC P n r o M0)))) ∧ ∀ N0 N, FrN N0 N → MpA P n Z 2 od wo 0 X N → Wp (zX12_word 72 1028 N) (fun _ N' => rS4 (gN (zV Z)) (QM P n o N0) N') := by
  obtain ⟨o1, g1, g2, g3⟩ := sim_word (r := r) hr hn hPb hB.1 s1004 s1028
  refine stage_step (X := X) (o1 := o1) (F := zX6_word 2 1004) (G := zX12_word 72 1028) (ec := fun _ => True) (em := fun _ => True) (kc1 := kS5 r (gN (zV Z))) (km1 := fun _ Q N => rS4 (gN (zV Z)) Q N) (Cp1 := fun Y M => CpA P n r Z 2 od wo 0 Y M) (Mp1 := fun Y _ N => MpA P n Z 2 od wo 0 Y N) g1.bad (fun M hM => (g2 M hM).mono (fun x M' h => ⟨h.1, h.2, fun _ => trivial⟩)) (fun N hN => (g3 N hN).mono (fun x N' h => ⟨h.1, h.2, fun _ => trivial⟩)) (fun M h => h.1) (fun N h => h.1) ?_ (fun Y M M' _ h hY hF _ => h.fr hr hY hF) (fun Y y N N' _ h hY hF _ => h.fr hY hF) (fun y N N' Q h hF hb hQ => bS4 hg (h.afb hF).1 (h.afb hF).2 hb hQ)
  intro Y hY
  subst hY
  have hBY := hB.step g1
  obtain ⟨o, k1, k2, k3⟩ := stgN2 hr hn hPb hZ hg h1 h2 hBY
  exact ⟨o, k1, k2, fun y N0 N hF hN => ⟨hN.1.1.1, k3 N0 N hF hN⟩⟩
theorem stgN1 {P : Nat → Nat} {n r od : Nat} {Z : ZV} {X : XV} (hr : isRu r) (hn : n ≤ 700) (hPb : ∀ k, k < n → P k < 256) (hZ : okZ P n Z) (hg : gN (zV Z) ≤ 7) (h1 : 1 ≤ od ∧ od ≤ 99) (hB : Bhd P n Z X) :
    ∃ o, GdT P n Z o ∧ (∀ M0 M, FrD r M0 M → CpA P n r Z 1 od 0 0 X M → Wp (zX6_numberFrom 2 (io 0) (io 99) M) (ifS (QC P n r o M0) (kS4 r (gN (zV Z)) (QC P n r o M0)))) ∧ ∀ N0 N, FrN N0 N → MpA P n Z 1 od 0 0 X N → Wp (zX12_readNumber 72 (io 0) (io 99) N) (fun y N' => rS3 (gN (zV Z)) y (QM P n o N0) N') := by
  obtain ⟨v, o1, l1, l2, g1, g2, g3⟩ := sim_num (r := r) (lo := 0) (hi := 99) hr hn hPb hB.1 (by omega) (by omega)
  refine stage_step (X := X) (o1 := o1) (F := zX6_numberFrom 2 (io 0) (io 99)) (G := zX12_readNumber 72 (io 0) (io 99)) (ec := fun M => mI M 2 9 = io v) (em := fun y => y = io v) (kc1 := kS4 r (gN (zV Z))) (km1 := fun y Q N => rS3 (gN (zV Z)) y Q N) (Cp1 := fun Y M => CpA P n r Z 1 od 0 0 Y M ∧ mI M 2 9 = io v) (Mp1 := fun Y y N => MpA P n Z 1 od 0 0 Y N ∧ y = io v) g1.bad g2 g3 (fun M h => h.1) (fun N h => h.1) ?_ (fun Y M M' _ h hY hF e => ⟨h.fr hr hY hF, e⟩) (fun Y y N N' _ h hY hF e => ⟨h.fr hY hF, e⟩) (fun y N N' Q h hF hb hQ => bS3 hg (h.afb hF).1 (h.afb hF).2 hb hQ)
  intro Y hY
  subst hY
  have hBY := hB.step g1
  obtain ⟨o, k1, k2, k3⟩ := stgW2 hr hn hPb hZ hg h1 l2 hBY
  refine ⟨o, k1, fun M0 M hF hM => ⟨hM.1.1.1.1, hM.1.1.2.1, ?_⟩, fun y N0 N hF hN => ⟨hN.1.1.1.1, ?_⟩⟩
  · rw [hM.2]
    exact k2 M0 _ (hF.put (by unfold ownC; omega)) (hM.1.put hr (i := 2) rfl (by omega) (by omega) (by omega) (by omega))
  · rw [hN.2]
    exact k3 N0 _ (hF.put (by unfold ownM; omega)) (hN.1.put hg (i := 2) rfl (by omega) (by omega) (by omega) (by omega) (by omega))
theorem stgW1 {P : Nat → Nat} {n r od : Nat} {Z : ZV} {X : XV} (hr : isRu r) (hn : n ≤ 700) (hPb : ∀ k, k < n → P k < 256) (hZ : okZ P n Z) (hg : gN (zV Z) ≤ 7) (h1 : 1 ≤ od ∧ od ≤ 99) (hB : Bhd P n Z X) :
    ∃ o, GdT P n Z o ∧ (∀ M0 M, FrD r M0 M → CpA P n r Z 1 od 0 0 X M → Wp (zX6_word 2 1003 M) (ifS (QC P n r o M0) (kS3 r (gN (zV Z)) (QC P n r o M0)))) ∧ ∀ N0 N, FrN N0 N → MpA P n Z 1 od 0 0 X N → Wp (zX12_word 72 1027 N) (fun _ N' => rS2 (gN (zV Z)) (QM P n o N0) N') := by
  obtain ⟨o1, g1, g2, g3⟩ := sim_word (r := r) hr hn hPb hB.1 s1003 s1027
  refine stage_step (X := X) (o1 := o1) (F := zX6_word 2 1003) (G := zX12_word 72 1027) (ec := fun _ => True) (em := fun _ => True) (kc1 := kS3 r (gN (zV Z))) (km1 := fun _ Q N => rS2 (gN (zV Z)) Q N) (Cp1 := fun Y M => CpA P n r Z 1 od 0 0 Y M) (Mp1 := fun Y _ N => MpA P n Z 1 od 0 0 Y N) g1.bad (fun M hM => (g2 M hM).mono (fun x M' h => ⟨h.1, h.2, fun _ => trivial⟩)) (fun N hN => (g3 N hN).mono (fun x N' h => ⟨h.1, h.2, fun _ => trivial⟩)) (fun M h => h.1) (fun N h => h.1) ?_ (fun Y M M' _ h hY hF _ => h.fr hr hY hF) (fun Y y N N' _ h hY hF _ => h.fr hY hF) (fun y N N' Q h hF hb hQ => bS2 hg (h.afb hF).1 (h.afb hF).2 hb hQ)
  intro Y hY
  subst hY
  have hBY := hB.step g1
  obtain ⟨o, k1, k2, k3⟩ := stgN1 hr hn hPb hZ hg h1 hBY
  exact ⟨o, k1, k2, fun y N0 N hF hN => ⟨hN.1.1.1, k3 N0 N hF hN⟩⟩
theorem stgN0 {P : Nat → Nat} {n r : Nat} {Z : ZV} {X : XV} (hr : isRu r) (hn : n ≤ 700) (hPb : ∀ k, k < n → P k < 256) (hZ : okZ P n Z) (hg : gN (zV Z) ≤ 7) (hB : Bhd P n Z X) :
    ∃ o, GdT P n Z o ∧ (∀ M0 M, FrD r M0 M → CpA P n r Z 0 0 0 0 X M → Wp (zX6_numberFrom 2 (io 1) (io 99) M) (ifS (QC P n r o M0) (kS2 r (gN (zV Z)) (QC P n r o M0)))) ∧ ∀ N0 N, FrN N0 N → MpA P n Z 0 0 0 0 X N → Wp (zX12_readNumber 72 (io 1) (io 99) N) (fun y N' => rS1 (gN (zV Z)) y (QM P n o N0) N') := by
  obtain ⟨v, o1, l1, l2, g1, g2, g3⟩ := sim_num (r := r) (lo := 1) (hi := 99) hr hn hPb hB.1 (by omega) (by omega)
  refine stage_step (X := X) (o1 := o1) (F := zX6_numberFrom 2 (io 1) (io 99)) (G := zX12_readNumber 72 (io 1) (io 99)) (ec := fun M => mI M 2 9 = io v) (em := fun y => y = io v) (kc1 := kS2 r (gN (zV Z))) (km1 := fun y Q N => rS1 (gN (zV Z)) y Q N) (Cp1 := fun Y M => CpA P n r Z 0 0 0 0 Y M ∧ mI M 2 9 = io v) (Mp1 := fun Y y N => MpA P n Z 0 0 0 0 Y N ∧ y = io v) g1.bad g2 g3 (fun M h => h.1) (fun N h => h.1) ?_ (fun Y M M' _ h hY hF e => ⟨h.fr hr hY hF, e⟩) (fun Y y N N' _ h hY hF e => ⟨h.fr hY hF, e⟩) (fun y N N' Q h hF hb hQ => bS1 hg (h.afb hF).1 (h.afb hF).2 hb hQ)
  intro Y hY
  subst hY
  have hBY := hB.step g1
  obtain ⟨o, k1, k2, k3⟩ := stgW1 hr hn hPb hZ hg ⟨l1, l2⟩ hBY
  refine ⟨o, k1, fun M0 M hF hM => ⟨hM.1.1.1.1, hM.1.1.2.1, ?_⟩, fun y N0 N hF hN => ⟨hN.1.1.1.1, ?_⟩⟩
  · rw [hM.2]
    exact k2 M0 _ (hF.put (by unfold ownC; omega)) (hM.1.put hr (i := 1) rfl (by omega) (by omega) (by omega) (by omega))
  · rw [hN.2]
    exact k3 N0 _ (hF.put (by unfold ownM; omega)) (hN.1.put hg (i := 1) rfl (by omega) (by omega) (by omega) (by omega) (by omega))
theorem sim_sort {P : Nat → Nat} {n r : Nat} {Z : ZV} (hr : isRu r) (hn : n ≤ 700) (hPb : ∀ k, k < n → P k < 256) (hZ : okZ P n Z) (hg : gN (zV Z) ≤ 7) (hk : xK (zX Z) ≠ 0) :
    ∃ o, GdT P n Z o ∧ (∀ M, ZC M P n r Z → Wp (zX6_sortClause 2 M) (QC P n r o M)) ∧ ∀ N, ZM N P n Z → Wp (zX12_stepOn 72 N) (fun _ N2 => Wp (zX12_readSort 72 N2) (fun _ N' => QM P n o N N')) := by
  have hse := hZ.1.1.2.2.2.1 hk
  obtain ⟨X1, a1, a2, a3, a4, a5, a6, a7⟩ := sim_advX (r := r) hr hn hPb hZ.1
  obtain ⟨o, k1, k2, k3⟩ := stgN0 (r := r) hr hn hPb hZ hg (⟨a1, by omega, a3, a4⟩ : Bhd P n Z X1)
  refine ⟨o, k1, fun M hM => ?_, fun N hN => ?_⟩
  · refine c_sort_in hr hM.1.2.1 hM.2.1 hg ((a6 M hM.1).mono (fun _ M1 ⟨b1, b2⟩ => ?_))
    exact k2 M M1 b2.D ⟨b1, hM.2.keep hr b2, by omega, by omega, by omega⟩
  · refine (a7 N hN.1).mono (fun _ N1 ⟨b1, b2⟩ => ?_)
    have hB := hN.2.keep b2
    exact m_sort_in b1.1.1 hB.1 hg (k3 N N1 b2.N ⟨b1, hB, by omega, by omega, by omega, by omega⟩)
