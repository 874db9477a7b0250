/-! ===== LEVEL 2: the state, and how class and reference hold it ===== -/
/-- a BOOK: seed, the state now, length, box, stolen, gifts, guesses -/
abbrev BV : Type := Nat × Nat × Nat × Int32 × Int32 × (Nat → Nat) × (Nat → Nat)
def bSe (b : BV) : Nat := b.1
def bNo (b : BV) : Nat := b.2.1
def bLe (b : BV) : Nat := b.2.2.1
def bBo (b : BV) : Int32 := b.2.2.2.1
def bSt (b : BV) : Int32 := b.2.2.2.2.1
def bGi (b : BV) : Nat → Nat := b.2.2.2.2.2.1
def bGu (b : BV) : Nat → Nat := b.2.2.2.2.2.2
def okB (v : GV) (b : BV) : Prop := bSe b < stN (gSi v) ∧ bNo b < stN (gSi v) ∧ bLe b ≤ 200 ∧ (∀ i, i < bLe b → bGi b i ≤ 9) ∧ (∀ j, j < 32 → bGu b j ≤ 99) ∧ ∀ j, j < 32 → gN v ≤ j % 8 → bGu b j = 0
def CB (M : Mem) (o : Nat) (b : BV) : Prop := mI M o 0 = io (bSe b) ∧ mI M o 1 = io (bNo b) ∧ mI M o 2 = io (bLe b) ∧ mI M o 3 = bBo b ∧ mI M o 4 = bSt b ∧ (∀ i, i < bLe b → mI M (o + 1) i = io (bGi b i)) ∧ ∀ j, j < 32 → mI M (o + 2) j = io (bGu b j)
/-- the model's books, or its image, from the array a on -/
def MBk (M : Mem) (a g : Nat) (b : BV) : Prop := mI M a g = io (bSe b) ∧ mI M (a + 1) g = io (bNo b) ∧ mI M (a + 2) g = io (bLe b) ∧ mI M (a + 4) g = bBo b ∧ mI M (a + 5) g = bSt b ∧ (∀ i, i < bLe b → mI M (a + 3) (200 * g + i) = io (bGi b i)) ∧ ∀ j, j < 32 → mI M (a + 6) (32 * g + j) = io (bGu b j)
/-- a token of the class as the model has it -/
def trM (t : Nat) : Int32 :=
  if t < 1000 then io t else if t < 2000 then m1 - io (t - 1000)
  else if t = 2043 then -(io 20) else if t = 2045 then -(io 21) else if t = 2042 then -(io 22) else if t = 2047 then -(io 23)
  else if t = 2060 then -(io 24) else if t = 2061 then -(io 25) else if t = 2038 then -(io 26) else if t = 2124 then -(io 27) else -(io 28)
def MG (M : Mem) (g : Nat) (v : GV) : Prop := mI M 75 g = io (gN v) ∧ mI M 76 (7 * g) = io (gSi v) ∧ mI M 76 (7 * g + 5) = io (gCh v) ∧ mI M 76 (7 * g + 6) = io (gBo v)
  ∧ (∀ s, s < gN v → mI M 77 (8 * g + s) = io (gOd v s) ∧ mI M 78 (8 * g + s) = io (gWo v s) ∧ mI M 79 (8 * g + s) = io (gPu v s) ∧ mI M 80 (8 * g + s) = io (gB v s) ∧ mI M 81 (8 * g + s) = io (gE v s))
  ∧ ∀ k, k < gL v → mI M 82 (700 * g + k) = trM (gC v k)
def MS (M : Mem) (g : Nat) (s : SV) : Prop := mI M 76 (7 * g + 1) = gI (sCa s) ∧ mI M 76 (7 * g + 2) = io (sKe s) ∧ mI M 76 (7 * g + 3) = io (sGl s) ∧ mI M 76 (7 * g + 4) = io (sLe s)
/-- the state: GATES, SETTINGS, BOOKS, the IMAGE's BOOKS, is there one, STATUS, the IMAGE's, how much is fed, the tape, the FAULT's place -/
abbrev VV : Type := (Nat → GV) × (Nat → SV) × (Nat → BV) × (Nat → BV) × Bool × (Nat → Int32) × (Nat → Int32) × Nat × (Nat → Nat) × Int32
def vG (V : VV) : Nat → GV := V.1
def vS (V : VV) : Nat → SV := V.2.1
def vB (V : VV) : Nat → BV := V.2.2.1
def vK (V : VV) : Nat → BV := V.2.2.2.1
def vH (V : VV) : Bool := V.2.2.2.2.1
def vT (V : VV) : Nat → Int32 := V.2.2.2.2.2.1
def vU (V : VV) : Nat → Int32 := V.2.2.2.2.2.2.1
def vF (V : VV) : Nat := V.2.2.2.2.2.2.2.1
def vP (V : VV) : Nat → Nat := V.2.2.2.2.2.2.2.2.1
def vE (V : VV) : Int32 := V.2.2.2.2.2.2.2.2.2
def okV (V : VV) : Prop := (∀ g, g < 2 → okG (vG V g) ∧ okS (vS V g) ∧ okB (vG V g) (vB V g) ∧ (vH V = true → okB (vG V g) (vK V g))) ∧ vF V ≤ 700 ∧ ∀ k, k < vF V → vP V k < 256
/-- the reference holds V -/
def IM (M : Mem) (V : VV) : Prop := PM M ∧ (∀ g, g < 2 → MG M g (vG V g) ∧ MS M g (vS V g) ∧ MBk M 83 g (vB V g) ∧ (vH V = true → MBk M 103 g (vK V g)))
  ∧ mI M 72 49 = (if vH V then io 1 else io 0) ∧ (∀ i, i < 3 → mI M 90 i = vT V i) ∧ (vH V = true → ∀ i, i < 3 → mI M 110 i = vU V i) ∧ mI M 72 20 = io (vF V) ∧ (∀ k, k < vF V → mI M 91 k = io (vP V k)) ∧ mI M 72 29 = vE V
def gid (g : Nat) : Nat := if g = 0 then 11 else 25
def bid (g : Nat) : Nat := if g = 0 then 19 else 33
def kid (g : Nat) : Nat := if g = 0 then 22 else 36
/-- the class's fixed pointers, of what lasts and of what is reckoned anew -/
def PTc1 : List (Nat × Nat × Nat) := [(1, 0, 2), (1, 1, 11), (1, 2, 25), (1, 3, 39), (1, 4, 40), (1, 7, 41), (1, 8, 45), (1, 9, 52), (1, 10, 63), (1, 11, 66), (1, 12, 71), (2, 0, 3), (4, 7, 5), (4, 8, 6), (4, 9, 7), (4, 10, 8), (4, 11, 9), (4, 12, 10), (11, 1, 19), (11, 2, 22), (12, 7, 13), (12, 8, 14), (12, 9, 15), (12, 10, 16), (12, 11, 17), (12, 12, 18), (19, 5, 20), (19, 6, 21), (22, 5, 23), (22, 6, 24), (25, 1, 33), (25, 2, 36), (26, 7, 27), (26, 8, 28), (26, 9, 29), (26, 10, 30), (26, 11, 31), (26, 12, 32), (33, 5, 34), (33, 6, 35), (36, 5, 37), (36, 6, 38)]
def PTc2 : List (Nat × Nat × Nat) := [(41, 3, 43), (41, 4, 44), (41, 2, 42), (45, 0, 41), (46, 0, 47), (46, 1, 48), (49, 0, 50), (49, 1, 51), (52, 0, 41), (52, 1, 59), (53, 0, 54), (53, 1, 55), (56, 0, 57), (56, 1, 58), (59, 3, 61), (59, 4, 62), (59, 2, 60), (63, 1, 64), (63, 2, 65), (63, 0, 41), (66, 1, 67), (66, 2, 68), (66, 4, 69), (66, 5, 70), (66, 0, 41)]
def PC1 (M : Mem) : Prop := ∀ t ∈ PTc1, mR M t.1 t.2.1 = t.2.2
def PC2 (M : Mem) : Prop := ∀ t ∈ PTc2, mR M t.1 t.2.1 = t.2.2
theorem PC1.p1_0 {M : Mem} (h : PC1 M) : mR M 1 0 = 2 := h (1, 0, 2) (by decide)
theorem PC1.p1_1 {M : Mem} (h : PC1 M) : mR M 1 1 = 11 := h (1, 1, 11) (by decide)
theorem PC1.p1_2 {M : Mem} (h : PC1 M) : mR M 1 2 = 25 := h (1, 2, 25) (by decide)
theorem PC1.p1_3 {M : Mem} (h : PC1 M) : mR M 1 3 = 39 := h (1, 3, 39) (by decide)
theorem PC1.p1_4 {M : Mem} (h : PC1 M) : mR M 1 4 = 40 := h (1, 4, 40) (by decide)
theorem PC1.p1_7 {M : Mem} (h : PC1 M) : mR M 1 7 = 41 := h (1, 7, 41) (by decide)
theorem PC1.p1_8 {M : Mem} (h : PC1 M) : mR M 1 8 = 45 := h (1, 8, 45) (by decide)
theorem PC1.p1_9 {M : Mem} (h : PC1 M) : mR M 1 9 = 52 := h (1, 9, 52) (by decide)
theorem PC1.p1_10 {M : Mem} (h : PC1 M) : mR M 1 10 = 63 := h (1, 10, 63) (by decide)
theorem PC1.p1_11 {M : Mem} (h : PC1 M) : mR M 1 11 = 66 := h (1, 11, 66) (by decide)
theorem PC1.p1_12 {M : Mem} (h : PC1 M) : mR M 1 12 = 71 := h (1, 12, 71) (by decide)
theorem PC1.p2_0 {M : Mem} (h : PC1 M) : mR M 2 0 = 3 := h (2, 0, 3) (by decide)
theorem PC1.p4_7 {M : Mem} (h : PC1 M) : mR M 4 7 = 5 := h (4, 7, 5) (by decide)
theorem PC1.p4_8 {M : Mem} (h : PC1 M) : mR M 4 8 = 6 := h (4, 8, 6) (by decide)
theorem PC1.p4_9 {M : Mem} (h : PC1 M) : mR M 4 9 = 7 := h (4, 9, 7) (by decide)
theorem PC1.p4_10 {M : Mem} (h : PC1 M) : mR M 4 10 = 8 := h (4, 10, 8) (by decide)
theorem PC1.p4_11 {M : Mem} (h : PC1 M) : mR M 4 11 = 9 := h (4, 11, 9) (by decide)
theorem PC1.p4_12 {M : Mem} (h : PC1 M) : mR M 4 12 = 10 := h (4, 12, 10) (by decide)
theorem PC1.p11_1 {M : Mem} (h : PC1 M) : mR M 11 1 = 19 := h (11, 1, 19) (by decide)
theorem PC1.p11_2 {M : Mem} (h : PC1 M) : mR M 11 2 = 22 := h (11, 2, 22) (by decide)
theorem PC1.p12_7 {M : Mem} (h : PC1 M) : mR M 12 7 = 13 := h (12, 7, 13) (by decide)
theorem PC1.p12_8 {M : Mem} (h : PC1 M) : mR M 12 8 = 14 := h (12, 8, 14) (by decide)
theorem PC1.p12_9 {M : Mem} (h : PC1 M) : mR M 12 9 = 15 := h (12, 9, 15) (by decide)
theorem PC1.p12_10 {M : Mem} (h : PC1 M) : mR M 12 10 = 16 := h (12, 10, 16) (by decide)
theorem PC1.p12_11 {M : Mem} (h : PC1 M) : mR M 12 11 = 17 := h (12, 11, 17) (by decide)
theorem PC1.p12_12 {M : Mem} (h : PC1 M) : mR M 12 12 = 18 := h (12, 12, 18) (by decide)
theorem PC1.p19_5 {M : Mem} (h : PC1 M) : mR M 19 5 = 20 := h (19, 5, 20) (by decide)
theorem PC1.p19_6 {M : Mem} (h : PC1 M) : mR M 19 6 = 21 := h (19, 6, 21) (by decide)
theorem PC1.p22_5 {M : Mem} (h : PC1 M) : mR M 22 5 = 23 := h (22, 5, 23) (by decide)
theorem PC1.p22_6 {M : Mem} (h : PC1 M) : mR M 22 6 = 24 := h (22, 6, 24) (by decide)
theorem PC1.p25_1 {M : Mem} (h : PC1 M) : mR M 25 1 = 33 := h (25, 1, 33) (by decide)
theorem PC1.p25_2 {M : Mem} (h : PC1 M) : mR M 25 2 = 36 := h (25, 2, 36) (by decide)
theorem PC1.p26_7 {M : Mem} (h : PC1 M) : mR M 26 7 = 27 := h (26, 7, 27) (by decide)
theorem PC1.p26_8 {M : Mem} (h : PC1 M) : mR M 26 8 = 28 := h (26, 8, 28) (by decide)
theorem PC1.p26_9 {M : Mem} (h : PC1 M) : mR M 26 9 = 29 := h (26, 9, 29) (by decide)
theorem PC1.p26_10 {M : Mem} (h : PC1 M) : mR M 26 10 = 30 := h (26, 10, 30) (by decide)
theorem PC1.p26_11 {M : Mem} (h : PC1 M) : mR M 26 11 = 31 := h (26, 11, 31) (by decide)
theorem PC1.p26_12 {M : Mem} (h : PC1 M) : mR M 26 12 = 32 := h (26, 12, 32) (by decide)
theorem PC1.p33_5 {M : Mem} (h : PC1 M) : mR M 33 5 = 34 := h (33, 5, 34) (by decide)
theorem PC1.p33_6 {M : Mem} (h : PC1 M) : mR M 33 6 = 35 := h (33, 6, 35) (by decide)
theorem PC1.p36_5 {M : Mem} (h : PC1 M) : mR M 36 5 = 37 := h (36, 5, 37) (by decide)
theorem PC1.p36_6 {M : Mem} (h : PC1 M) : mR M 36 6 = 38 := h (36, 6, 38) (by decide)
theorem PC2.p41_3 {M : Mem} (h : PC2 M) : mR M 41 3 = 43 := h (41, 3, 43) (by decide)
theorem PC2.p41_4 {M : Mem} (h : PC2 M) : mR M 41 4 = 44 := h (41, 4, 44) (by decide)
theorem PC2.p41_2 {M : Mem} (h : PC2 M) : mR M 41 2 = 42 := h (41, 2, 42) (by decide)
theorem PC2.p45_0 {M : Mem} (h : PC2 M) : mR M 45 0 = 41 := h (45, 0, 41) (by decide)
theorem PC2.p46_0 {M : Mem} (h : PC2 M) : mR M 46 0 = 47 := h (46, 0, 47) (by decide)
theorem PC2.p46_1 {M : Mem} (h : PC2 M) : mR M 46 1 = 48 := h (46, 1, 48) (by decide)
theorem PC2.p49_0 {M : Mem} (h : PC2 M) : mR M 49 0 = 50 := h (49, 0, 50) (by decide)
theorem PC2.p49_1 {M : Mem} (h : PC2 M) : mR M 49 1 = 51 := h (49, 1, 51) (by decide)
theorem PC2.p52_0 {M : Mem} (h : PC2 M) : mR M 52 0 = 41 := h (52, 0, 41) (by decide)
theorem PC2.p52_1 {M : Mem} (h : PC2 M) : mR M 52 1 = 59 := h (52, 1, 59) (by decide)
theorem PC2.p53_0 {M : Mem} (h : PC2 M) : mR M 53 0 = 54 := h (53, 0, 54) (by decide)
theorem PC2.p53_1 {M : Mem} (h : PC2 M) : mR M 53 1 = 55 := h (53, 1, 55) (by decide)
theorem PC2.p56_0 {M : Mem} (h : PC2 M) : mR M 56 0 = 57 := h (56, 0, 57) (by decide)
theorem PC2.p56_1 {M : Mem} (h : PC2 M) : mR M 56 1 = 58 := h (56, 1, 58) (by decide)
theorem PC2.p59_3 {M : Mem} (h : PC2 M) : mR M 59 3 = 61 := h (59, 3, 61) (by decide)
theorem PC2.p59_4 {M : Mem} (h : PC2 M) : mR M 59 4 = 62 := h (59, 4, 62) (by decide)
theorem PC2.p59_2 {M : Mem} (h : PC2 M) : mR M 59 2 = 60 := h (59, 2, 60) (by decide)
theorem PC2.p63_1 {M : Mem} (h : PC2 M) : mR M 63 1 = 64 := h (63, 1, 64) (by decide)
theorem PC2.p63_2 {M : Mem} (h : PC2 M) : mR M 63 2 = 65 := h (63, 2, 65) (by decide)
theorem PC2.p63_0 {M : Mem} (h : PC2 M) : mR M 63 0 = 41 := h (63, 0, 41) (by decide)
theorem PC2.p66_1 {M : Mem} (h : PC2 M) : mR M 66 1 = 67 := h (66, 1, 67) (by decide)
theorem PC2.p66_2 {M : Mem} (h : PC2 M) : mR M 66 2 = 68 := h (66, 2, 68) (by decide)
theorem PC2.p66_4 {M : Mem} (h : PC2 M) : mR M 66 4 = 69 := h (66, 4, 69) (by decide)
theorem PC2.p66_5 {M : Mem} (h : PC2 M) : mR M 66 5 = 70 := h (66, 5, 70) (by decide)
theorem PC2.p66_0 {M : Mem} (h : PC2 M) : mR M 66 0 = 41 := h (66, 0, 41) (by decide)
def RI (M : Mem) (R : Nat → Nat) : Prop := mR M 11 0 = R 0 ∧ mR M 25 0 = R 1 ∧ mR M 2 3 = R 2 ∧ isRu (R 0) ∧ isRu (R 1) ∧ isRu (R 2) ∧ R 0 ≠ R 1 ∧ R 0 ≠ R 2 ∧ R 1 ≠ R 2
/-- the first step of a Rules' code, which nobody ever moves -/
def Z0 (M : Mem) : Prop := ∀ r, isRu r → mI M (r + 4) 0 = io 0
/-- the class holds V, where Rules are R -/
def ICp (M : Mem) (R : Nat → Nat) (V : VV) : Prop := PC1 M ∧ RI M R ∧ (∀ g, g < 2 → CG M (R g) (vG V g) ∧ CS M (R g + 6) (vS V g) ∧ CB M (bid g) (vB V g) ∧ (vH V = true → CB M (kid g) (vK V g)))
  ∧ mI M 1 5 = (if vH V then io 1 else io 0) ∧ (∀ i, i < 3 → mI M 39 i = vT V i) ∧ (vH V = true → ∀ i, i < 3 → mI M 40 i = vU V i) ∧ mI M 2 1 = io (vF V) ∧ (∀ k, k < vF V → mI M 3 k = io (vP V k)) ∧ mI M 1 6 = vE V ∧ Z0 M
/-- Cases: the object o holds the amounts cs -/
def CaI (M : Mem) (o N : Nat) (cs : Nat → Nat) : Prop := ∃ pl : List Nat, pl.Nodup ∧ (∀ t, t ∈ pl ↔ cs t ≠ 0) ∧ (∀ t, cs t ≠ 0 → t < N) ∧ mI M o 2 = io pl.length ∧ (∀ i, (h : i < pl.length) → mI M (o + 2) i = io pl[i]) ∧ ∀ t, t < N → mI M (o + 1) t = io (cs t)
/-- what is reckoned anew is in order -/
def ICs (M : Mem) : Prop := PC2 M ∧ ((mR M 45 1 = 46 ∧ mR M 45 2 = 49) ∨ (mR M 45 1 = 49 ∧ mR M 45 2 = 46)) ∧ ((mR M 52 2 = 53 ∧ mR M 52 3 = 56) ∨ (mR M 52 2 = 56 ∧ mR M 52 3 = 53))
  ∧ (∃ cs, CaI M 46 100 cs) ∧ (∃ cs, CaI M 49 100 cs) ∧ (∃ cs, CaI M 53 10000 cs) ∧ ∃ cs, CaI M 56 10000 cs
def Inv (M : Mem) : Prop := ∃ R V, okV V ∧ ICp M R V ∧ ICs M ∧ IM M V
