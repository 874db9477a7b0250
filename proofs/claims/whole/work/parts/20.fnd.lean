/-! ===== LEVEL 2: the foundation ===== -/
/-- only objects of the list have changed -/
def Only (l : List Nat) (M M' : Mem) : Prop := ∀ o, o ∉ l → (∀ k, mI M' o k = mI M o k) ∧ (∀ k, mL M' o k = mL M o k) ∧ ∀ k, mR M' o k = mR M o k
theorem Only.refl {l : List Nat} {M : Mem} : Only l M M := fun _ _ => ⟨fun _ => rfl, fun _ => rfl, fun _ => rfl⟩
theorem Only.trans {l l' : List Nat} {M M1 M2 : Mem} (h : Only l M M1) (h' : Only l' M1 M2) : Only (l ++ l') M M2 := fun o ho =>
  have a := h o (fun q => ho (List.mem_append_left _ q))
  have b := h' o (fun q => ho (List.mem_append_right _ q))
  ⟨fun k => (b.1 k).trans (a.1 k), fun k => (b.2.1 k).trans (a.2.1 k), fun k => (b.2.2 k).trans (a.2.2 k)⟩
theorem Only.sub {l l' : List Nat} {M M' : Mem} (h : Only l M M') (hs : ∀ o ∈ l, o ∈ l') : Only l' M M' := fun o ho => h o (fun q => ho (hs o q))
theorem Only.same {l : List Nat} {M M1 M2 : Mem} (h : Only l M M1) (h' : Only l M1 M2) : Only l M M2 := (h.trans h').sub (fun _ q => (List.mem_append.mp q).elim id id)
theorem Only.I {l : List Nat} {M M' : Mem} (h : Only l M M') {o k : Nat} (ho : o ∉ l) : mI M' o k = mI M o k := (h o ho).1 k
theorem Only.L {l : List Nat} {M M' : Mem} (h : Only l M M') {o k : Nat} (ho : o ∉ l) : mL M' o k = mL M o k := (h o ho).2.1 k
theorem Only.R {l : List Nat} {M M' : Mem} (h : Only l M M') {o k : Nat} (ho : o ∉ l) : mR M' o k = mR M o k := (h o ho).2.2 k
theorem mI_sI {M : Mem} {o k p j : Nat} {v : Int32} : mI (sI M o k v) p j = if p = o ∧ j = k then v else mI M p j := rfl
theorem mI_sL {M : Mem} {o k p j : Nat} {v : Int64} : mI (sL M o k v) p j = mI M p j := rfl
theorem mI_sR {M : Mem} {o k p j : Nat} {v : Nat} : mI (sR M o k v) p j = mI M p j := rfl
theorem mL_sI {M : Mem} {o k p j : Nat} {v : Int32} : mL (sI M o k v) p j = mL M p j := rfl
theorem mL_sL {M : Mem} {o k p j : Nat} {v : Int64} : mL (sL M o k v) p j = if p = o ∧ j = k then v else mL M p j := rfl
theorem mL_sR {M : Mem} {o k p j : Nat} {v : Nat} : mL (sR M o k v) p j = mL M p j := rfl
theorem mR_sI {M : Mem} {o k p j : Nat} {v : Int32} : mR (sI M o k v) p j = mR M p j := rfl
theorem mR_sL {M : Mem} {o k p j : Nat} {v : Int64} : mR (sL M o k v) p j = mR M p j := rfl
theorem mR_sR {M : Mem} {o k p j : Nat} {v : Nat} : mR (sR M o k v) p j = if p = o ∧ j = k then v else mR M p j := rfl
theorem Only.sI {M : Mem} {o k : Nat} {v : Int32} {l : List Nat} (h : o ∈ l) : Only l M (sI M o k v) := fun p hp => ⟨fun j => by rw [mI_sI, if_neg (fun q : p = o ∧ j = k => hp (q.1 ▸ h))], fun _ => rfl, fun _ => rfl⟩
theorem Only.sL {M : Mem} {o k : Nat} {v : Int64} {l : List Nat} (h : o ∈ l) : Only l M (sL M o k v) := fun p hp => ⟨fun _ => rfl, fun j => by rw [mL_sL, if_neg (fun q : p = o ∧ j = k => hp (q.1 ▸ h))], fun _ => rfl⟩
theorem Only.sR {M : Mem} {o k v : Nat} {l : List Nat} (h : o ∈ l) : Only l M (sR M o k v) := fun p hp => ⟨fun _ => rfl, fun _ => rfl, fun j => by rw [mR_sR, if_neg (fun q : p = o ∧ j = k => hp (q.1 ▸ h))]⟩
theorem lt_eq {α β : Type} (x : α) (k : α → β) : lt x k = k x := rfl
theorem bndX_inl {α β : Type} (x : α) (M : Mem) (k : α → Mem → Option ((β ⊕ Nat) × Mem)) : bndX (some (.inl x, M)) k = k x M := rfl
theorem bndX_inr {α β : Type} (e : Nat) (M : Mem) (k : α → Mem → Option ((β ⊕ Nat) × Mem)) : bndX (some (.inr e, M)) k = some (.inr e, M) := rfl
theorem bndK_inl {α β : Type} (x : α) (M : Mem) (kx : Nat → Mem → Option (β × Mem)) (k : α → Mem → Option (β × Mem)) : bndK (some (.inl x, M)) kx k = k x M := rfl
theorem bndK_inr {α β : Type} (e : Nat) (M : Mem) (kx : Nat → Mem → Option (β × Mem)) (k : α → Mem → Option (β × Mem)) : bndK (some (.inr e, M)) kx k = kx e M := rfl
/-- the memory behind the constructors -/
def Mc1 : Mem := ((zX11_init 1 1 (zr M00 1)).getD ((), M00)).2
theorem Mc1_eq : zX11_init 1 1 (zr M00 1) = some ((), Mc1) := rfl
def Mc2 : Mem := ((zX12_init 72 72 (zr Mc1 72)).getD ((), M00)).2
def Mc3 : Mem := zr Mc2 111

def PTc : List (Nat × Nat × Nat) := [(1, 0, 2), (1, 1, 11), (1, 2, 25), (1, 3, 39), (1, 4, 40), (1, 7, 41), (1, 8, 45), (1, 9, 52), (1, 10, 63), (1, 11, 66), (1, 12, 71), (2, 0, 3), (2, 3, 4), (4, 7, 5), (4, 8, 6), (4, 9, 7), (4, 10, 8), (4, 11, 9), (4, 12, 10), (11, 0, 12), (11, 1, 19), (11, 2, 22), (12, 7, 13), (12, 8, 14), (12, 9, 15), (12, 10, 16), (12, 11, 17), (12, 12, 18), (19, 5, 20), (19, 6, 21), (22, 5, 23), (22, 6, 24), (25, 0, 26), (25, 1, 33), (25, 2, 36), (26, 7, 27), (26, 8, 28), (26, 9, 29), (26, 10, 30), (26, 11, 31), (26, 12, 32), (33, 5, 34), (33, 6, 35), (36, 5, 37), (36, 6, 38), (41, 3, 43), (41, 4, 44), (41, 0, 12), (41, 1, 18), (41, 2, 42), (45, 1, 46), (45, 2, 49), (45, 0, 41), (46, 0, 47), (46, 1, 48), (49, 0, 50), (49, 1, 51), (52, 2, 53), (52, 3, 56), (52, 0, 41), (52, 1, 59), (53, 0, 54), (53, 1, 55), (56, 0, 57), (56, 1, 58), (59, 3, 61), (59, 4, 62), (59, 0, 12), (59, 1, 18), (59, 2, 60), (63, 1, 64), (63, 2, 65), (63, 0, 41), (66, 1, 67), (66, 2, 68), (66, 4, 69), (66, 5, 70), (66, 0, 41)]
def PTm : List (Nat × Nat × Nat) := [(72, 0, 73), (72, 1, 74), (72, 3, 75), (72, 4, 76), (72, 5, 77), (72, 6, 78), (72, 7, 79), (72, 8, 80), (72, 9, 81), (72, 10, 82), (72, 11, 83), (72, 12, 84), (72, 13, 85), (72, 14, 86), (72, 15, 87), (72, 16, 88), (72, 17, 89), (72, 18, 90), (72, 19, 91), (72, 31, 92), (72, 32, 93), (72, 33, 94), (72, 34, 95), (72, 38, 96), (72, 39, 97), (72, 40, 98), (72, 41, 99), (72, 42, 100), (72, 46, 101), (72, 47, 102), (72, 50, 103), (72, 51, 104), (72, 52, 105), (72, 53, 106), (72, 54, 107), (72, 55, 108), (72, 56, 109), (72, 57, 110), (73, 0, 1020), (73, 1, 1021), (73, 2, 1022), (73, 3, 1023), (73, 4, 1024), (73, 5, 1025), (73, 6, 1026), (74, 0, 1027), (74, 1, 1028), (74, 2, 1029), (74, 3, 1030), (74, 4, 1022), (74, 5, 1031), (74, 6, 1023), (74, 7, 1024), (74, 8, 1025)]
theorem Mc2_some : (zX12_init 72 72 (zr Mc1 72)).isSome = true := by decide +kernel
theorem Mc2_eq : zX12_init 72 72 (zr Mc1 72) = some ((), Mc2) := by
  cases h : zX12_init 72 72 (zr Mc1 72) with
  | none => have h2 := Mc2_some; rw [h] at h2; cases h2
  | some q => obtain ⟨u, M⟩ := q; simp only [Mc2, h, Option.getD_some]
theorem ptc_ok : ∀ t ∈ PTc, mR Mc3 t.1 t.2.1 = t.2.2 := by decide +kernel
theorem ptm_ok : ∀ t ∈ PTm, mR Mc3 t.1 t.2.1 = t.2.2 := by decide +kernel
theorem zlaw_start (L : Nat) (xs : Nat → Int32) : zL_law L xs M00 = zL_law_L23 L xs LF 1 72 111 0 Mc3 := by
  unfold zL_law
  simp only [if_pos (show K0 1 = (0, 11) from rfl), if_pos (show K0 72 = (0, 12) from rfl), if_pos (show K0 111 = (2, 1) from rfl), lt_eq, Mc1_eq, bnd_some, Mc2_eq]
  rfl
/-- the ints that are not 0 at the start -/
def ITn : List (Nat × Nat × Int32) := [(1, 6, (-1)), (1, 13, (-1)), (1, 14, (-1)), (2, 2, (-1)), (4, 2, 1), (4, 4, 100), (10, 0, (-1)), (12, 2, 1), (12, 4, 100), (18, 0, (-1)), (26, 2, 1), (26, 4, 100), (32, 0, (-1)), (71, 0, (-1)), (72, 29, (-1)), (76, 0, 1), (76, 1, (-1)), (76, 6, 100), (76, 7, 1), (76, 8, (-1)), (76, 13, 100)]
theorem itn_ok : ∀ t ∈ ITn, mI Mc3 t.1 t.2.1 = t.2.2 := by decide +kernel