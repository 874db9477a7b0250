/-! ===== LEVEL 2: arrays are zero at the start ===== -/
theorem mI_zr {M : Mem} {o p j : Nat} : mI (zr M o) p j = if p = o then 0 else mI M p j := rfl
theorem mL_zr {M : Mem} {o p j : Nat} : mL (zr M o) p j = if p = o then 0 else mL M p j := rfl
theorem mR_zr {M : Mem} {o p j : Nat} : mR (zr M o) p j = if p = o then 0 else mR M p j := rfl
/-- object o is zero throughout, but for its fields below n -/
def Zr (o : Nat) (M : Mem) : Prop := (∀ k, mI M o k = 0) ∧ (∀ k, mL M o k = 0)
theorem Zr.sI {o p k : Nat} {v : Int32} {M : Mem} (h : Zr o M) (hp : ¬ o = p) : Zr o (sI M p k v) := ⟨fun j => by rw [mI_sI, if_neg (fun q : o = p ∧ j = k => hp q.1)]; exact h.1 j, h.2⟩
theorem Zr.sL {o p k : Nat} {v : Int64} {M : Mem} (h : Zr o M) (hp : ¬ o = p) : Zr o (sL M p k v) := ⟨h.1, fun j => by rw [mL_sL, if_neg (fun q : o = p ∧ j = k => hp q.1)]; exact h.2 j⟩
theorem Zr.sR {o p k v : Nat} {M : Mem} (h : Zr o M) : Zr o (sR M p k v) := ⟨h.1, h.2⟩
theorem Zr.zr {o p : Nat} {M : Mem} (h : Zr o M ∨ o = p) : Zr o (zr M p) := by
  rcases h with h | rfl
  · exact ⟨fun j => by rw [mI_zr]; split <;> first | rfl | exact h.1 j, fun j => by rw [mL_zr]; split <;> first | rfl | exact h.2 j⟩
  · exact ⟨fun j => by rw [mI_zr, if_pos rfl], fun j => by rw [mL_zr, if_pos rfl]⟩
theorem Zr.M00 {o : Nat} : Zr o M00 := ⟨fun _ => rfl, fun _ => rfl⟩
theorem ne_arr {o p c : Nat} (ho : (K0 o).1 ≠ 0) (h : K0 p = (0, c)) : ¬ o = p := fun e => ho (by rw [e, h])
theorem if_inv {c : Prop} {i : Decidable c} {α : Type} {F : Option α} {r : α} (h : (@ite _ c i F none) = some r) : c ∧ F = some r := by
  by_cases q : c
  · rw [if_pos q] at h; exact ⟨q, h⟩
  · rw [if_neg q] at h; cases h
theorem bnd_inv {α β : Type} {F : Option (α × Mem)} {k : α → Mem → Option (β × Mem)} {r : β × Mem} (h : bnd F k = some r) : ∃ x M, F = some (x, M) ∧ k x M = some r := by
  cases hF : F with
  | none => rw [hF] at h; cases h
  | some q => obtain ⟨x, M⟩ := q; rw [hF] at h; exact ⟨x, M, rfl, h⟩
theorem zr_X9 {o : Nat} {ct : Nat} {this : Nat} {M M' : Mem} (ho : (K0 o).1 ≠ 0) (hz : Zr o M) (h : zX9_init ct this M = some ((), M')) : Zr o M' := by
  unfold zX9_init at h
  try simp only [lt_eq] at h
  obtain ⟨k1, h⟩ := if_inv h
  obtain ⟨k2, h⟩ := if_inv h
  cases h
  repeat (first | assumption | refine Zr.sR ?_ | refine Zr.zr (Or.inl ?_) | refine Zr.sI ?_ (ne_arr (by assumption) (by assumption)) | refine Zr.sL ?_ (ne_arr (by assumption) (by assumption)))
theorem zr_X8 {o : Nat} {ct : Nat} {this : Nat} {M M' : Mem} (ho : (K0 o).1 ≠ 0) (hz : Zr o M) (h : zX8_init ct this M = some ((), M')) : Zr o M' := by
  unfold zX8_init at h
  try simp only [lt_eq] at h
  obtain ⟨k1, h⟩ := if_inv h
  obtain ⟨k2, h⟩ := if_inv h
  obtain ⟨k10, h⟩ := if_inv h
  obtain ⟨k13, h⟩ := if_inv h
  obtain ⟨k16, h⟩ := if_inv h
  obtain ⟨k19, h⟩ := if_inv h
  obtain ⟨k22, h⟩ := if_inv h
  obtain ⟨k25, h⟩ := if_inv h
  obtain ⟨u27, N27, e27, h⟩ := bnd_inv h
  have z27 := zr_X9 ho (by repeat (first | assumption | refine Zr.sR ?_ | refine Zr.zr (Or.inl ?_) | refine Zr.sI ?_ (ne_arr (by assumption) (by assumption)) | refine Zr.sL ?_ (ne_arr (by assumption) (by assumption)))) e27
  try simp only [lt_eq] at h
  cases h
  repeat (first | assumption | refine Zr.sR ?_ | refine Zr.zr (Or.inl ?_) | refine Zr.sI ?_ (ne_arr (by assumption) (by assumption)) | refine Zr.sL ?_ (ne_arr (by assumption) (by assumption)))
theorem zr_X6 {o : Nat} {ct : Nat} {this : Nat} {M M' : Mem} (ho : (K0 o).1 ≠ 0) (hz : Zr o M) (h : zX6_init ct this M = some ((), M')) : Zr o M' := by
  unfold zX6_init at h
  try simp only [lt_eq] at h
  obtain ⟨k1, h⟩ := if_inv h
  obtain ⟨k2, h⟩ := if_inv h
  obtain ⟨k4, h⟩ := if_inv h
  obtain ⟨k8, h⟩ := if_inv h
  obtain ⟨u10, N10, e10, h⟩ := bnd_inv h
  have z10 := zr_X8 ho (by repeat (first | assumption | refine Zr.sR ?_ | refine Zr.zr (Or.inl ?_) | refine Zr.sI ?_ (ne_arr (by assumption) (by assumption)) | refine Zr.sL ?_ (ne_arr (by assumption) (by assumption)))) e10
  try simp only [lt_eq] at h
  cases h
  repeat (first | assumption | refine Zr.sR ?_ | refine Zr.zr (Or.inl ?_) | refine Zr.sI ?_ (ne_arr (by assumption) (by assumption)) | refine Zr.sL ?_ (ne_arr (by assumption) (by assumption)))
theorem zr_X0 {o : Nat} {ct : Nat} {this : Nat} {M M' : Mem} (ho : (K0 o).1 ≠ 0) (hz : Zr o M) (h : zX0_init ct this M = some ((), M')) : Zr o M' := by
  unfold zX0_init at h
  try simp only [lt_eq] at h
  obtain ⟨k1, h⟩ := if_inv h
  obtain ⟨k2, h⟩ := if_inv h
  obtain ⟨k8, h⟩ := if_inv h
  obtain ⟨k11, h⟩ := if_inv h
  cases h
  repeat (first | assumption | refine Zr.sR ?_ | refine Zr.zr (Or.inl ?_) | refine Zr.sI ?_ (ne_arr (by assumption) (by assumption)) | refine Zr.sL ?_ (ne_arr (by assumption) (by assumption)))
theorem zr_X4 {o : Nat} {ct : Nat} {this : Nat} {M M' : Mem} (ho : (K0 o).1 ≠ 0) (hz : Zr o M) (h : zX4_init ct this M = some ((), M')) : Zr o M' := by
  unfold zX4_init at h
  try simp only [lt_eq] at h
  obtain ⟨k1, h⟩ := if_inv h
  obtain ⟨k2, h⟩ := if_inv h
  obtain ⟨u4, N4, e4, h⟩ := bnd_inv h
  have z4 := zr_X8 ho (by repeat (first | assumption | refine Zr.sR ?_ | refine Zr.zr (Or.inl ?_) | refine Zr.sI ?_ (ne_arr (by assumption) (by assumption)) | refine Zr.sL ?_ (ne_arr (by assumption) (by assumption)))) e4
  try simp only [lt_eq] at h
  obtain ⟨k5, h⟩ := if_inv h
  obtain ⟨k7, h⟩ := if_inv h
  obtain ⟨u9, N9, e9, h⟩ := bnd_inv h
  have z9 := zr_X0 ho (by repeat (first | assumption | refine Zr.sR ?_ | refine Zr.zr (Or.inl ?_) | refine Zr.sI ?_ (ne_arr (by assumption) (by assumption)) | refine Zr.sL ?_ (ne_arr (by assumption) (by assumption)))) e9
  try simp only [lt_eq] at h
  obtain ⟨k11, h⟩ := if_inv h
  obtain ⟨u13, N13, e13, h⟩ := bnd_inv h
  have z13 := zr_X0 ho (by repeat (first | assumption | refine Zr.sR ?_ | refine Zr.zr (Or.inl ?_) | refine Zr.sI ?_ (ne_arr (by assumption) (by assumption)) | refine Zr.sL ?_ (ne_arr (by assumption) (by assumption)))) e13
  try simp only [lt_eq] at h
  cases h
  repeat (first | assumption | refine Zr.sR ?_ | refine Zr.zr (Or.inl ?_) | refine Zr.sI ?_ (ne_arr (by assumption) (by assumption)) | refine Zr.sL ?_ (ne_arr (by assumption) (by assumption)))
theorem zr_X5 {o : Nat} {ct : Nat} {this : Nat} {x1 : Nat} {x2 : Nat} {M M' : Mem} (ho : (K0 o).1 ≠ 0) (hz : Zr o M) (h : zX5_init ct this x1 x2 M = some ((), M')) : Zr o M' := by
  unfold zX5_init at h
  try simp only [lt_eq] at h
  obtain ⟨k1, h⟩ := if_inv h
  obtain ⟨k2, h⟩ := if_inv h
  obtain ⟨k4, h⟩ := if_inv h
  obtain ⟨k6, h⟩ := if_inv h
  obtain ⟨k9, h⟩ := if_inv h
  obtain ⟨k11, h⟩ := if_inv h
  obtain ⟨k12, h⟩ := if_inv h
  obtain ⟨k13, h⟩ := if_inv h
  obtain ⟨k15, h⟩ := if_inv h
  cases h
  repeat (first | assumption | refine Zr.sR ?_ | refine Zr.zr (Or.inl ?_) | refine Zr.sI ?_ (ne_arr (by assumption) (by assumption)) | refine Zr.sL ?_ (ne_arr (by assumption) (by assumption)))
theorem zr_X1 {o : Nat} {ct : Nat} {this : Nat} {x1 : Nat} {x2 : Nat} {M M' : Mem} (ho : (K0 o).1 ≠ 0) (hz : Zr o M) (h : zX1_init ct this x1 x2 M = some ((), M')) : Zr o M' := by
  unfold zX1_init at h
  try simp only [lt_eq] at h
  obtain ⟨k1, h⟩ := if_inv h
  obtain ⟨k2, h⟩ := if_inv h
  obtain ⟨k4, h⟩ := if_inv h
  obtain ⟨k6, h⟩ := if_inv h
  cases h
  repeat (first | assumption | refine Zr.sR ?_ | refine Zr.zr (Or.inl ?_) | refine Zr.sI ?_ (ne_arr (by assumption) (by assumption)) | refine Zr.sL ?_ (ne_arr (by assumption) (by assumption)))
theorem zr_X10 {o : Nat} {ct : Nat} {this : Nat} {x1 : Nat} {M M' : Mem} (ho : (K0 o).1 ≠ 0) (hz : Zr o M) (h : zX10_init ct this x1 M = some ((), M')) : Zr o M' := by
  unfold zX10_init at h
  try simp only [lt_eq] at h
  obtain ⟨k1, h⟩ := if_inv h
  obtain ⟨k2, h⟩ := if_inv h
  obtain ⟨k4, h⟩ := if_inv h
  obtain ⟨k6, h⟩ := if_inv h
  obtain ⟨u8, N8, e8, h⟩ := bnd_inv h
  have z8 := zr_X1 ho (by repeat (first | assumption | refine Zr.sR ?_ | refine Zr.zr (Or.inl ?_) | refine Zr.sI ?_ (ne_arr (by assumption) (by assumption)) | refine Zr.sL ?_ (ne_arr (by assumption) (by assumption)))) e8
  try simp only [lt_eq] at h
  obtain ⟨k9, h⟩ := if_inv h
  obtain ⟨k11, h⟩ := if_inv h
  obtain ⟨k13, h⟩ := if_inv h
  obtain ⟨k15, h⟩ := if_inv h
  obtain ⟨u17, N17, e17, h⟩ := bnd_inv h
  have z17 := zr_X1 ho (by repeat (first | assumption | refine Zr.sR ?_ | refine Zr.zr (Or.inl ?_) | refine Zr.sI ?_ (ne_arr (by assumption) (by assumption)) | refine Zr.sL ?_ (ne_arr (by assumption) (by assumption)))) e17
  try simp only [lt_eq] at h
  obtain ⟨k21, h⟩ := if_inv h
  cases h
  repeat (first | assumption | refine Zr.sR ?_ | refine Zr.zr (Or.inl ?_) | refine Zr.sI ?_ (ne_arr (by assumption) (by assumption)) | refine Zr.sL ?_ (ne_arr (by assumption) (by assumption)))
theorem zr_X3 {o : Nat} {ct : Nat} {this : Nat} {x1 : Nat} {x2 : Nat} {M M' : Mem} (ho : (K0 o).1 ≠ 0) (hz : Zr o M) (h : zX3_init ct this x1 x2 M = some ((), M')) : Zr o M' := by
  unfold zX3_init at h
  try simp only [lt_eq] at h
  obtain ⟨k1, h⟩ := if_inv h
  obtain ⟨k2, h⟩ := if_inv h
  obtain ⟨k4, h⟩ := if_inv h
  obtain ⟨k6, h⟩ := if_inv h
  obtain ⟨u8, N8, e8, h⟩ := bnd_inv h
  have z8 := zr_X1 ho (by repeat (first | assumption | refine Zr.sR ?_ | refine Zr.zr (Or.inl ?_) | refine Zr.sI ?_ (ne_arr (by assumption) (by assumption)) | refine Zr.sL ?_ (ne_arr (by assumption) (by assumption)))) e8
  try simp only [lt_eq] at h
  obtain ⟨k9, h⟩ := if_inv h
  obtain ⟨k11, h⟩ := if_inv h
  obtain ⟨k13, h⟩ := if_inv h
  obtain ⟨k15, h⟩ := if_inv h
  obtain ⟨u17, N17, e17, h⟩ := bnd_inv h
  have z17 := zr_X1 ho (by repeat (first | assumption | refine Zr.sR ?_ | refine Zr.zr (Or.inl ?_) | refine Zr.sI ?_ (ne_arr (by assumption) (by assumption)) | refine Zr.sL ?_ (ne_arr (by assumption) (by assumption)))) e17
  try simp only [lt_eq] at h
  obtain ⟨k22, h⟩ := if_inv h
  obtain ⟨k24, h⟩ := if_inv h
  obtain ⟨k26, h⟩ := if_inv h
  obtain ⟨u28, N28, e28, h⟩ := bnd_inv h
  have z28 := zr_X5 ho (by repeat (first | assumption | refine Zr.sR ?_ | refine Zr.zr (Or.inl ?_) | refine Zr.sI ?_ (ne_arr (by assumption) (by assumption)) | refine Zr.sL ?_ (ne_arr (by assumption) (by assumption)))) e28
  try simp only [lt_eq] at h
  cases h
  repeat (first | assumption | refine Zr.sR ?_ | refine Zr.zr (Or.inl ?_) | refine Zr.sI ?_ (ne_arr (by assumption) (by assumption)) | refine Zr.sL ?_ (ne_arr (by assumption) (by assumption)))
theorem zr_X7 {o : Nat} {ct : Nat} {this : Nat} {x1 : Nat} {M M' : Mem} (ho : (K0 o).1 ≠ 0) (hz : Zr o M) (h : zX7_init ct this x1 M = some ((), M')) : Zr o M' := by
  unfold zX7_init at h
  try simp only [lt_eq] at h
  obtain ⟨k1, h⟩ := if_inv h
  obtain ⟨k2, h⟩ := if_inv h
  obtain ⟨k4, h⟩ := if_inv h
  obtain ⟨k6, h⟩ := if_inv h
  obtain ⟨k11, h⟩ := if_inv h
  cases h
  repeat (first | assumption | refine Zr.sR ?_ | refine Zr.zr (Or.inl ?_) | refine Zr.sI ?_ (ne_arr (by assumption) (by assumption)) | refine Zr.sL ?_ (ne_arr (by assumption) (by assumption)))
theorem zr_X2 {o : Nat} {ct : Nat} {this : Nat} {x1 : Nat} {M M' : Mem} (ho : (K0 o).1 ≠ 0) (hz : Zr o M) (h : zX2_init ct this x1 M = some ((), M')) : Zr o M' := by
  unfold zX2_init at h
  try simp only [lt_eq] at h
  obtain ⟨k1, h⟩ := if_inv h
  obtain ⟨k2, h⟩ := if_inv h
  obtain ⟨k4, h⟩ := if_inv h
  obtain ⟨k6, h⟩ := if_inv h
  obtain ⟨k10, h⟩ := if_inv h
  obtain ⟨k13, h⟩ := if_inv h
  obtain ⟨k16, h⟩ := if_inv h
  cases h
  repeat (first | assumption | refine Zr.sR ?_ | refine Zr.zr (Or.inl ?_) | refine Zr.sI ?_ (ne_arr (by assumption) (by assumption)) | refine Zr.sL ?_ (ne_arr (by assumption) (by assumption)))
theorem zr_X11 {o : Nat} {ct : Nat} {this : Nat} {M M' : Mem} (ho : (K0 o).1 ≠ 0) (hz : Zr o M) (h : zX11_init ct this M = some ((), M')) : Zr o M' := by
  unfold zX11_init at h
  try simp only [lt_eq] at h
  obtain ⟨k1, h⟩ := if_inv h
  obtain ⟨k2, h⟩ := if_inv h
  obtain ⟨u4, N4, e4, h⟩ := bnd_inv h
  have z4 := zr_X6 ho (by repeat (first | assumption | refine Zr.sR ?_ | refine Zr.zr (Or.inl ?_) | refine Zr.sI ?_ (ne_arr (by assumption) (by assumption)) | refine Zr.sL ?_ (ne_arr (by assumption) (by assumption)))) e4
  try simp only [lt_eq] at h
  obtain ⟨k5, h⟩ := if_inv h
  obtain ⟨k7, h⟩ := if_inv h
  obtain ⟨u9, N9, e9, h⟩ := bnd_inv h
  have z9 := zr_X4 ho (by repeat (first | assumption | refine Zr.sR ?_ | refine Zr.zr (Or.inl ?_) | refine Zr.sI ?_ (ne_arr (by assumption) (by assumption)) | refine Zr.sL ?_ (ne_arr (by assumption) (by assumption)))) e9
  try simp only [lt_eq] at h
  obtain ⟨k11, h⟩ := if_inv h
  obtain ⟨u13, N13, e13, h⟩ := bnd_inv h
  have z13 := zr_X4 ho (by repeat (first | assumption | refine Zr.sR ?_ | refine Zr.zr (Or.inl ?_) | refine Zr.sI ?_ (ne_arr (by assumption) (by assumption)) | refine Zr.sL ?_ (ne_arr (by assumption) (by assumption)))) e13
  try simp only [lt_eq] at h
  obtain ⟨k15, h⟩ := if_inv h
  obtain ⟨k18, h⟩ := if_inv h
  obtain ⟨k23, h⟩ := if_inv h
  obtain ⟨k25, h⟩ := if_inv h
  obtain ⟨k26, h⟩ := if_inv h
  obtain ⟨k27, h⟩ := if_inv h
  obtain ⟨k28, h⟩ := if_inv h
  obtain ⟨k29, h⟩ := if_inv h
  obtain ⟨u31, N31, e31, h⟩ := bnd_inv h
  have z31 := zr_X5 ho (by repeat (first | assumption | refine Zr.sR ?_ | refine Zr.zr (Or.inl ?_) | refine Zr.sI ?_ (ne_arr (by assumption) (by assumption)) | refine Zr.sL ?_ (ne_arr (by assumption) (by assumption)))) e31
  try simp only [lt_eq] at h
  obtain ⟨k33, h⟩ := if_inv h
  obtain ⟨k35, h⟩ := if_inv h
  obtain ⟨u36, N36, e36, h⟩ := bnd_inv h
  have z36 := zr_X10 ho (by repeat (first | assumption | refine Zr.sR ?_ | refine Zr.zr (Or.inl ?_) | refine Zr.sI ?_ (ne_arr (by assumption) (by assumption)) | refine Zr.sL ?_ (ne_arr (by assumption) (by assumption)))) e36
  try simp only [lt_eq] at h
  obtain ⟨k38, h⟩ := if_inv h
  obtain ⟨k40, h⟩ := if_inv h
  obtain ⟨k41, h⟩ := if_inv h
  obtain ⟨k42, h⟩ := if_inv h
  obtain ⟨k43, h⟩ := if_inv h
  obtain ⟨k44, h⟩ := if_inv h
  obtain ⟨u45, N45, e45, h⟩ := bnd_inv h
  have z45 := zr_X3 ho (by repeat (first | assumption | refine Zr.sR ?_ | refine Zr.zr (Or.inl ?_) | refine Zr.sI ?_ (ne_arr (by assumption) (by assumption)) | refine Zr.sL ?_ (ne_arr (by assumption) (by assumption)))) e45
  try simp only [lt_eq] at h
  obtain ⟨k47, h⟩ := if_inv h
  obtain ⟨k49, h⟩ := if_inv h
  obtain ⟨u50, N50, e50, h⟩ := bnd_inv h
  have z50 := zr_X7 ho (by repeat (first | assumption | refine Zr.sR ?_ | refine Zr.zr (Or.inl ?_) | refine Zr.sI ?_ (ne_arr (by assumption) (by assumption)) | refine Zr.sL ?_ (ne_arr (by assumption) (by assumption)))) e50
  try simp only [lt_eq] at h
  obtain ⟨k52, h⟩ := if_inv h
  obtain ⟨k54, h⟩ := if_inv h
  obtain ⟨u55, N55, e55, h⟩ := bnd_inv h
  have z55 := zr_X2 ho (by repeat (first | assumption | refine Zr.sR ?_ | refine Zr.zr (Or.inl ?_) | refine Zr.sI ?_ (ne_arr (by assumption) (by assumption)) | refine Zr.sL ?_ (ne_arr (by assumption) (by assumption)))) e55
  try simp only [lt_eq] at h
  obtain ⟨k57, h⟩ := if_inv h
  obtain ⟨u59, N59, e59, h⟩ := bnd_inv h
  have z59 := zr_X9 ho (by repeat (first | assumption | refine Zr.sR ?_ | refine Zr.zr (Or.inl ?_) | refine Zr.sI ?_ (ne_arr (by assumption) (by assumption)) | refine Zr.sL ?_ (ne_arr (by assumption) (by assumption)))) e59
  try simp only [lt_eq] at h
  cases h
  repeat (first | assumption | refine Zr.sR ?_ | refine Zr.zr (Or.inl ?_) | refine Zr.sI ?_ (ne_arr (by assumption) (by assumption)) | refine Zr.sL ?_ (ne_arr (by assumption) (by assumption)))
