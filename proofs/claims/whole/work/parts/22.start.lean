/-! ===== LEVEL 2: arrays are zero at the start ===== -/
theorem mI_zr {M : Mem} {o p j : Nat} : mI (zr M o) p j = if p = o then 0 else mI M p j := rfl
theorem mL_zr {M : Mem} {o p j : Nat} : mL (zr M o) p j = if p = o then 0 else mL M p j := rfl
theorem mR_zr {M : Mem} {o p j : Nat} : mR (zr M o) p j = if p = o then 0 else mR M p j := rfl
/-- object o is zero throughout, but for its fields below n -/
def Zr (o : Nat) (M : Mem) : Prop := (∀ k, mI M o k = 0) ∧ (∀ k, mL M o k = 0)
theorem Zr.sI {o p k : Nat} {v : Int32} {M : Mem} (h : Zr o M) (hp : ¬ o = p) : Zr o (sI M p k v) := ⟨fun j => by rw [mI_sI, if_neg (fun q : o = p ∧ j = k => hp q.1)]; exact h.1 j, h.2⟩
theorem Zr.sL {o p k : Nat} {v : Int64} {M : Mem} (h : Zr o M) (hp : ¬ o = p) : Zr o (sL M p k v) := ⟨h.1, fun j => by rw [mL_sL, if_neg (fun q : o = p ∧ j = k => hp q.1)]; exact h.2 j⟩
theorem Zr.sR {o p k v : Nat} {M : Mem} (h : Zr o M) : Zr o (sR M p k v) := ⟨h.1, h.2⟩
theorem Zr.zr {o p : Nat} {M : Mem} (h : Zr o M ∨ o = p) : Zr o (zr M p) := by
  rcases h with h | rfl
  · exact ⟨fun j => by rw [mI_zr]; split <;> first | rfl | exact h.1 j, fun j => by rw [mL_zr]; split <;> first | rfl | exact h.2 j⟩
  · exact ⟨fun j => by rw [mI_zr, if_pos rfl], fun j => by rw [mL_zr, if_pos rfl]⟩
theorem Zr.M00 {o : Nat} : Zr o M00 := ⟨fun _ => rfl, fun _ => rfl⟩
theorem ne_arr {o p c : Nat} (ho : (K0 o).1 ≠ 0) (h : K0 p = (0, c)) : ¬ o = p := fun e => ho (by rw [e, h])
theorem zr_X9 {o ct this : Nat} {M M' : Mem} (ho : (K0 o).1 ≠ 0) (hz : Zr o M) (h : zX9_init ct this M = some ((), M')) : Zr o M' := by
  unfold zX9_init at h
  simp only [lt_eq] at h
  split at h
  · rename_i hk
    split at h
    · cases h
      exact ((((hz.sI (ne_arr ho hk)).sI (ne_arr ho hk)).sI (ne_arr ho hk)).sI (ne_arr ho hk))
    · cases h
  · cases h
