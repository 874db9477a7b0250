/-! ===== LEVEL 2: drawn ===== -/
/-- the literals stand first: the kernel would else count them down -/
def dwL (L : Int32) : Int32 := io 12345 + 1103515245 * L
theorem dwL_eq (L : Int32) : L * 1103515245 + io 12345 = dwL L := by
  unfold dwL
  rw [Int32.mul_comm L, Int32.add_comm]
def dwN (L : Int32) (n : Nat) : Nat := bitsN L 16 15 % n
theorem dw_u (x : Int32) : iushr x (io 16) &&& io 32767 = io (bitsN x 16 15) := bits_u x (b := 15) (by omega)
theorem dw_s (x : Int32) : (x >>> (io 16 &&& io 31)) &&& io 32767 = io (bitsN x 16 15) := bits_s x (b := 15) (by omega) (by omega)
theorem dwN_lt {L : Int32} {n : Nat} (h : 0 < n) : dwN L n < n := Nat.mod_lt _ h
/-- the SORT of n that is drawn: the last with no more before it -/
def srtS (od : Nat → Nat) (d : Nat) : Nat → Nat
  | 0 => 0
  | n + 1 => if sumN n od ≤ d then n else srtS od d n
theorem srt_eq {od : Nat → Nat} {d s : Nat} (h1 : sumN s od ≤ d) (h2 : d < sumN (s + 1) od) : ∀ n, s < n → srtS od d n = s
  | 0, h => by omega
  | n + 1, h => by
    show (if sumN n od ≤ d then n else srtS od d n) = s
    by_cases q : s = n
    · subst q
      rw [if_pos h1]
    · have := sumN_mono (f := od) (show s + 1 ≤ n by omega)
      rw [if_neg (by omega)]
      exact srt_eq h1 h2 n (by omega)
theorem srt_lt {od : Nat → Nat} {d : Nat} : ∀ n, 0 < n → srtS od d n < n
  | n + 1, _ => by
    show (if sumN n od ≤ d then n else srtS od d n) < n + 1
    split
    · omega
    · cases n with
      | zero => show 0 < 1; omega
      | succ n => have := srt_lt (od := od) (d := d) (n + 1) (by omega); omega
abbrev DV : Type := Int32 × BV × Int32
def bAdd (b : BV) (x : Nat) : BV := (bSe b, bNo b, bLe b, bBo b + io x, bSt b, bGi b, bGu b)
def bStl (b : BV) : BV := (bSe b, bNo b, bLe b, io 0, bSt b + bBo b, bGi b, bGu b)
theorem bAdd_se (b : BV) (x : Nat) : bSe (bAdd b x) = bSe b := by simp only [bSe, bAdd]
theorem bAdd_no (b : BV) (x : Nat) : bNo (bAdd b x) = bNo b := by simp only [bNo, bAdd]
theorem bAdd_le (b : BV) (x : Nat) : bLe (bAdd b x) = bLe b := by simp only [bLe, bAdd]
theorem bAdd_bo (b : BV) (x : Nat) : bBo (bAdd b x) = bBo b + io x := by simp only [bBo, bAdd]
theorem bAdd_st (b : BV) (x : Nat) : bSt (bAdd b x) = bSt b := by simp only [bSt, bAdd]
theorem bAdd_gi (b : BV) (x : Nat) : bGi (bAdd b x) = bGi b := by simp only [bGi, bAdd]
theorem bAdd_gu (b : BV) (x : Nat) : bGu (bAdd b x) = bGu b := by simp only [bGu, bAdd]
theorem CB_add {M M' : Mem} {o x : Nat} {b : BV} (h : CB M o b) (h3 : mI M' o 3 = bBo b + io x) (e0 : ∀ k, k ≠ 3 → mI M' o k = mI M o k) (e1 : ∀ k, mI M' (o + 1) k = mI M (o + 1) k) (e2 : ∀ k, mI M' (o + 2) k = mI M (o + 2) k) : CB M' o (bAdd b x) := by
  obtain ⟨f0, f1, f2, f3, f4, f5, f6⟩ := h
  unfold CB
  rw [bAdd_se, bAdd_no, bAdd_le, bAdd_bo, bAdd_st, bAdd_gi, bAdd_gu, e0 0 (by omega), e0 1 (by omega), e0 2 (by omega), h3, e0 4 (by omega)]
  exact ⟨f0, f1, f2, rfl, f4, fun i hi => by rw [e1]; exact f5 i hi, fun j hj => by rw [e2]; exact f6 j hj⟩
theorem MBk_add {M M' : Mem} {a g x : Nat} {b : BV} (h : MBk M a g b) (h3 : mI M' (a + 4) g = bBo b + io x) (e : ∀ o k, o ≠ a + 4 → mI M' o k = mI M o k) : MBk M' a g (bAdd b x) := by
  obtain ⟨f0, f1, f2, f3, f4, f5, f6⟩ := h
  unfold MBk
  rw [bAdd_se, bAdd_no, bAdd_le, bAdd_bo, bAdd_st, bAdd_gi, bAdd_gu, h3, e a _ (by omega), e (a + 1) _ (by omega), e (a + 2) _ (by omega), e (a + 5) _ (by omega)]
  exact ⟨f0, f1, f2, rfl, f4, fun i hi => by rw [e _ _ (by omega)]; exact f5 i hi, fun j hj => by rw [e _ _ (by omega)]; exact f6 j hj⟩
/-- what the next person brings (and 1; 0: he is KEPT AWAY) -/
def dxS (v : GV) (sv : SV) (D : DV) : Nat := gfS v sv (srtS (gOd v) (dwN (dwL D.1) (allO v)) (gN v)) (bNo D.2.1)
def onS (v : GV) (sv : SV) (D : DV) : DV := (dwL D.1, (if dxS v sv D = 0 then D.2.1 else bAdd (bGive D.2.1 (gSi v) (dxS v sv D - 1)) (dxS v sv D - 1)), D.2.2 + io (dxS v sv D - 1))
def thV (v : GV) (D : DV) : DV := if bBo D.2.1 < io (gBo v) then D else (dwL D.1, (if gCh v ≤ dwN (dwL D.1) 100 then D.2.1 else bStl D.2.1), D.2.2)
def drS (v : GV) (sv : SV) (D : DV) : Nat → DV
  | 0 => D
  | k + 1 => if (k + 1) % 10 = 0 then thV v (onS v sv (drS v sv D k)) else onS v sv (drS v sv D k)
theorem dx_le {v : GV} {sv : SV} {D : DV} (hv : okG v) (hn : 0 < gN v) (hb : okB v D.2.1) : dxS v sv D ≤ 10 := by
  have hs := srt_lt (od := gOd v) (d := dwN (dwL D.1) (allO v)) (gN v) hn
  have h := (WOK_of (sv := sv) hv).2.2.2.2 _ (bNo D.2.1) hs (by have := hb.2.1; have := stN_le (gSi v); omega)
  exact h
theorem okB_on {v : GV} {sv : SV} {D : DV} (hv : okG v) (hn : 0 < gN v) (hb : okB v D.2.1) : okB v (onS v sv D).2.1 := by
  have hx := dx_le (sv := sv) hv hn hb
  show okB v (if dxS v sv D = 0 then D.2.1 else bAdd (bGive D.2.1 (gSi v) (dxS v sv D - 1)) (dxS v sv D - 1))
  split
  · exact hb
  · exact okB_give hv hb (by omega)
theorem okB_th {v : GV} {D : DV} (hb : okB v D.2.1) : okB v (thV v D).2.1 := by
  unfold thV
  split
  · exact hb
  · show okB v (if gCh v ≤ dwN (dwL D.1) 100 then D.2.1 else bStl D.2.1)
    split <;> exact hb
theorem okB_dr {v : GV} {sv : SV} {D : DV} (hv : okG v) (hn : 0 < gN v) (hb : okB v D.2.1) : ∀ k, okB v (drS v sv D k).2.1
  | 0 => hb
  | k + 1 => by
    have h := okB_on (sv := sv) hv hn (okB_dr (sv := sv) hv hn hb k)
    show okB v (if (k + 1) % 10 = 0 then thV v (onS v sv (drS v sv D k)) else onS v sv (drS v sv D k)).2.1
    split
    · exact okB_th h
    · exact h
/-! the class -/
theorem c_draw {M : Mem} {g n : Nat} {L : Int32} (hL : mI M (gid g) 3 = L) (hn : 0 < n) (hn2 : n < 2147483648) : zX4_draw (gid g) (io n) M = some (io (dwN (dwL L) n), sI M (gid g) 3 (dwL L)) := by
  have e1 : mI (sI M (gid g) 3 (dwL L)) (gid g) 3 = dwL L := by rw [mI_sI, if_pos ⟨rfl, rfl⟩]
  have e2 := dwL_eq L
  have hb := bitsN_lt (dwL L) 16 (b := 15) (by omega)
  have hne : ¬ n ≤ 0 := by omega
  have hne2 : ¬ n = 0 := by omega
  unfold zX4_draw dwN
  simp -dsimp (disch := first | assumption | omega) only [lit_0, lit_1, lit_2, lit_3, lit_4, lit_5, lit_6, lit_7, lit_8, lit_9, lit_10, lit_11, lit_12, lit_13, lit_14, lit_15, lit_16, lit_17, lit_18, lit_19, lit_20, lit_21, lit_22, lit_23, lit_24, lit_25, lit_26, lit_27, lit_28, lit_29, lit_30, lit_31, lit_32, lit_33, lit_34, lit_35, lit_36, lit_37, lit_38, lit_39, lit_40, lit_41, lit_42, lit_43, lit_44, lit_45, lit_46, lit_47, lit_48, lit_49, lit_50, lit_51, lit_52, lit_53, lit_54, lit_55, lit_56, lit_57, lit_58, lit_59, lit_60, lit_61, lit_62, lit_63, lit_64, lit_97, lit_99, lit_100, lit_122, lit_175, lit_176, lit_200, lit_255, lit_400, lit_700, lit_800, lit_999, lit_1000, lit_1400, lit_2000, lit_2033, lit_2038, lit_2100, lit_2124, lit_8000, lit_10000, lit_12345, lit_32767, lit_1000000, lit_1000000000, ↓bndX_h, ↓bndK_h, bxh_inl, bxh_inr, bkh_inl, bkh_inr, Nat.reduceEqDiff, ↓bnd_h, ↓lt_h, ↓ite_h, bh_some, lh_eq, ih_T, ih_F, ne_eq, not_false_eq_true, not_true_eq_false, eq_self, and_true, true_and, io_def, K0_gid, hL, e2, io_le, io_eq, hne, hne2, e1, dw_u, io_mod]
theorem c_drawW {M : Mem} {g n : Nat} {L : Int32} (hL : mI M (gid g) 3 = L) (hn : 0 < n) (hn2 : n < 2147483648) : Wp (zX4_draw (gid g) (io n) M) (fun x M' => x = io (dwN (dwL L) n) ∧ M' = sI M (gid g) 3 (dwL L)) := Wp.of (c_draw hL hn hn2) ⟨rfl, rfl⟩
theorem c_drawSort {M : Mem} {g r : Nat} {v : GV} {L : Int32} (r0 : mR M (gid g) 0 = r) (hr : isRu r) (hv : okG v) (hn0 : 0 < gN v) (hPR : PR M r) (hC : CG M r v) (hrg : r ≠ gid g) (hL : mI M (gid g) 3 = L) :
    Wp (zX4_drawSort (gid g) M) (fun y M' => y = io (srtS (gOd v) (dwN (dwL L) (allO v)) (gN v)) ∧ M' = sI M (gid g) 3 (dwL L)) := by
  have hn := okG_n hv
  have hall := allO_pos hv hn0
  have hal2 := allO_le hv
  have c1 := hC.2.1
  have hg : gid g = 11 ∨ gid g = 25 := by unfold gid; split <;> simp
  have hC' : CG (sI M (gid g) 3 (dwL L)) r v := hC.keep (fun j hj k => by rw [mI_sI, if_neg (by rcases hr with rfl | rfl | rfl <;> omega)])
  have hPR' : PR (sI M (gid g) 3 (dwL L)) r := hPR
  have r0' : mR (sI M (gid g) 3 (dwL L)) (gid g) 0 = r := r0
  have hd := dwN_lt (L := dwL L) hall
  unfold zX4_drawSort
  simp -dsimp (disch := first | assumption | omega) only [lit_0, lit_1, lit_2, lit_3, lit_4, lit_5, lit_6, lit_7, lit_8, lit_9, lit_10, lit_11, lit_12, lit_13, lit_14, lit_15, lit_16, lit_17, lit_18, lit_19, lit_20, lit_21, lit_22, lit_23, lit_24, lit_25, lit_26, lit_27, lit_28, lit_29, lit_30, lit_31, lit_32, lit_33, lit_34, lit_35, lit_36, lit_37, lit_38, lit_39, lit_40, lit_41, lit_42, lit_43, lit_44, lit_45, lit_46, lit_47, lit_48, lit_49, lit_50, lit_51, lit_52, lit_53, lit_54, lit_55, lit_56, lit_57, lit_58, lit_59, lit_60, lit_61, lit_62, lit_63, lit_64, lit_97, lit_99, lit_100, lit_122, lit_175, lit_176, lit_200, lit_255, lit_400, lit_700, lit_800, lit_999, lit_1000, lit_1400, lit_2000, lit_2033, lit_2038, lit_2100, lit_2124, lit_8000, lit_10000, lit_12345, lit_32767, lit_1000000, lit_1000000000, ↓bndX_h, ↓bndK_h, bxh_inl, bxh_inr, bkh_inl, bkh_inr, Nat.reduceEqDiff, ↓bnd_h, ↓lt_h, ↓ite_h, bh_some, lh_eq, ih_T, ih_F, ne_eq, not_false_eq_true, not_true_eq_false, eq_self, and_true, true_and, io_def, K0_gid, r0, K0_r, ru_ne, c1]
  refine Wp.seqh (c_drawW hL hall (by omega)) (fun x0 M0 ⟨x1, x2⟩ => ?_)
  subst x1
  rw [← x2] at hC' hPR' r0' ⊢
  clear x2
  generalize hM1 : M0 = M1 at hC' hPR' r0' ⊢
  clear hM1
  generalize dwN (dwL L) (allO v) = d at hd ⊢
  generalize hFU : FU = fu
  rw [FU_val] at hFU
  simp -dsimp (disch := first | assumption | omega) only [lit_0, lit_1, lit_2, lit_3, lit_4, lit_5, lit_6, lit_7, lit_8, lit_9, lit_10, lit_11, lit_12, lit_13, lit_14, lit_15, lit_16, lit_17, lit_18, lit_19, lit_20, lit_21, lit_22, lit_23, lit_24, lit_25, lit_26, lit_27, lit_28, lit_29, lit_30, lit_31, lit_32, lit_33, lit_34, lit_35, lit_36, lit_37, lit_38, lit_39, lit_40, lit_41, lit_42, lit_43, lit_44, lit_45, lit_46, lit_47, lit_48, lit_49, lit_50, lit_51, lit_52, lit_53, lit_54, lit_55, lit_56, lit_57, lit_58, lit_59, lit_60, lit_61, lit_62, lit_63, lit_64, lit_97, lit_99, lit_100, lit_122, lit_175, lit_176, lit_200, lit_255, lit_400, lit_700, lit_800, lit_999, lit_1000, lit_1400, lit_2000, lit_2033, lit_2038, lit_2100, lit_2124, lit_8000, lit_10000, lit_12345, lit_32767, lit_1000000, lit_1000000000, ↓bndX_h, ↓bndK_h, bxh_inl, bxh_inr, bkh_inl, bkh_inr, Nat.reduceEqDiff, ↓bnd_h, ↓lt_h, ↓ite_h, bh_some, lh_eq, ih_T, ih_F, ne_eq, not_false_eq_true, not_true_eq_false, eq_self, and_true, true_and, io_def]
  refine loopW (L := fun f (s : Nat) U => zX4_drawSort_L16 f (gid g) (io d) (io (sumN s (gOd v))) (io s) U) (J := fun s U => s ≤ gN v ∧ sumN s (gOd v) ≤ d ∧ U = M1) (fun s _ => gN v - s) ?_ fu 0 M1 ⟨Nat.zero_le _, Nat.zero_le _, rfl⟩ (by omega)
  intro f s U ⟨hs, hsum, hU⟩ rec
  subst hU
  show Wp (zX4_drawSort_B16 (zX4_drawSort_L16 f) (gid g) (io d) (io (sumN s (gOd v))) (io s) U) _
  unfold zX4_drawSort_B16
  have c0 := hC'.1
  simp -dsimp (disch := first | assumption | omega) only [lit_0, lit_1, lit_2, lit_3, lit_4, lit_5, lit_6, lit_7, lit_8, lit_9, lit_10, lit_11, lit_12, lit_13, lit_14, lit_15, lit_16, lit_17, lit_18, lit_19, lit_20, lit_21, lit_22, lit_23, lit_24, lit_25, lit_26, lit_27, lit_28, lit_29, lit_30, lit_31, lit_32, lit_33, lit_34, lit_35, lit_36, lit_37, lit_38, lit_39, lit_40, lit_41, lit_42, lit_43, lit_44, lit_45, lit_46, lit_47, lit_48, lit_49, lit_50, lit_51, lit_52, lit_53, lit_54, lit_55, lit_56, lit_57, lit_58, lit_59, lit_60, lit_61, lit_62, lit_63, lit_64, lit_97, lit_99, lit_100, lit_122, lit_175, lit_176, lit_200, lit_255, lit_400, lit_700, lit_800, lit_999, lit_1000, lit_1400, lit_2000, lit_2033, lit_2038, lit_2100, lit_2124, lit_8000, lit_10000, lit_12345, lit_32767, lit_1000000, lit_1000000000, ↓bndX_h, ↓bndK_h, bxh_inl, bxh_inr, bkh_inl, bkh_inr, Nat.reduceEqDiff, ↓bnd_h, ↓lt_h, ↓ite_h, bh_some, lh_eq, ih_T, ih_F, ne_eq, not_false_eq_true, not_true_eq_false, eq_self, and_true, true_and, io_def, io_add, io_mul, io_sub, io_lt, io_le, io_eq, io_clamp, io_inbT, io_div, io_mod, io_m1, m1_io, m1_lt, m1_le, neg_1, gI_m1, r0', K0_r, ru_ne, c0]
  have hlt : s < gN v := by
    rcases Nat.lt_or_ge s (gN v) with h | h
    · exact h
    · have : s = gN v := by omega
      subst this
      exact absurd hsum (Nat.not_le.mpr hd)
  refine Wp.csh (fun c => by omega) (fun c => ?_)
  have d1 := (hC'.2.2.2.2.2.2.1 s hlt).1
  have ea := at_r1 (M := U) hr (show s < 8 by omega)
  rw [d1] at ea
  have hw : sumN (s + 1) (gOd v) = sumN s (gOd v) + gOd v s := rfl
  have ho := okG_od hv hlt
  simp -dsimp (disch := first | assumption | omega) only [lit_0, lit_1, lit_2, lit_3, lit_4, lit_5, lit_6, lit_7, lit_8, lit_9, lit_10, lit_11, lit_12, lit_13, lit_14, lit_15, lit_16, lit_17, lit_18, lit_19, lit_20, lit_21, lit_22, lit_23, lit_24, lit_25, lit_26, lit_27, lit_28, lit_29, lit_30, lit_31, lit_32, lit_33, lit_34, lit_35, lit_36, lit_37, lit_38, lit_39, lit_40, lit_41, lit_42, lit_43, lit_44, lit_45, lit_46, lit_47, lit_48, lit_49, lit_50, lit_51, lit_52, lit_53, lit_54, lit_55, lit_56, lit_57, lit_58, lit_59, lit_60, lit_61, lit_62, lit_63, lit_64, lit_97, lit_99, lit_100, lit_122, lit_175, lit_176, lit_200, lit_255, lit_400, lit_700, lit_800, lit_999, lit_1000, lit_1400, lit_2000, lit_2033, lit_2038, lit_2100, lit_2124, lit_8000, lit_10000, lit_12345, lit_32767, lit_1000000, lit_1000000000, ↓bndX_h, ↓bndK_h, bxh_inl, bxh_inr, bkh_inl, bkh_inr, Nat.reduceEqDiff, ↓bnd_h, ↓lt_h, ↓ite_h, bh_some, lh_eq, ih_T, ih_F, ne_eq, not_false_eq_true, not_true_eq_false, eq_self, and_true, true_and, io_def, io_add, io_mul, io_sub, io_lt, io_le, io_eq, io_clamp, io_inbT, io_div, io_mod, io_m1, m1_io, m1_lt, m1_le, neg_1, gI_m1, r0', K0_r, ru_ne, PR.p7, at_r1, succ_ne, d1]
  refine Wp.csh (fun c2 => ?_) (fun c2 => ?_)
  · simp -dsimp (disch := first | assumption | omega) only [lit_0, lit_1, lit_2, lit_3, lit_4, lit_5, lit_6, lit_7, lit_8, lit_9, lit_10, lit_11, lit_12, lit_13, lit_14, lit_15, lit_16, lit_17, lit_18, lit_19, lit_20, lit_21, lit_22, lit_23, lit_24, lit_25, lit_26, lit_27, lit_28, lit_29, lit_30, lit_31, lit_32, lit_33, lit_34, lit_35, lit_36, lit_37, lit_38, lit_39, lit_40, lit_41, lit_42, lit_43, lit_44, lit_45, lit_46, lit_47, lit_48, lit_49, lit_50, lit_51, lit_52, lit_53, lit_54, lit_55, lit_56, lit_57, lit_58, lit_59, lit_60, lit_61, lit_62, lit_63, lit_64, lit_97, lit_99, lit_100, lit_122, lit_175, lit_176, lit_200, lit_255, lit_400, lit_700, lit_800, lit_999, lit_1000, lit_1400, lit_2000, lit_2033, lit_2038, lit_2100, lit_2124, lit_8000, lit_10000, lit_12345, lit_32767, lit_1000000, lit_1000000000, ↓bndX_h, ↓bndK_h, bxh_inl, bxh_inr, bkh_inl, bkh_inr, Nat.reduceEqDiff, ↓bnd_h, ↓lt_h, ↓ite_h, bh_some, lh_eq, ih_T, ih_F, ne_eq, not_false_eq_true, not_true_eq_false, eq_self, and_true, true_and, io_def, io_add, io_mul, io_sub, io_lt, io_le, io_eq, io_clamp, io_inbT, io_div, io_mod, io_m1, m1_io, m1_lt, m1_le, neg_1, gI_m1]
    exact rec (s + 1) U ⟨by omega, (show sumN s (gOd v) + gOd v s ≤ d from c2), rfl⟩ (by omega)
  · refine Wp.ret ⟨?_, rfl⟩
    rw [srt_eq hsum (by omega) _ hlt]
/-- what a person may change: his gate's book and luck, what is remembered of gifts -/
def DF (g : Nat) (M M' : Mem) : Prop := (∀ o k, (o < bid g ∨ bid g + 2 < o) → o ≠ gid g → (o < 42 ∨ 44 < o) → mI M' o k = mI M o k) ∧ (∀ o k, mR M' o k = mR M o k) ∧ ∀ o k, (o < 1 ∨ 71 < o) → o ≠ 72 → mL M' o k = mL M o k
theorem DF.refl {g : Nat} {M : Mem} : DF g M M := ⟨fun _ _ _ _ _ => rfl, fun _ _ => rfl, fun _ _ _ _ => rfl⟩
theorem DF.trans {g : Nat} {M M1 M2 : Mem} (h : DF g M M1) (h' : DF g M1 M2) : DF g M M2 :=
  ⟨fun o k a b c => (h'.1 o k a b c).trans (h.1 o k a b c), fun o k => (h'.2.1 o k).trans (h.2.1 o k), fun o k a b => (h'.2.2 o k a b).trans (h.2.2 o k a b)⟩
theorem GX.keepD {M M' : Mem} {g r p : Nat} {v : GV} {sv : SV} (hr : isRu r) (hp : isSe p) (h : GX M r p v sv) (hI : ∀ o k, (o < bid g ∨ bid g + 2 < o) → o ≠ gid g → mI M' o k = mI M o k) (hR : ∀ o k, mR M' o k = mR M o k) : GX M' r p v sv := by
  have hb : bid g = 19 ∨ bid g = 33 := by unfold bid; split <;> simp
  have hg : gid g = 11 ∨ gid g = 25 := by unfold gid; split <;> simp
  obtain ⟨h, hK⟩ := h
  refine ⟨?_, fun sp s t h1 h2 h3 => ?_⟩
  · have hr' : ∀ k, k ≤ 5 → ∀ j, mI M' (r + k) j = mI M (r + k) j := fun k hk j => hI _ _ (by rcases hr with rfl | rfl | rfl <;> omega) (by rcases hr with rfl | rfl | rfl <;> omega)
    have hp' : ∀ j, mI M' p j = mI M p j := fun j => hI _ _ (by rcases hp with rfl | rfl | rfl | rfl <;> omega) (by rcases hp with rfl | rfl | rfl | rfl <;> omega)
    have hr0 : ∀ j, mI M' r j = mI M r j := hr' 0 (by omega)
    obtain ⟨h1, h2, h3, h4, h5, h6⟩ := h
    refine ⟨?_, ?_, ?_, ?_, ?_, ?_⟩
    · simpa only [PG, hR] using h1
    · simpa only [hR] using h2
    · simpa only [hR] using h3
    · simpa only [PR, hR] using h4
    · simpa only [CG, hr0, hr' 1 (by omega), hr' 2 (by omega), hr' 3 (by omega), hr' 4 (by omega), hr' 5 (by omega)] using h5
    · simpa only [CS, hp'] using h6
  · rw [hI _ _ (by omega) (by omega)]
    exact hK sp s t h1 h2 h3
/-- the class's state among persons -/
def DC (M0 : Mem) (g r p : Nat) (v : GV) (sv : SV) (D : DV) (M : Mem) : Prop := GX M r p v sv ∧ CB M (bid g) D.2.1 ∧ mI M (gid g) 3 = D.1 ∧ DF g M0 M
theorem c_comesP {M0 M : Mem} {g r p : Nat} {v : GV} {sv : SV} {D : DV} (hg : g < 2) (hP1 : PC1 M0) (r0 : mR M0 (gid g) 0 = r) (hr : isRu r) (hp : isSe p) (hv : okG v) (hsv : okS sv) (hn0 : 0 < gN v) (hb : okB v D.2.1) (h : DC M0 g r p v sv D M) :
    Wp (zX4_comesOne (gid g) 41 M) (fun y M' => y = io (dxS v sv D - 1) ∧ DC M0 g r p v sv (onS v sv D) M') := by
  obtain ⟨hX, hB, hL, hF⟩ := h
  have hn := okG_n hv
  have hs100 := stN_le (gSi v)
  have hno := hb.2.1
  have hno1 : bNo D.2.1 < 100 := by omega
  have hkn : ∀ s, s < gN v → (0 * 8 + s) * 100 + 100 ≤ knN 41 := fun s hs => by unfold knN; simp; omega
  have hbi : bid g = 19 ∨ bid g = 33 := by unfold bid; split <;> simp
  have hgi : gid g = 11 ∨ gid g = 25 := by unfold gid; split <;> simp
  have hrg : r ≠ gid g := by rcases hr with rfl | rfl | rfl <;> omega
  have rM : mR M (gid g) 0 = r := (hF.2.1 _ _).trans r0
  have hP : PC1 M := hP1.keep (fun o k _ => hF.2.1 o k)
  unfold zX4_comesOne
  simp -dsimp (disch := first | assumption | omega) only [lit_0, lit_1, lit_2, lit_3, lit_4, lit_5, lit_6, lit_7, lit_8, lit_9, lit_10, lit_11, lit_12, lit_13, lit_14, lit_15, lit_16, lit_17, lit_18, lit_19, lit_20, lit_21, lit_22, lit_23, lit_24, lit_25, lit_26, lit_27, lit_28, lit_29, lit_30, lit_31, lit_32, lit_33, lit_34, lit_35, lit_36, lit_37, lit_38, lit_39, lit_40, lit_41, lit_42, lit_43, lit_44, lit_45, lit_46, lit_47, lit_48, lit_49, lit_50, lit_51, lit_52, lit_53, lit_54, lit_55, lit_56, lit_57, lit_58, lit_59, lit_60, lit_61, lit_62, lit_63, lit_64, lit_97, lit_99, lit_100, lit_122, lit_175, lit_176, lit_200, lit_255, lit_400, lit_700, lit_800, lit_999, lit_1000, lit_1400, lit_2000, lit_2033, lit_2038, lit_2100, lit_2124, lit_8000, lit_10000, lit_12345, lit_32767, lit_1000000, lit_1000000000, ↓bndX_h, ↓bndK_h, bxh_inl, bxh_inr, bkh_inl, bkh_inr, Nat.reduceEqDiff, ↓bnd_h, ↓lt_h, ↓ite_h, bh_some, lh_eq, ih_T, ih_F, ne_eq, not_false_eq_true, not_true_eq_false, eq_self, and_true, true_and, io_def, K0_gid]
  refine Wp.seqh (c_drawSort rM hr hv hn0 hX.1.2.2.2.1 hX.1.2.2.2.2.1 hrg hL) (fun y M1 ⟨a1, a2⟩ => ?_)
  have hs := srt_lt (od := gOd v) (d := dwN (dwL D.1) (allO v)) (gN v) hn0
  have hx10 := dx_le (sv := sv) hv hn0 hb
  have hxd : giftS v sv (srtS (gOd v) (dwN (dwL D.1) (allO v)) (gN v)) (bNo D.2.1) 0 = dxS v sv D := rfl
  have hon : onS v sv D = (dwL D.1, (if dxS v sv D = 0 then D.2.1 else bAdd (bGive D.2.1 (gSi v) (dxS v sv D - 1)) (dxS v sv D - 1)), D.2.2 + io (dxS v sv D - 1)) := rfl
  generalize dxS v sv D = x at hx10 hxd hon ⊢
  have hX1 : GX M1 r p v sv := hX.keepD (g := g) hr hp (fun o k _ h2 => by rw [a2, mI_sI, if_neg (by omega)]) (fun o k => by rw [a2]; rfl)
  have hB1 : CB M1 (bid g) D.2.1 := hB.keep (fun j hj k => by rw [a2, mI_sI, if_neg (by omega)])
  have hL1 : mI M1 (gid g) 3 = dwL D.1 := by rw [a2, mI_sI, if_pos ⟨rfl, rfl⟩]
  have hF1 : DF g M0 M1 := hF.trans ⟨fun o k _ h2 _ => by rw [a2, mI_sI, if_neg (by omega)], fun o k => by rw [a2]; rfl, fun o k _ _ => by rw [a2]; rfl⟩
  have hP1' : PC1 M1 := hP1.keep (fun o k _ => hF1.2.1 o k)
  have b1 := hB1.2.1
  subst a1
  generalize srtS (gOd v) (dwN (dwL D.1) (allO v)) (gN v) = s at hs hxd ⊢
  simp -dsimp (disch := first | assumption | omega) only [lit_0, lit_1, lit_2, lit_3, lit_4, lit_5, lit_6, lit_7, lit_8, lit_9, lit_10, lit_11, lit_12, lit_13, lit_14, lit_15, lit_16, lit_17, lit_18, lit_19, lit_20, lit_21, lit_22, lit_23, lit_24, lit_25, lit_26, lit_27, lit_28, lit_29, lit_30, lit_31, lit_32, lit_33, lit_34, lit_35, lit_36, lit_37, lit_38, lit_39, lit_40, lit_41, lit_42, lit_43, lit_44, lit_45, lit_46, lit_47, lit_48, lit_49, lit_50, lit_51, lit_52, lit_53, lit_54, lit_55, lit_56, lit_57, lit_58, lit_59, lit_60, lit_61, lit_62, lit_63, lit_64, lit_97, lit_99, lit_100, lit_122, lit_175, lit_176, lit_200, lit_255, lit_400, lit_700, lit_800, lit_999, lit_1000, lit_1400, lit_2000, lit_2033, lit_2038, lit_2100, lit_2124, lit_8000, lit_10000, lit_12345, lit_32767, lit_1000000, lit_1000000000, ↓bndX_h, ↓bndK_h, bxh_inl, bxh_inr, bkh_inl, bkh_inr, Nat.reduceEqDiff, ↓bnd_h, ↓lt_h, ↓ite_h, bh_some, lh_eq, ih_T, ih_F, ne_eq, not_false_eq_true, not_true_eq_false, eq_self, and_true, true_and, io_def, K0_gid, gid_ne, K0_bid, bid_ne, K0_kid, kid_ne, K0_bid1, K0_bid2, K0_kid1, K0_kid2, GP.r1, GP.r2, GP.b5, GP.b6, GP.k5, GP.k6, c_gateOf, K0_41, b1]
  refine Wp.seqh (c_giftAt (sp := 0) (Or.inl rfl) hr hp hv hsv hs hno1 (hkn _ hs) hX1.1 hX1.2) (fun y M2 ⟨d1, d2, d3⟩ => ?_)
  rw [hxd] at d1
  subst d1
  have hX2 : GX M2 r p v sv := ⟨hX1.1.keep (Or.inl rfl) hr hp d3, d2⟩
  have hF2 : DF g M1 M2 := ⟨fun o k _ _ h3 => d3.I (ob_1of (by omega)), fun o k => d3.2.2 o rfl k, fun o k h h2 => d3.L (ob_1of (by omega)) h2⟩
  have hB2 : CB M2 (bid g) D.2.1 := hB1.keep (fun j hj k => d3.I (ob_1of (by omega)))
  have hL2 : mI M2 (gid g) 3 = dwL D.1 := by rw [d3.I (o := gid g) (k := 3) (ob_1of (by omega))]; exact hL1
  have hF02 := hF1.trans hF2
  have hP2 : PC1 M2 := hP1.keep (fun o k _ => hF02.2.1 o k)
  have r2 : mR M2 (gid g) 0 = r := (hF02.2.1 _ _).trans r0
  simp -dsimp (disch := first | assumption | omega) only [lit_0, lit_1, lit_2, lit_3, lit_4, lit_5, lit_6, lit_7, lit_8, lit_9, lit_10, lit_11, lit_12, lit_13, lit_14, lit_15, lit_16, lit_17, lit_18, lit_19, lit_20, lit_21, lit_22, lit_23, lit_24, lit_25, lit_26, lit_27, lit_28, lit_29, lit_30, lit_31, lit_32, lit_33, lit_34, lit_35, lit_36, lit_37, lit_38, lit_39, lit_40, lit_41, lit_42, lit_43, lit_44, lit_45, lit_46, lit_47, lit_48, lit_49, lit_50, lit_51, lit_52, lit_53, lit_54, lit_55, lit_56, lit_57, lit_58, lit_59, lit_60, lit_61, lit_62, lit_63, lit_64, lit_97, lit_99, lit_100, lit_122, lit_175, lit_176, lit_200, lit_255, lit_400, lit_700, lit_800, lit_999, lit_1000, lit_1400, lit_2000, lit_2033, lit_2038, lit_2100, lit_2124, lit_8000, lit_10000, lit_12345, lit_32767, lit_1000000, lit_1000000000, ↓bndX_h, ↓bndK_h, bxh_inl, bxh_inr, bkh_inl, bkh_inr, Nat.reduceEqDiff, ↓bnd_h, ↓lt_h, ↓ite_h, bh_some, lh_eq, ih_T, ih_F, ne_eq, not_false_eq_true, not_true_eq_false, eq_self, and_true, true_and, io_def, io_add, io_mul, io_sub, io_lt, io_le, io_eq, io_clamp, io_inbT, io_div, io_mod, io_m1, m1_io, m1_lt, m1_le, neg_1, gI_m1, neg_1, gI_m1]
  refine Wp.csh (fun q => ?_) (fun q => ?_)
  · subst q
    refine Wp.ret ⟨by rw [Nat.zero_sub]; rfl, ?_⟩
    rw [hon]
    exact ⟨hX2, hB2, hL2, hF02⟩
  · rw [if_neg q] at hon
    have hgx : gI x = io (x - 1) := by unfold gI; rw [if_neg q]
    rw [hgx]
    simp -dsimp (disch := first | assumption | omega) only [lit_0, lit_1, lit_2, lit_3, lit_4, lit_5, lit_6, lit_7, lit_8, lit_9, lit_10, lit_11, lit_12, lit_13, lit_14, lit_15, lit_16, lit_17, lit_18, lit_19, lit_20, lit_21, lit_22, lit_23, lit_24, lit_25, lit_26, lit_27, lit_28, lit_29, lit_30, lit_31, lit_32, lit_33, lit_34, lit_35, lit_36, lit_37, lit_38, lit_39, lit_40, lit_41, lit_42, lit_43, lit_44, lit_45, lit_46, lit_47, lit_48, lit_49, lit_50, lit_51, lit_52, lit_53, lit_54, lit_55, lit_56, lit_57, lit_58, lit_59, lit_60, lit_61, lit_62, lit_63, lit_64, lit_97, lit_99, lit_100, lit_122, lit_175, lit_176, lit_200, lit_255, lit_400, lit_700, lit_800, lit_999, lit_1000, lit_1400, lit_2000, lit_2033, lit_2038, lit_2100, lit_2124, lit_8000, lit_10000, lit_12345, lit_32767, lit_1000000, lit_1000000000, ↓bndX_h, ↓bndK_h, bxh_inl, bxh_inr, bkh_inl, bkh_inr, Nat.reduceEqDiff, ↓bnd_h, ↓lt_h, ↓ite_h, bh_some, lh_eq, ih_T, ih_F, ne_eq, not_false_eq_true, not_true_eq_false, eq_self, and_true, true_and, io_def]
    refine Wp.seqh (c_goOn hP2 r2 hr hv hX2.1.2.2.2.2.1 hB2 hb (show x - 1 ≤ 9 by omega)) (fun _ M3 ⟨e1, e2⟩ => ?_)
    have hP3 : PC1 M3 := hP2.keep (fun o k _ => e2.2.2 o rfl k)
    have b3 := e1.2.2.2.1
    simp -dsimp (disch := first | assumption | omega) only [lit_0, lit_1, lit_2, lit_3, lit_4, lit_5, lit_6, lit_7, lit_8, lit_9, lit_10, lit_11, lit_12, lit_13, lit_14, lit_15, lit_16, lit_17, lit_18, lit_19, lit_20, lit_21, lit_22, lit_23, lit_24, lit_25, lit_26, lit_27, lit_28, lit_29, lit_30, lit_31, lit_32, lit_33, lit_34, lit_35, lit_36, lit_37, lit_38, lit_39, lit_40, lit_41, lit_42, lit_43, lit_44, lit_45, lit_46, lit_47, lit_48, lit_49, lit_50, lit_51, lit_52, lit_53, lit_54, lit_55, lit_56, lit_57, lit_58, lit_59, lit_60, lit_61, lit_62, lit_63, lit_64, lit_97, lit_99, lit_100, lit_122, lit_175, lit_176, lit_200, lit_255, lit_400, lit_700, lit_800, lit_999, lit_1000, lit_1400, lit_2000, lit_2033, lit_2038, lit_2100, lit_2124, lit_8000, lit_10000, lit_12345, lit_32767, lit_1000000, lit_1000000000, ↓bndX_h, ↓bndK_h, bxh_inl, bxh_inr, bkh_inl, bkh_inr, Nat.reduceEqDiff, ↓bnd_h, ↓lt_h, ↓ite_h, bh_some, lh_eq, ih_T, ih_F, ne_eq, not_false_eq_true, not_true_eq_false, eq_self, and_true, true_and, io_def, K0_gid, gid_ne, K0_bid, bid_ne, K0_kid, kid_ne, K0_bid1, K0_bid2, K0_kid1, K0_kid2, GP.r1, GP.r2, GP.b5, GP.b6, GP.k5, GP.k6, c_gateOf, b3]
    have hI : ∀ o k, (o < bid g ∨ bid g + 2 < o) → mI (sI M3 (bid g) 3 (bBo (bGive D.2.1 (gSi v) (x - 1)) + io (x - 1))) o k = mI M2 o k := fun o k ho => by
      rw [mI_sI, if_neg (by omega), e2.I (ob_1of ho)]
    have hR : ∀ o k, mR (sI M3 (bid g) 3 (bBo (bGive D.2.1 (gSi v) (x - 1)) + io (x - 1))) o k = mR M2 o k := fun o k => e2.2.2 o rfl k
    refine Wp.ret ⟨rfl, ?_⟩
    rw [hon]
    refine ⟨hX2.keepD (g := g) hr hp (fun o k h1 _ => hI o k h1) hR, CB_add e1 ?_ (fun k hk => ?_) (fun k => ?_) (fun k => ?_), ?_, hF02.trans ⟨fun o k h1 _ _ => hI o k h1, hR, fun o k h h2 => e2.L (ob_1of (by omega)) h2⟩⟩
    · rw [mI_sI, if_pos ⟨rfl, rfl⟩]
    · rw [mI_sI, if_neg (by omega)]
    · rw [mI_sI, if_neg (by omega)]
    · rw [mI_sI, if_neg (by omega)]
    · rw [hI _ _ (by omega)]; exact hL2
theorem c_comesThief {M0 M : Mem} {g r p : Nat} {v : GV} {sv : SV} {D : DV} (hg : g < 2) (hP1 : PC1 M0) (r0 : mR M0 (gid g) 0 = r) (hr : isRu r) (hp : isSe p) (hv : okG v) (h : DC M0 g r p v sv D M) :
    Wp (zX4_comesThief (gid g) M) (fun _ M' => DC M0 g r p v sv (thV v D) M') := by
  obtain ⟨hX, hB, hL, hF⟩ := h
  have hbi : bid g = 19 ∨ bid g = 33 := by unfold bid; split <;> simp
  have hgi : gid g = 11 ∨ gid g = 25 := by unfold gid; split <;> simp
  have rM : mR M (gid g) 0 = r := (hF.2.1 _ _).trans r0
  have hP : PC1 M := hP1.keep (fun o k _ => hF.2.1 o k)
  obtain ⟨-, -, -, c3, c4, -⟩ := hX.1.2.2.2.2.1
  have b3 := hB.2.2.2.1
  have hch : gCh v ≤ 100 := hv.2.2.1
  have hth : thV v D = if bBo D.2.1 < io (gBo v) then D else (dwL D.1, (if gCh v ≤ dwN (dwL D.1) 100 then D.2.1 else bStl D.2.1), D.2.2) := rfl
  unfold zX4_comesThief
  simp -dsimp (disch := first | assumption | omega) only [lit_0, lit_1, lit_2, lit_3, lit_4, lit_5, lit_6, lit_7, lit_8, lit_9, lit_10, lit_11, lit_12, lit_13, lit_14, lit_15, lit_16, lit_17, lit_18, lit_19, lit_20, lit_21, lit_22, lit_23, lit_24, lit_25, lit_26, lit_27, lit_28, lit_29, lit_30, lit_31, lit_32, lit_33, lit_34, lit_35, lit_36, lit_37, lit_38, lit_39, lit_40, lit_41, lit_42, lit_43, lit_44, lit_45, lit_46, lit_47, lit_48, lit_49, lit_50, lit_51, lit_52, lit_53, lit_54, lit_55, lit_56, lit_57, lit_58, lit_59, lit_60, lit_61, lit_62, lit_63, lit_64, lit_97, lit_99, lit_100, lit_122, lit_175, lit_176, lit_200, lit_255, lit_400, lit_700, lit_800, lit_999, lit_1000, lit_1400, lit_2000, lit_2033, lit_2038, lit_2100, lit_2124, lit_8000, lit_10000, lit_12345, lit_32767, lit_1000000, lit_1000000000, ↓bndX_h, ↓bndK_h, bxh_inl, bxh_inr, bkh_inl, bkh_inr, Nat.reduceEqDiff, ↓bnd_h, ↓lt_h, ↓ite_h, bh_some, lh_eq, ih_T, ih_F, ne_eq, not_false_eq_true, not_true_eq_false, eq_self, and_true, true_and, io_def, K0_gid, gid_ne, K0_bid, bid_ne, K0_kid, kid_ne, K0_bid1, K0_bid2, K0_kid1, K0_kid2, GP.r1, GP.r2, GP.b5, GP.b6, GP.k5, GP.k6, c_gateOf, rM, K0_r, ru_ne, b3, c4]
  refine Wp.csh (fun q => ?_) (fun q => ?_)
  · rw [if_pos q] at hth
    rw [hth]
    exact Wp.ret ⟨hX, hB, hL, hF⟩
  · rw [if_neg q] at hth
    have hd := dwN_lt (L := dwL D.1) (n := 100) (by omega)
    have hX1 : GX (sI M (gid g) 3 (dwL D.1)) r p v sv := hX.keepD (g := g) hr hp (fun o k _ h2 => by rw [mI_sI, if_neg (by omega)]) (fun o k => rfl)
    have hB1 : CB (sI M (gid g) 3 (dwL D.1)) (bid g) D.2.1 := hB.keep (fun j hj k => by rw [mI_sI, if_neg (by omega)])
    have hL1 : mI (sI M (gid g) 3 (dwL D.1)) (gid g) 3 = dwL D.1 := by rw [mI_sI, if_pos ⟨rfl, rfl⟩]
    have hF1 : DF g M0 (sI M (gid g) 3 (dwL D.1)) := hF.trans ⟨fun o k _ h2 _ => by rw [mI_sI, if_neg (by omega)], fun o k => rfl, fun o k _ _ => rfl⟩
    have hP' : PC1 (sI M (gid g) 3 (dwL D.1)) := hP
    have r1 : mR (sI M (gid g) 3 (dwL D.1)) (gid g) 0 = r := rM
    simp -dsimp (disch := first | assumption | omega) only [lit_0, lit_1, lit_2, lit_3, lit_4, lit_5, lit_6, lit_7, lit_8, lit_9, lit_10, lit_11, lit_12, lit_13, lit_14, lit_15, lit_16, lit_17, lit_18, lit_19, lit_20, lit_21, lit_22, lit_23, lit_24, lit_25, lit_26, lit_27, lit_28, lit_29, lit_30, lit_31, lit_32, lit_33, lit_34, lit_35, lit_36, lit_37, lit_38, lit_39, lit_40, lit_41, lit_42, lit_43, lit_44, lit_45, lit_46, lit_47, lit_48, lit_49, lit_50, lit_51, lit_52, lit_53, lit_54, lit_55, lit_56, lit_57, lit_58, lit_59, lit_60, lit_61, lit_62, lit_63, lit_64, lit_97, lit_99, lit_100, lit_122, lit_175, lit_176, lit_200, lit_255, lit_400, lit_700, lit_800, lit_999, lit_1000, lit_1400, lit_2000, lit_2033, lit_2038, lit_2100, lit_2124, lit_8000, lit_10000, lit_12345, lit_32767, lit_1000000, lit_1000000000, ↓bndX_h, ↓bndK_h, bxh_inl, bxh_inr, bkh_inl, bkh_inr, Nat.reduceEqDiff, ↓bnd_h, ↓lt_h, ↓ite_h, bh_some, lh_eq, ih_T, ih_F, ne_eq, not_false_eq_true, not_true_eq_false, eq_self, and_true, true_and, io_def]
    refine Wp.seqh (c_drawW (n := 100) hL (by omega) (by omega)) (fun x0 M1 ⟨x1, x2⟩ => ?_)
    subst x1
    rw [← x2] at hX1 hB1 hL1 hF1 hP' r1
    clear x2
    generalize dwN (dwL D.1) 100 = d at hd hth ⊢
    have c3' := hX1.1.2.2.2.2.1.2.2.2.1
    have b3' := hB1.2.2.2.1
    have b4' := hB1.2.2.2.2.1
    simp -dsimp (disch := first | assumption | omega) only [lit_0, lit_1, lit_2, lit_3, lit_4, lit_5, lit_6, lit_7, lit_8, lit_9, lit_10, lit_11, lit_12, lit_13, lit_14, lit_15, lit_16, lit_17, lit_18, lit_19, lit_20, lit_21, lit_22, lit_23, lit_24, lit_25, lit_26, lit_27, lit_28, lit_29, lit_30, lit_31, lit_32, lit_33, lit_34, lit_35, lit_36, lit_37, lit_38, lit_39, lit_40, lit_41, lit_42, lit_43, lit_44, lit_45, lit_46, lit_47, lit_48, lit_49, lit_50, lit_51, lit_52, lit_53, lit_54, lit_55, lit_56, lit_57, lit_58, lit_59, lit_60, lit_61, lit_62, lit_63, lit_64, lit_97, lit_99, lit_100, lit_122, lit_175, lit_176, lit_200, lit_255, lit_400, lit_700, lit_800, lit_999, lit_1000, lit_1400, lit_2000, lit_2033, lit_2038, lit_2100, lit_2124, lit_8000, lit_10000, lit_12345, lit_32767, lit_1000000, lit_1000000000, ↓bndX_h, ↓bndK_h, bxh_inl, bxh_inr, bkh_inl, bkh_inr, Nat.reduceEqDiff, ↓bnd_h, ↓lt_h, ↓ite_h, bh_some, lh_eq, ih_T, ih_F, ne_eq, not_false_eq_true, not_true_eq_false, eq_self, and_true, true_and, io_def, io_add, io_mul, io_sub, io_lt, io_le, io_eq, io_clamp, io_inbT, io_div, io_mod, io_m1, m1_io, m1_lt, m1_le, neg_1, gI_m1, r1, K0_r, ru_ne, c3']
    refine Wp.csh (fun q2 => ?_) (fun q2 => ?_)
    · rw [if_pos q2] at hth
      rw [hth]
      exact Wp.ret ⟨hX1, hB1, hL1, hF1⟩
    · rw [if_neg q2] at hth
      have e3 : mI (sI M1 (bid g) 4 (bSt D.2.1 + bBo D.2.1)) (bid g) 3 = bBo D.2.1 := by rw [mI_sI, if_neg (by omega)]; exact b3'
      have hP'' : PC1 (sI M1 (bid g) 4 (bSt D.2.1 + bBo D.2.1)) := hP'
      simp -dsimp (disch := first | assumption | omega) only [lit_0, lit_1, lit_2, lit_3, lit_4, lit_5, lit_6, lit_7, lit_8, lit_9, lit_10, lit_11, lit_12, lit_13, lit_14, lit_15, lit_16, lit_17, lit_18, lit_19, lit_20, lit_21, lit_22, lit_23, lit_24, lit_25, lit_26, lit_27, lit_28, lit_29, lit_30, lit_31, lit_32, lit_33, lit_34, lit_35, lit_36, lit_37, lit_38, lit_39, lit_40, lit_41, lit_42, lit_43, lit_44, lit_45, lit_46, lit_47, lit_48, lit_49, lit_50, lit_51, lit_52, lit_53, lit_54, lit_55, lit_56, lit_57, lit_58, lit_59, lit_60, lit_61, lit_62, lit_63, lit_64, lit_97, lit_99, lit_100, lit_122, lit_175, lit_176, lit_200, lit_255, lit_400, lit_700, lit_800, lit_999, lit_1000, lit_1400, lit_2000, lit_2033, lit_2038, lit_2100, lit_2124, lit_8000, lit_10000, lit_12345, lit_32767, lit_1000000, lit_1000000000, ↓bndX_h, ↓bndK_h, bxh_inl, bxh_inr, bkh_inl, bkh_inr, Nat.reduceEqDiff, ↓bnd_h, ↓lt_h, ↓ite_h, bh_some, lh_eq, ih_T, ih_F, ne_eq, not_false_eq_true, not_true_eq_false, eq_self, and_true, true_and, io_def, K0_gid, gid_ne, K0_bid, bid_ne, K0_kid, kid_ne, K0_bid1, K0_bid2, K0_kid1, K0_kid2, GP.r1, GP.r2, GP.b5, GP.b6, GP.k5, GP.k6, c_gateOf, b3', b4']
      have hI : ∀ o k, (o < bid g ∨ bid g + 2 < o) → mI (sI (sI M1 (bid g) 4 (bSt D.2.1 + bBo D.2.1)) (bid g) 3 (io 0)) o k = mI M1 o k := fun o k ho => by
        rw [mI_sI, if_neg (by omega), mI_sI, if_neg (by omega)]
      obtain ⟨f0, f1, f2, f3, f4, f5, f6⟩ := hB1
      rw [hth]
      refine Wp.ret ⟨hX1.keepD (g := g) hr hp (fun o k h1 _ => hI o k h1) (fun _ _ => rfl), ⟨?_, ?_, ?_, ?_, ?_, fun i hi => ?_, fun j hj => ?_⟩, ?_, hF1.trans ⟨fun o k h1 _ _ => hI o k h1, fun _ _ => rfl, fun _ _ _ _ => rfl⟩⟩
      · rw [mI_sI, if_neg (by omega), mI_sI, if_neg (by omega)]; exact f0
      · rw [mI_sI, if_neg (by omega), mI_sI, if_neg (by omega)]; exact f1
      · rw [mI_sI, if_neg (by omega), mI_sI, if_neg (by omega)]; exact f2
      · rw [mI_sI, if_pos ⟨rfl, rfl⟩]; rfl
      · rw [mI_sI, if_neg (by omega), mI_sI, if_pos ⟨rfl, rfl⟩]; rfl
      · rw [mI_sI, if_neg (by omega), mI_sI, if_neg (by omega)]; exact f5 i hi
      · rw [mI_sI, if_neg (by omega), mI_sI, if_neg (by omega)]; exact f6 j hj
      · rw [hI _ _ (by omega)]; exact hL1
theorem c_drawnL {M : Mem} {g r p n : Nat} {v : GV} {sv : SV} {D : DV} (hg : g < 2) (hP1 : PC1 M) (r0 : mR M (gid g) 0 = r) (hr : isRu r) (hp : isSe p) (hv : okG v) (hsv : okS sv) (hn0 : 0 < gN v) (hn : n ≤ 400) (hb : okB v D.2.1) (h : DC M g r p v sv D M) (hD : D.2.2 = io 0) :
    Wp (zX11_drawn_L69 FU 1 (io n) (gid g) (io 0) (io 1) M) (fun y M' => y = .inl (drS v sv D n).2.2 ∧ DC M g r p v sv (drS v sv D n) M') := by
  have e1 : ∀ k, io (k + 1) % io 10 = io ((k + 1) % 10) ∨ 2147483648 ≤ k + 1 := fun k => by
    by_cases q : k + 1 < 2147483648
    · exact Or.inl (io_mod q (by omega))
    · exact Or.inr (by omega)
  have hst : zX11_drawn_L69 FU 1 (io n) (gid g) (io 0) (io 1) M = zX11_drawn_L69 FU 1 (io n) (gid g) (drS v sv D 0).2.2 (io (0 + 1)) M := by
    show _ = zX11_drawn_L69 FU 1 (io n) (gid g) D.2.2 (io (0 + 1)) M
    rw [hD]
  rw [hst]
  refine loopW (L := fun f (k : Nat) U => zX11_drawn_L69 f 1 (io n) (gid g) (drS v sv D k).2.2 (io (k + 1)) U) (J := fun k U => k ≤ n ∧ DC M g r p v sv (drS v sv D k) U) (fun k _ => n - k) ?_ FU 0 M ⟨Nat.zero_le _, h⟩ (by rw [FU_val]; omega)
  intro f k U ⟨hk, hU⟩ rec
  show Wp (zX11_drawn_B69 (zX11_drawn_L69 f) 1 (io n) (gid g) (drS v sv D k).2.2 (io (k + 1)) U) _
  have hbk := okB_dr (sv := sv) hv hn0 hb k
  have hP : PC1 U := hP1.keep (fun o k _ => hU.2.2.2.2.1 o k)
  unfold zX11_drawn_B69 zX11_drawn_B102
  simp -dsimp (disch := first | assumption | omega) only [lit_0, lit_1, lit_2, lit_3, lit_4, lit_5, lit_6, lit_7, lit_8, lit_9, lit_10, lit_11, lit_12, lit_13, lit_14, lit_15, lit_16, lit_17, lit_18, lit_19, lit_20, lit_21, lit_22, lit_23, lit_24, lit_25, lit_26, lit_27, lit_28, lit_29, lit_30, lit_31, lit_32, lit_33, lit_34, lit_35, lit_36, lit_37, lit_38, lit_39, lit_40, lit_41, lit_42, lit_43, lit_44, lit_45, lit_46, lit_47, lit_48, lit_49, lit_50, lit_51, lit_52, lit_53, lit_54, lit_55, lit_56, lit_57, lit_58, lit_59, lit_60, lit_61, lit_62, lit_63, lit_64, lit_97, lit_99, lit_100, lit_122, lit_175, lit_176, lit_200, lit_255, lit_400, lit_700, lit_800, lit_999, lit_1000, lit_1400, lit_2000, lit_2033, lit_2038, lit_2100, lit_2124, lit_8000, lit_10000, lit_12345, lit_32767, lit_1000000, lit_1000000000, ↓bndX_h, ↓bndK_h, bxh_inl, bxh_inr, bkh_inl, bkh_inr, Nat.reduceEqDiff, ↓bnd_h, ↓lt_h, ↓ite_h, bh_some, lh_eq, ih_T, ih_F, ne_eq, not_false_eq_true, not_true_eq_false, eq_self, and_true, true_and, io_def, io_add, io_mul, io_sub, io_lt, io_le, io_eq, io_clamp, io_inbT, io_div, io_mod, io_m1, m1_io, m1_lt, m1_le, neg_1, gI_m1]
  refine Wp.csh (fun c => ?_) (fun c => ?_)
  · have : k = n := by omega
    subst this
    exact Wp.ret ⟨rfl, hU⟩
  · simp -dsimp (disch := first | assumption | omega) only [lit_0, lit_1, lit_2, lit_3, lit_4, lit_5, lit_6, lit_7, lit_8, lit_9, lit_10, lit_11, lit_12, lit_13, lit_14, lit_15, lit_16, lit_17, lit_18, lit_19, lit_20, lit_21, lit_22, lit_23, lit_24, lit_25, lit_26, lit_27, lit_28, lit_29, lit_30, lit_31, lit_32, lit_33, lit_34, lit_35, lit_36, lit_37, lit_38, lit_39, lit_40, lit_41, lit_42, lit_43, lit_44, lit_45, lit_46, lit_47, lit_48, lit_49, lit_50, lit_51, lit_52, lit_53, lit_54, lit_55, lit_56, lit_57, lit_58, lit_59, lit_60, lit_61, lit_62, lit_63, lit_64, lit_97, lit_99, lit_100, lit_122, lit_175, lit_176, lit_200, lit_255, lit_400, lit_700, lit_800, lit_999, lit_1000, lit_1400, lit_2000, lit_2033, lit_2038, lit_2100, lit_2124, lit_8000, lit_10000, lit_12345, lit_32767, lit_1000000, lit_1000000000, ↓bndX_h, ↓bndK_h, bxh_inl, bxh_inr, bkh_inl, bkh_inr, Nat.reduceEqDiff, ↓bnd_h, ↓lt_h, ↓ite_h, bh_some, lh_eq, ih_T, ih_F, ne_eq, not_false_eq_true, not_true_eq_false, eq_self, and_true, true_and, io_def, K0_gid, gid_ne, K0_bid, bid_ne, K0_kid, kid_ne, K0_bid1, K0_bid2, K0_kid1, K0_kid2, GP.r1, GP.r2, GP.b5, GP.b6, GP.k5, GP.k6, c_gateOf, PC1.p1_7]
    refine Wp.seqh (c_comesP hg hP1 r0 hr hp hv hsv hn0 hbk hU) (fun y M1 ⟨a1, a2⟩ => ?_)
    have hon : (onS v sv (drS v sv D k)).2.2 = (drS v sv D k).2.2 + io (dxS v sv (drS v sv D k) - 1) := rfl
    have hth : ∀ E : DV, (thV v E).2.2 = E.2.2 := fun E => by unfold thV; split <;> rfl
    have hw : drS v sv D (k + 1) = if (k + 1) % 10 = 0 then thV v (onS v sv (drS v sv D k)) else onS v sv (drS v sv D k) := rfl
    have e2 : (drS v sv D (k + 1)).2.2 = (drS v sv D k).2.2 + io (dxS v sv (drS v sv D k) - 1) := by
      rw [hw, ← hon]
      split
      · exact hth _
      · rfl
    subst a1
    simp -dsimp (disch := first | assumption | omega) only [lit_0, lit_1, lit_2, lit_3, lit_4, lit_5, lit_6, lit_7, lit_8, lit_9, lit_10, lit_11, lit_12, lit_13, lit_14, lit_15, lit_16, lit_17, lit_18, lit_19, lit_20, lit_21, lit_22, lit_23, lit_24, lit_25, lit_26, lit_27, lit_28, lit_29, lit_30, lit_31, lit_32, lit_33, lit_34, lit_35, lit_36, lit_37, lit_38, lit_39, lit_40, lit_41, lit_42, lit_43, lit_44, lit_45, lit_46, lit_47, lit_48, lit_49, lit_50, lit_51, lit_52, lit_53, lit_54, lit_55, lit_56, lit_57, lit_58, lit_59, lit_60, lit_61, lit_62, lit_63, lit_64, lit_97, lit_99, lit_100, lit_122, lit_175, lit_176, lit_200, lit_255, lit_400, lit_700, lit_800, lit_999, lit_1000, lit_1400, lit_2000, lit_2033, lit_2038, lit_2100, lit_2124, lit_8000, lit_10000, lit_12345, lit_32767, lit_1000000, lit_1000000000, ↓bndX_h, ↓bndK_h, bxh_inl, bxh_inr, bkh_inl, bkh_inr, Nat.reduceEqDiff, ↓bnd_h, ↓lt_h, ↓ite_h, bh_some, lh_eq, ih_T, ih_F, ne_eq, not_false_eq_true, not_true_eq_false, eq_self, and_true, true_and, io_def, io_add, io_mul, io_sub, io_lt, io_le, io_eq, io_clamp, io_inbT, io_div, io_mod, io_m1, m1_io, m1_lt, m1_le, neg_1, gI_m1]
    refine Wp.csh (fun q => ?_) (fun q => ?_)
    · rw [if_pos q] at hw
      simp -dsimp (disch := first | assumption | omega) only [lit_0, lit_1, lit_2, lit_3, lit_4, lit_5, lit_6, lit_7, lit_8, lit_9, lit_10, lit_11, lit_12, lit_13, lit_14, lit_15, lit_16, lit_17, lit_18, lit_19, lit_20, lit_21, lit_22, lit_23, lit_24, lit_25, lit_26, lit_27, lit_28, lit_29, lit_30, lit_31, lit_32, lit_33, lit_34, lit_35, lit_36, lit_37, lit_38, lit_39, lit_40, lit_41, lit_42, lit_43, lit_44, lit_45, lit_46, lit_47, lit_48, lit_49, lit_50, lit_51, lit_52, lit_53, lit_54, lit_55, lit_56, lit_57, lit_58, lit_59, lit_60, lit_61, lit_62, lit_63, lit_64, lit_97, lit_99, lit_100, lit_122, lit_175, lit_176, lit_200, lit_255, lit_400, lit_700, lit_800, lit_999, lit_1000, lit_1400, lit_2000, lit_2033, lit_2038, lit_2100, lit_2124, lit_8000, lit_10000, lit_12345, lit_32767, lit_1000000, lit_1000000000, ↓bndX_h, ↓bndK_h, bxh_inl, bxh_inr, bkh_inl, bkh_inr, Nat.reduceEqDiff, ↓bnd_h, ↓lt_h, ↓ite_h, bh_some, lh_eq, ih_T, ih_F, ne_eq, not_false_eq_true, not_true_eq_false, eq_self, and_true, true_and, io_def, io_add, io_mul, io_sub, io_lt, io_le, io_eq, io_clamp, io_inbT, io_div, io_mod, io_m1, m1_io, m1_lt, m1_le, neg_1, gI_m1]
      refine Wp.seqh (c_comesThief hg hP1 r0 hr hp hv a2) (fun _ M2 b2 => ?_)
      have rr := rec (k + 1) M2 ⟨by omega, by rw [hw]; exact b2⟩ (by omega)
      rw [e2] at rr
      simp -dsimp (disch := first | assumption | omega) only [lit_0, lit_1, lit_2, lit_3, lit_4, lit_5, lit_6, lit_7, lit_8, lit_9, lit_10, lit_11, lit_12, lit_13, lit_14, lit_15, lit_16, lit_17, lit_18, lit_19, lit_20, lit_21, lit_22, lit_23, lit_24, lit_25, lit_26, lit_27, lit_28, lit_29, lit_30, lit_31, lit_32, lit_33, lit_34, lit_35, lit_36, lit_37, lit_38, lit_39, lit_40, lit_41, lit_42, lit_43, lit_44, lit_45, lit_46, lit_47, lit_48, lit_49, lit_50, lit_51, lit_52, lit_53, lit_54, lit_55, lit_56, lit_57, lit_58, lit_59, lit_60, lit_61, lit_62, lit_63, lit_64, lit_97, lit_99, lit_100, lit_122, lit_175, lit_176, lit_200, lit_255, lit_400, lit_700, lit_800, lit_999, lit_1000, lit_1400, lit_2000, lit_2033, lit_2038, lit_2100, lit_2124, lit_8000, lit_10000, lit_12345, lit_32767, lit_1000000, lit_1000000000, ↓bndX_h, ↓bndK_h, bxh_inl, bxh_inr, bkh_inl, bkh_inr, Nat.reduceEqDiff, ↓bnd_h, ↓lt_h, ↓ite_h, bh_some, lh_eq, ih_T, ih_F, ne_eq, not_false_eq_true, not_true_eq_false, eq_self, and_true, true_and, io_def, io_add, io_mul, io_sub, io_lt, io_le, io_eq, io_clamp, io_inbT, io_div, io_mod, io_m1, m1_io, m1_lt, m1_le, neg_1, gI_m1]
      exact rr
    · rw [if_neg q] at hw
      have rr := rec (k + 1) M1 ⟨by omega, by rw [hw]; exact a2⟩ (by omega)
      rw [e2] at rr
      simp -dsimp (disch := first | assumption | omega) only [lit_0, lit_1, lit_2, lit_3, lit_4, lit_5, lit_6, lit_7, lit_8, lit_9, lit_10, lit_11, lit_12, lit_13, lit_14, lit_15, lit_16, lit_17, lit_18, lit_19, lit_20, lit_21, lit_22, lit_23, lit_24, lit_25, lit_26, lit_27, lit_28, lit_29, lit_30, lit_31, lit_32, lit_33, lit_34, lit_35, lit_36, lit_37, lit_38, lit_39, lit_40, lit_41, lit_42, lit_43, lit_44, lit_45, lit_46, lit_47, lit_48, lit_49, lit_50, lit_51, lit_52, lit_53, lit_54, lit_55, lit_56, lit_57, lit_58, lit_59, lit_60, lit_61, lit_62, lit_63, lit_64, lit_97, lit_99, lit_100, lit_122, lit_175, lit_176, lit_200, lit_255, lit_400, lit_700, lit_800, lit_999, lit_1000, lit_1400, lit_2000, lit_2033, lit_2038, lit_2100, lit_2124, lit_8000, lit_10000, lit_12345, lit_32767, lit_1000000, lit_1000000000, ↓bndX_h, ↓bndK_h, bxh_inl, bxh_inr, bkh_inl, bkh_inr, Nat.reduceEqDiff, ↓bnd_h, ↓lt_h, ↓ite_h, bh_some, lh_eq, ih_T, ih_F, ne_eq, not_false_eq_true, not_true_eq_false, eq_self, and_true, true_and, io_def, io_add, io_mul, io_sub, io_lt, io_le, io_eq, io_clamp, io_inbT, io_div, io_mod, io_m1, m1_io, m1_lt, m1_le, neg_1, gI_m1]
      exact rr
