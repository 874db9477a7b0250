/-! ===== LEVEL 2: drawn ===== -/
def dwL (L : Int32) : Int32 := L * 1103515245 + io 12345
def dwN (L : Int32) (n : Nat) : Nat := bitsN L 16 15 % n
theorem dw_u (x : Int32) : iushr x (io 16) &&& io 32767 = io (bitsN x 16 15) := bits_u x (b := 15) (by omega)
theorem dw_s (x : Int32) : (x >>> (io 16 &&& io 31)) &&& io 32767 = io (bitsN x 16 15) := bits_s x (b := 15) (by omega) (by omega)
theorem dwN_lt {L : Int32} {n : Nat} (h : 0 < n) : dwN L n < n := Nat.mod_lt _ h
/-- the SORT of n that is drawn: the last with no more before it -/
def srtS (od : Nat → Nat) (d : Nat) : Nat → Nat
  | 0 => 0
  | n + 1 => if sumN n od ≤ d then n else srtS od d n
theorem srt_eq {od : Nat → Nat} {d s : Nat} (h1 : sumN s od ≤ d) (h2 : d < sumN (s + 1) od) : ∀ n, s < n → srtS od d n = s
  | 0, h => by omega
  | n + 1, h => by
    show (if sumN n od ≤ d then n else srtS od d n) = s
    by_cases q : s = n
    · subst q
      rw [if_pos h1]
    · have := sumN_mono (f := od) (show s + 1 ≤ n by omega)
      rw [if_neg (by omega)]
      exact srt_eq h1 h2 n (by omega)
theorem srt_lt {od : Nat → Nat} {d : Nat} : ∀ n, 0 < n → srtS od d n < n
  | n + 1, _ => by
    show (if sumN n od ≤ d then n else srtS od d n) < n + 1
    split
    · omega
    · cases n with
      | zero => show 0 < 1; omega
      | succ n => have := srt_lt (od := od) (d := d) (n + 1) (by omega); omega
abbrev DV : Type := Int32 × BV × Int32
def bAdd (b : BV) (x : Nat) : BV := (bSe b, bNo b, bLe b, bBo b + io x, bSt b, bGi b, bGu b)
def bStl (b : BV) : BV := (bSe b, bNo b, bLe b, io 0, bSt b + bBo b, bGi b, bGu b)
/-- what the next person brings (and 1; 0: he is KEPT AWAY) -/
def dxS (v : GV) (sv : SV) (D : DV) : Nat := gfS v sv (srtS (gOd v) (dwN (dwL D.1) (allO v)) (gN v)) (bNo D.2.1)
def onS (v : GV) (sv : SV) (D : DV) : DV := (dwL D.1, (if dxS v sv D = 0 then D.2.1 else bAdd (bGive D.2.1 (gSi v) (dxS v sv D - 1)) (dxS v sv D - 1)), D.2.2 + io (dxS v sv D - 1))
def thS (v : GV) (D : DV) : DV := if bBo D.2.1 < io (gBo v) then D else (dwL D.1, (if gCh v ≤ dwN (dwL D.1) 100 then D.2.1 else bStl D.2.1), D.2.2)
def drS (v : GV) (sv : SV) (D : DV) : Nat → DV
  | 0 => D
  | k + 1 => if (k + 1) % 10 = 0 then thS v (onS v sv (drS v sv D k)) else onS v sv (drS v sv D k)
theorem dx_le {v : GV} {sv : SV} {D : DV} (hv : okG v) (hn : 0 < gN v) (hb : okB v D.2.1) : dxS v sv D ≤ 10 := by
  have hs := srt_lt (od := gOd v) (d := dwN (dwL D.1) (allO v)) (gN v) hn
  have h := (WOK_of (sv := sv) hv).2.2.2.2 _ (bNo D.2.1) hs (by have := hb.2.1; have := stN_le (gSi v); omega)
  exact h
theorem okB_on {v : GV} {sv : SV} {D : DV} (hv : okG v) (hn : 0 < gN v) (hb : okB v D.2.1) : okB v (onS v sv D).2.1 := by
  have hx := dx_le (sv := sv) hv hn hb
  show okB v (if dxS v sv D = 0 then D.2.1 else bAdd (bGive D.2.1 (gSi v) (dxS v sv D - 1)) (dxS v sv D - 1))
  split
  · exact hb
  · exact okB_give hv hb (by omega)
theorem okB_th {v : GV} {D : DV} (hb : okB v D.2.1) : okB v (thS v D).2.1 := by
  unfold thS
  split
  · exact hb
  · show okB v (if gCh v ≤ dwN (dwL D.1) 100 then D.2.1 else bStl D.2.1)
    split <;> exact hb
theorem okB_dr {v : GV} {sv : SV} {D : DV} (hv : okG v) (hn : 0 < gN v) (hb : okB v D.2.1) : ∀ k, okB v (drS v sv D k).2.1
  | 0 => hb
  | k + 1 => by
    have h := okB_on (sv := sv) hv hn (okB_dr (sv := sv) hv hn hb k)
    show okB v (if (k + 1) % 10 = 0 then thS v (onS v sv (drS v sv D k)) else onS v sv (drS v sv D k)).2.1
    split
    · exact okB_th h
    · exact h
/-! the class -/
theorem c_draw {M : Mem} {g n : Nat} {L : Int32} (hL : mI M (gid g) 3 = L) (hn : 0 < n) (hn2 : n < 2147483648) : zX4_draw (gid g) (io n) M = some (io (dwN (dwL L) n), sI M (gid g) 3 (dwL L)) := by
  have e1 : mI (sI M (gid g) 3 (dwL L)) (gid g) 3 = dwL L := by rw [mI_sI, if_pos ⟨rfl, rfl⟩]
  have e2 : L * 1103515245 + io 12345 = dwL L := rfl
  have hb := bitsN_lt (dwL L) 16 (b := 15) (by omega)
  have hne : ¬ n ≤ 0 := by omega
  have hne2 : ¬ n = 0 := by omega
  unfold zX4_draw dwN
  simp -dsimp (disch := first | assumption | omega) only [lit_0, lit_1, lit_2, lit_3, lit_4, lit_5, lit_6, lit_7, lit_8, lit_9, lit_10, lit_11, lit_12, lit_13, lit_14, lit_15, lit_16, lit_17, lit_18, lit_19, lit_20, lit_21, lit_22, lit_23, lit_24, lit_25, lit_26, lit_27, lit_28, lit_29, lit_30, lit_31, lit_32, lit_33, lit_34, lit_35, lit_36, lit_37, lit_38, lit_39, lit_40, lit_41, lit_42, lit_43, lit_44, lit_45, lit_46, lit_47, lit_48, lit_49, lit_50, lit_51, lit_52, lit_53, lit_54, lit_55, lit_56, lit_57, lit_58, lit_59, lit_60, lit_61, lit_62, lit_63, lit_64, lit_97, lit_99, lit_100, lit_122, lit_175, lit_176, lit_200, lit_255, lit_400, lit_700, lit_800, lit_999, lit_1000, lit_1400, lit_2000, lit_2033, lit_2038, lit_2100, lit_2124, lit_8000, lit_10000, lit_12345, lit_32767, lit_1000000, lit_1000000000, ↓bndX_h, ↓bndK_h, bxh_inl, bxh_inr, bkh_inl, bkh_inr, Nat.reduceEqDiff, ↓bnd_h, ↓lt_h, ↓ite_h, bh_some, lh_eq, ih_T, ih_F, ne_eq, not_false_eq_true, not_true_eq_false, eq_self, and_true, true_and, io_def, K0_gid, hL, e2, io_le, io_eq, hne, hne2, e1, dw_u, io_mod]
theorem c_drawSort {M : Mem} {g r : Nat} {v : GV} {L : Int32} (r0 : mR M (gid g) 0 = r) (hr : isRu r) (hv : okG v) (hn0 : 0 < gN v) (hPR : PR M r) (hC : CG M r v) (hrg : r ≠ gid g) (hL : mI M (gid g) 3 = L) :
    Wp (zX4_drawSort (gid g) M) (fun y M' => y = io (srtS (gOd v) (dwN (dwL L) (allO v)) (gN v)) ∧ M' = sI M (gid g) 3 (dwL L)) := by
  have hn := okG_n hv
  have hall := allO_pos hv hn0
  have hal2 := allO_le hv
  have e1 := c_draw hL hall (by omega)
  have c1 := hC.2.1
  have hg : gid g = 11 ∨ gid g = 25 := by unfold gid; split <;> simp
  have hC' : CG (sI M (gid g) 3 (dwL L)) r v := hC.keep (fun j hj k => by rw [mI_sI, if_neg (by rcases hr with rfl | rfl | rfl <;> omega)])
  have hPR' : PR (sI M (gid g) 3 (dwL L)) r := hPR
  have r0' : mR (sI M (gid g) 3 (dwL L)) (gid g) 0 = r := r0
  have hd := dwN_lt (L := dwL L) hall
  unfold zX4_drawSort
  simp -dsimp (disch := first | assumption | omega) only [lit_0, lit_1, lit_2, lit_3, lit_4, lit_5, lit_6, lit_7, lit_8, lit_9, lit_10, lit_11, lit_12, lit_13, lit_14, lit_15, lit_16, lit_17, lit_18, lit_19, lit_20, lit_21, lit_22, lit_23, lit_24, lit_25, lit_26, lit_27, lit_28, lit_29, lit_30, lit_31, lit_32, lit_33, lit_34, lit_35, lit_36, lit_37, lit_38, lit_39, lit_40, lit_41, lit_42, lit_43, lit_44, lit_45, lit_46, lit_47, lit_48, lit_49, lit_50, lit_51, lit_52, lit_53, lit_54, lit_55, lit_56, lit_57, lit_58, lit_59, lit_60, lit_61, lit_62, lit_63, lit_64, lit_97, lit_99, lit_100, lit_122, lit_175, lit_176, lit_200, lit_255, lit_400, lit_700, lit_800, lit_999, lit_1000, lit_1400, lit_2000, lit_2033, lit_2038, lit_2100, lit_2124, lit_8000, lit_10000, lit_12345, lit_32767, lit_1000000, lit_1000000000, ↓bndX_h, ↓bndK_h, bxh_inl, bxh_inr, bkh_inl, bkh_inr, Nat.reduceEqDiff, ↓bnd_h, ↓lt_h, ↓ite_h, bh_some, lh_eq, ih_T, ih_F, ne_eq, not_false_eq_true, not_true_eq_false, eq_self, and_true, true_and, io_def, K0_gid, r0, K0_r, ru_ne, c1, e1]
  generalize sI M (gid g) 3 (dwL L) = M1 at hC' hPR' r0' ⊢
  generalize dwN (dwL L) (allO v) = d at hd ⊢
  refine loopW (L := fun f (s : Nat) U => zX4_drawSort_L16 f (gid g) (io d) (io (sumN s (gOd v))) (io s) U) (J := fun s U => s ≤ gN v ∧ sumN s (gOd v) ≤ d ∧ U = M1) (fun s _ => gN v - s) ?_ FU 0 M1 ⟨Nat.zero_le _, Nat.zero_le _, rfl⟩ (by rw [FU_val]; omega)
  intro f s U ⟨hs, hsum, hU⟩ rec
  subst hU
  show Wp (zX4_drawSort_B16 (zX4_drawSort_L16 f) (gid g) (io d) (io (sumN s (gOd v))) (io s) U) _
  unfold zX4_drawSort_B16
  have c0 := hC'.1
  simp -dsimp (disch := first | assumption | omega) only [lit_0, lit_1, lit_2, lit_3, lit_4, lit_5, lit_6, lit_7, lit_8, lit_9, lit_10, lit_11, lit_12, lit_13, lit_14, lit_15, lit_16, lit_17, lit_18, lit_19, lit_20, lit_21, lit_22, lit_23, lit_24, lit_25, lit_26, lit_27, lit_28, lit_29, lit_30, lit_31, lit_32, lit_33, lit_34, lit_35, lit_36, lit_37, lit_38, lit_39, lit_40, lit_41, lit_42, lit_43, lit_44, lit_45, lit_46, lit_47, lit_48, lit_49, lit_50, lit_51, lit_52, lit_53, lit_54, lit_55, lit_56, lit_57, lit_58, lit_59, lit_60, lit_61, lit_62, lit_63, lit_64, lit_97, lit_99, lit_100, lit_122, lit_175, lit_176, lit_200, lit_255, lit_400, lit_700, lit_800, lit_999, lit_1000, lit_1400, lit_2000, lit_2033, lit_2038, lit_2100, lit_2124, lit_8000, lit_10000, lit_12345, lit_32767, lit_1000000, lit_1000000000, ↓bndX_h, ↓bndK_h, bxh_inl, bxh_inr, bkh_inl, bkh_inr, Nat.reduceEqDiff, ↓bnd_h, ↓lt_h, ↓ite_h, bh_some, lh_eq, ih_T, ih_F, ne_eq, not_false_eq_true, not_true_eq_false, eq_self, and_true, true_and, io_def, io_add, io_mul, io_sub, io_lt, io_le, io_eq, io_clamp, io_inbT, io_div, io_mod, io_m1, m1_io, m1_lt, m1_le, neg_1, gI_m1, r0', K0_r, ru_ne, c0]
  have hlt : s < gN v := by
    rcases Nat.lt_or_ge s (gN v) with h | h
    · exact h
    · have : s = gN v := by omega
      subst this
      exact absurd hsum (Nat.not_le.mpr hd)
  refine Wp.csh (fun c => by omega) (fun c => ?_)
  have d1 := (hC'.2.2.2.2.2.2.1 s hlt).1
  have ea := at_r1 (M := U) hr (show s < 8 by omega)
  rw [d1] at ea
  have hw : sumN (s + 1) (gOd v) = sumN s (gOd v) + gOd v s := rfl
  have ho := okG_od hv hlt
  simp -dsimp (disch := first | assumption | omega) only [lit_0, lit_1, lit_2, lit_3, lit_4, lit_5, lit_6, lit_7, lit_8, lit_9, lit_10, lit_11, lit_12, lit_13, lit_14, lit_15, lit_16, lit_17, lit_18, lit_19, lit_20, lit_21, lit_22, lit_23, lit_24, lit_25, lit_26, lit_27, lit_28, lit_29, lit_30, lit_31, lit_32, lit_33, lit_34, lit_35, lit_36, lit_37, lit_38, lit_39, lit_40, lit_41, lit_42, lit_43, lit_44, lit_45, lit_46, lit_47, lit_48, lit_49, lit_50, lit_51, lit_52, lit_53, lit_54, lit_55, lit_56, lit_57, lit_58, lit_59, lit_60, lit_61, lit_62, lit_63, lit_64, lit_97, lit_99, lit_100, lit_122, lit_175, lit_176, lit_200, lit_255, lit_400, lit_700, lit_800, lit_999, lit_1000, lit_1400, lit_2000, lit_2033, lit_2038, lit_2100, lit_2124, lit_8000, lit_10000, lit_12345, lit_32767, lit_1000000, lit_1000000000, ↓bndX_h, ↓bndK_h, bxh_inl, bxh_inr, bkh_inl, bkh_inr, Nat.reduceEqDiff, ↓bnd_h, ↓lt_h, ↓ite_h, bh_some, lh_eq, ih_T, ih_F, ne_eq, not_false_eq_true, not_true_eq_false, eq_self, and_true, true_and, io_def, io_add, io_mul, io_sub, io_lt, io_le, io_eq, io_clamp, io_inbT, io_div, io_mod, io_m1, m1_io, m1_lt, m1_le, neg_1, gI_m1, PR.p7, at_r1, succ_ne, d1]
  refine Wp.csh (fun c2 => ?_) (fun c2 => ?_)
  · simp -dsimp (disch := first | assumption | omega) only [lit_0, lit_1, lit_2, lit_3, lit_4, lit_5, lit_6, lit_7, lit_8, lit_9, lit_10, lit_11, lit_12, lit_13, lit_14, lit_15, lit_16, lit_17, lit_18, lit_19, lit_20, lit_21, lit_22, lit_23, lit_24, lit_25, lit_26, lit_27, lit_28, lit_29, lit_30, lit_31, lit_32, lit_33, lit_34, lit_35, lit_36, lit_37, lit_38, lit_39, lit_40, lit_41, lit_42, lit_43, lit_44, lit_45, lit_46, lit_47, lit_48, lit_49, lit_50, lit_51, lit_52, lit_53, lit_54, lit_55, lit_56, lit_57, lit_58, lit_59, lit_60, lit_61, lit_62, lit_63, lit_64, lit_97, lit_99, lit_100, lit_122, lit_175, lit_176, lit_200, lit_255, lit_400, lit_700, lit_800, lit_999, lit_1000, lit_1400, lit_2000, lit_2033, lit_2038, lit_2100, lit_2124, lit_8000, lit_10000, lit_12345, lit_32767, lit_1000000, lit_1000000000, ↓bndX_h, ↓bndK_h, bxh_inl, bxh_inr, bkh_inl, bkh_inr, Nat.reduceEqDiff, ↓bnd_h, ↓lt_h, ↓ite_h, bh_some, lh_eq, ih_T, ih_F, ne_eq, not_false_eq_true, not_true_eq_false, eq_self, and_true, true_and, io_def, io_add, io_mul, io_sub, io_lt, io_le, io_eq, io_clamp, io_inbT, io_div, io_mod, io_m1, m1_io, m1_lt, m1_le, neg_1, gI_m1]
    exact rec (s + 1) U ⟨by omega, by omega, rfl⟩ (by omega)
  · refine Wp.ret ⟨?_, rfl⟩
    rw [srt_eq hsum (by omega) _ hlt]
/-- what a person may change: his gate's book and luck, what is remembered of gifts -/
def DF (g : Nat) (M M' : Mem) : Prop := (∀ o k, (o < bid g ∨ bid g + 2 < o) → o ≠ gid g → (o < 42 ∨ 44 < o) → mI M' o k = mI M o k) ∧ (∀ o k, mR M' o k = mR M o k) ∧ ∀ o k, (o < 1 ∨ 71 < o) → o ≠ 72 → mL M' o k = mL M o k
theorem DF.refl {g : Nat} {M : Mem} : DF g M M := ⟨fun _ _ _ _ _ => rfl, fun _ _ => rfl, fun _ _ _ _ => rfl⟩
theorem DF.trans {g : Nat} {M M1 M2 : Mem} (h : DF g M M1) (h' : DF g M1 M2) : DF g M M2 :=
  ⟨fun o k a b c => (h'.1 o k a b c).trans (h.1 o k a b c), fun o k => (h'.2.1 o k).trans (h.2.1 o k), fun o k a b => (h'.2.2 o k a b).trans (h.2.2 o k a b)⟩
theorem GX.keepD {M M' : Mem} {g r p : Nat} {v : GV} {sv : SV} (hr : isRu r) (hp : isSe p) (h : GX M r p v sv) (hI : ∀ o k, (o < bid g ∨ bid g + 2 < o) → o ≠ gid g → mI M' o k = mI M o k) (hR : ∀ o k, mR M' o k = mR M o k) : GX M' r p v sv := by
  have hb : bid g = 19 ∨ bid g = 33 := by unfold bid; split <;> simp
  have hg : gid g = 11 ∨ gid g = 25 := by unfold gid; split <;> simp
  obtain ⟨h, hK⟩ := h
  refine ⟨?_, fun sp s t h1 h2 h3 => ?_⟩
  · have hr' : ∀ k, k ≤ 5 → ∀ j, mI M' (r + k) j = mI M (r + k) j := fun k hk j => hI _ _ (by rcases hr with rfl | rfl | rfl <;> omega) (by rcases hr with rfl | rfl | rfl <;> omega)
    have hp' : ∀ j, mI M' p j = mI M p j := fun j => hI _ _ (by rcases hp with rfl | rfl | rfl | rfl <;> omega) (by rcases hp with rfl | rfl | rfl | rfl <;> omega)
    have hr0 : ∀ j, mI M' r j = mI M r j := hr' 0 (by omega)
    obtain ⟨h1, h2, h3, h4, h5, h6⟩ := h
    refine ⟨?_, ?_, ?_, ?_, ?_, ?_⟩
    · simpa only [PG, hR] using h1
    · simpa only [hR] using h2
    · simpa only [hR] using h3
    · simpa only [PR, hR] using h4
    · simpa only [CG, hr0, hr' 1 (by omega), hr' 2 (by omega), hr' 3 (by omega), hr' 4 (by omega), hr' 5 (by omega)] using h5
    · simpa only [CS, hp'] using h6
  · rw [hI _ _ (by omega) (by omega)]
    exact hK sp s t h1 h2 h3
/-- the class's state among persons -/
def DC (M0 : Mem) (g r p : Nat) (v : GV) (sv : SV) (D : DV) (M : Mem) : Prop := GX M r p v sv ∧ CB M (bid g) D.2.1 ∧ mI M (gid g) 3 = D.1 ∧ DF g M0 M
theorem c_comesOne {M0 M : Mem} {g r p : Nat} {v : GV} {sv : SV} {D : DV} (hg : g < 2) (hP1 : PC1 M0) (r0 : mR M0 (gid g) 0 = r) (hr : isRu r) (hp : isSe p) (hv : okG v) (hsv : okS sv) (hn0 : 0 < gN v) (hb : okB v D.2.1) (h : DC M0 g r p v sv D M) :
    Wp (zX4_comesOne (gid g) 41 M) (fun y M' => y = io (dxS v sv D - 1) ∧ DC M0 g r p v sv (onS v sv D) M') := by
  obtain ⟨hX, hB, hL, hF⟩ := h
  have hn := okG_n hv
  have hs100 := stN_le (gSi v)
  have hno := hb.2.1
  have hbi : bid g = 19 ∨ bid g = 33 := by unfold bid; split <;> simp
  have hgi : gid g = 11 ∨ gid g = 25 := by unfold gid; split <;> simp
  have hrg : r ≠ gid g := by rcases hr with rfl | rfl | rfl <;> omega
  have rM : mR M (gid g) 0 = r := (hF.2.1 _ _).trans r0
  have hP : PC1 M := hP1.keep (fun o k _ => hF.2.1 o k)
  unfold zX4_comesOne
  simp -dsimp (disch := first | assumption | omega) only [lit_0, lit_1, lit_2, lit_3, lit_4, lit_5, lit_6, lit_7, lit_8, lit_9, lit_10, lit_11, lit_12, lit_13, lit_14, lit_15, lit_16, lit_17, lit_18, lit_19, lit_20, lit_21, lit_22, lit_23, lit_24, lit_25, lit_26, lit_27, lit_28, lit_29, lit_30, lit_31, lit_32, lit_33, lit_34, lit_35, lit_36, lit_37, lit_38, lit_39, lit_40, lit_41, lit_42, lit_43, lit_44, lit_45, lit_46, lit_47, lit_48, lit_49, lit_50, lit_51, lit_52, lit_53, lit_54, lit_55, lit_56, lit_57, lit_58, lit_59, lit_60, lit_61, lit_62, lit_63, lit_64, lit_97, lit_99, lit_100, lit_122, lit_175, lit_176, lit_200, lit_255, lit_400, lit_700, lit_800, lit_999, lit_1000, lit_1400, lit_2000, lit_2033, lit_2038, lit_2100, lit_2124, lit_8000, lit_10000, lit_12345, lit_32767, lit_1000000, lit_1000000000, ↓bndX_h, ↓bndK_h, bxh_inl, bxh_inr, bkh_inl, bkh_inr, Nat.reduceEqDiff, ↓bnd_h, ↓lt_h, ↓ite_h, bh_some, lh_eq, ih_T, ih_F, ne_eq, not_false_eq_true, not_true_eq_false, eq_self, and_true, true_and, io_def, K0_gid]
  refine Wp.seqh (c_drawSort rM hr hv hn0 hX.1.2.2.2.1 hX.1.2.2.2.2.1 hrg hL) (fun y M1 ⟨a1, a2⟩ => ?_)
  have hs := srt_lt (od := gOd v) (d := dwN (dwL D.1) (allO v)) (gN v) hn0
  have hx10 := dx_le (sv := sv) hv hn0 hb
  have hxd : giftS v sv (srtS (gOd v) (dwN (dwL D.1) (allO v)) (gN v)) (bNo D.2.1) 0 = dxS v sv D := rfl
  have hon : onS v sv D = (dwL D.1, (if dxS v sv D = 0 then D.2.1 else bAdd (bGive D.2.1 (gSi v) (dxS v sv D - 1)) (dxS v sv D - 1)), D.2.2 + io (dxS v sv D - 1)) := rfl
  generalize dxS v sv D = x at hx10 hxd hon ⊢
  have hX1 : GX M1 r p v sv := hX.keepD (g := g) hr hp (fun o k _ h2 => by rw [a2, mI_sI, if_neg (by omega)]) (fun o k => by rw [a2]; rfl)
  have hB1 : CB M1 (bid g) D.2.1 := hB.keep (fun j hj k => by rw [a2, mI_sI, if_neg (by omega)])
  have hL1 : mI M1 (gid g) 3 = dwL D.1 := by rw [a2, mI_sI, if_pos ⟨rfl, rfl⟩]
  have hF1 : DF g M0 M1 := hF.trans ⟨fun o k _ h2 _ => by rw [a2, mI_sI, if_neg (by omega)], fun o k => by rw [a2]; rfl, fun o k _ _ => by rw [a2]; rfl⟩
  have hP1' : PC1 M1 := hP1.keep (fun o k _ => hF1.2.1 o k)
  have b1 := hB1.2.1
  subst a1
  simp -dsimp (disch := first | assumption | omega) only [lit_0, lit_1, lit_2, lit_3, lit_4, lit_5, lit_6, lit_7, lit_8, lit_9, lit_10, lit_11, lit_12, lit_13, lit_14, lit_15, lit_16, lit_17, lit_18, lit_19, lit_20, lit_21, lit_22, lit_23, lit_24, lit_25, lit_26, lit_27, lit_28, lit_29, lit_30, lit_31, lit_32, lit_33, lit_34, lit_35, lit_36, lit_37, lit_38, lit_39, lit_40, lit_41, lit_42, lit_43, lit_44, lit_45, lit_46, lit_47, lit_48, lit_49, lit_50, lit_51, lit_52, lit_53, lit_54, lit_55, lit_56, lit_57, lit_58, lit_59, lit_60, lit_61, lit_62, lit_63, lit_64, lit_97, lit_99, lit_100, lit_122, lit_175, lit_176, lit_200, lit_255, lit_400, lit_700, lit_800, lit_999, lit_1000, lit_1400, lit_2000, lit_2033, lit_2038, lit_2100, lit_2124, lit_8000, lit_10000, lit_12345, lit_32767, lit_1000000, lit_1000000000, ↓bndX_h, ↓bndK_h, bxh_inl, bxh_inr, bkh_inl, bkh_inr, Nat.reduceEqDiff, ↓bnd_h, ↓lt_h, ↓ite_h, bh_some, lh_eq, ih_T, ih_F, ne_eq, not_false_eq_true, not_true_eq_false, eq_self, and_true, true_and, io_def, K0_gid, gid_ne, K0_bid, bid_ne, K0_kid, kid_ne, K0_bid1, K0_bid2, K0_kid1, K0_kid2, GP.r1, GP.r2, GP.b5, GP.b6, GP.k5, GP.k6, c_gateOf, b1]
  refine Wp.seqh (c_giftAt (sp := 0) (Or.inl rfl) hr hp hv hsv hs (show bNo D.2.1 < 100 by omega) (by unfold knN; simp; omega) hX1.1 hX1.2) (fun y M2 ⟨d1, d2, d3⟩ => ?_)
  rw [hxd] at d1
  subst d1
  have hX2 : GX M2 r p v sv := ⟨hX1.1.keep (Or.inl rfl) hr hp d3, d2⟩
  have hF2 : DF g M1 M2 := ⟨fun o k _ _ h3 => d3.I (ob_1of (by omega)), fun o k => d3.2.2 o rfl k, fun o k h h2 => d3.L (ob_1of (by omega)) h2⟩
  have hB2 : CB M2 (bid g) D.2.1 := hB1.keep (fun j hj k => d3.I (ob_1of (by omega)))
  have hL2 : mI M2 (gid g) 3 = dwL D.1 := (d3.I (ob_1of (by omega))).trans hL1
  have hF02 := hF1.trans hF2
  have hP2 : PC1 M2 := hP1.keep (fun o k _ => hF02.2.1 o k)
  have r2 : mR M2 (gid g) 0 = r := (hF02.2.1 _ _).trans r0
  simp -dsimp (disch := first | assumption | omega) only [lit_0, lit_1, lit_2, lit_3, lit_4, lit_5, lit_6, lit_7, lit_8, lit_9, lit_10, lit_11, lit_12, lit_13, lit_14, lit_15, lit_16, lit_17, lit_18, lit_19, lit_20, lit_21, lit_22, lit_23, lit_24, lit_25, lit_26, lit_27, lit_28, lit_29, lit_30, lit_31, lit_32, lit_33, lit_34, lit_35, lit_36, lit_37, lit_38, lit_39, lit_40, lit_41, lit_42, lit_43, lit_44, lit_45, lit_46, lit_47, lit_48, lit_49, lit_50, lit_51, lit_52, lit_53, lit_54, lit_55, lit_56, lit_57, lit_58, lit_59, lit_60, lit_61, lit_62, lit_63, lit_64, lit_97, lit_99, lit_100, lit_122, lit_175, lit_176, lit_200, lit_255, lit_400, lit_700, lit_800, lit_999, lit_1000, lit_1400, lit_2000, lit_2033, lit_2038, lit_2100, lit_2124, lit_8000, lit_10000, lit_12345, lit_32767, lit_1000000, lit_1000000000, ↓bndX_h, ↓bndK_h, bxh_inl, bxh_inr, bkh_inl, bkh_inr, Nat.reduceEqDiff, ↓bnd_h, ↓lt_h, ↓ite_h, bh_some, lh_eq, ih_T, ih_F, ne_eq, not_false_eq_true, not_true_eq_false, eq_self, and_true, true_and, io_def, io_add, io_mul, io_sub, io_lt, io_le, io_eq, io_clamp, io_inbT, io_div, io_mod, io_m1, m1_io, m1_lt, m1_le, neg_1, gI_m1, neg_1, gI_m1]
  refine Wp.csh (fun q => ?_) (fun q => ?_)
  · subst q
    exact Wp.ret ⟨rfl, by rw [hon]; exact ⟨hX2, hB2, hL2, hF02⟩⟩
  · rw [if_neg q] at hon
    have hgx : gI x = io (x - 1) := by unfold gI; rw [if_neg q]
    rw [hgx]
    simp -dsimp (disch := first | assumption | omega) only [lit_0, lit_1, lit_2, lit_3, lit_4, lit_5, lit_6, lit_7, lit_8, lit_9, lit_10, lit_11, lit_12, lit_13, lit_14, lit_15, lit_16, lit_17, lit_18, lit_19, lit_20, lit_21, lit_22, lit_23, lit_24, lit_25, lit_26, lit_27, lit_28, lit_29, lit_30, lit_31, lit_32, lit_33, lit_34, lit_35, lit_36, lit_37, lit_38, lit_39, lit_40, lit_41, lit_42, lit_43, lit_44, lit_45, lit_46, lit_47, lit_48, lit_49, lit_50, lit_51, lit_52, lit_53, lit_54, lit_55, lit_56, lit_57, lit_58, lit_59, lit_60, lit_61, lit_62, lit_63, lit_64, lit_97, lit_99, lit_100, lit_122, lit_175, lit_176, lit_200, lit_255, lit_400, lit_700, lit_800, lit_999, lit_1000, lit_1400, lit_2000, lit_2033, lit_2038, lit_2100, lit_2124, lit_8000, lit_10000, lit_12345, lit_32767, lit_1000000, lit_1000000000, ↓bndX_h, ↓bndK_h, bxh_inl, bxh_inr, bkh_inl, bkh_inr, Nat.reduceEqDiff, ↓bnd_h, ↓lt_h, ↓ite_h, bh_some, lh_eq, ih_T, ih_F, ne_eq, not_false_eq_true, not_true_eq_false, eq_self, and_true, true_and, io_def]
    refine Wp.seqh (c_goOn hP2 r2 hr hv hX2.1.2.2.2.2.1 hB2 hb (show x - 1 ≤ 9 by omega)) (fun _ M3 ⟨e1, e2⟩ => ?_)
    have hP3 : PC1 M3 := hP2.keep (fun o k _ => e2.2.2 o rfl k)
    have b3 := e1.2.2.2.1
    simp -dsimp (disch := first | assumption | omega) only [lit_0, lit_1, lit_2, lit_3, lit_4, lit_5, lit_6, lit_7, lit_8, lit_9, lit_10, lit_11, lit_12, lit_13, lit_14, lit_15, lit_16, lit_17, lit_18, lit_19, lit_20, lit_21, lit_22, lit_23, lit_24, lit_25, lit_26, lit_27, lit_28, lit_29, lit_30, lit_31, lit_32, lit_33, lit_34, lit_35, lit_36, lit_37, lit_38, lit_39, lit_40, lit_41, lit_42, lit_43, lit_44, lit_45, lit_46, lit_47, lit_48, lit_49, lit_50, lit_51, lit_52, lit_53, lit_54, lit_55, lit_56, lit_57, lit_58, lit_59, lit_60, lit_61, lit_62, lit_63, lit_64, lit_97, lit_99, lit_100, lit_122, lit_175, lit_176, lit_200, lit_255, lit_400, lit_700, lit_800, lit_999, lit_1000, lit_1400, lit_2000, lit_2033, lit_2038, lit_2100, lit_2124, lit_8000, lit_10000, lit_12345, lit_32767, lit_1000000, lit_1000000000, ↓bndX_h, ↓bndK_h, bxh_inl, bxh_inr, bkh_inl, bkh_inr, Nat.reduceEqDiff, ↓bnd_h, ↓lt_h, ↓ite_h, bh_some, lh_eq, ih_T, ih_F, ne_eq, not_false_eq_true, not_true_eq_false, eq_self, and_true, true_and, io_def, K0_gid, gid_ne, K0_bid, bid_ne, K0_kid, kid_ne, K0_bid1, K0_bid2, K0_kid1, K0_kid2, GP.r1, GP.r2, GP.b5, GP.b6, GP.k5, GP.k6, c_gateOf, b3]
    have hI : ∀ o k, (o < bid g ∨ bid g + 2 < o) → mI (sI M3 (bid g) 3 (bBo (bGive D.2.1 (gSi v) (x - 1)) + io (x - 1))) o k = mI M2 o k := fun o k ho => by
      rw [mI_sI, if_neg (by omega), e2.I (ob_1of ho)]
    have hR : ∀ o k, mR (sI M3 (bid g) 3 (bBo (bGive D.2.1 (gSi v) (x - 1)) + io (x - 1))) o k = mR M2 o k := fun o k => e2.2.2 o rfl k
    refine Wp.ret ⟨rfl, ?_⟩
    rw [hon]
    obtain ⟨f0, f1, f2, f3, f4, f5, f6⟩ := e1
    refine ⟨hX2.keepD (g := g) hr hp (fun o k h1 _ => hI o k h1) hR, ⟨?_, ?_, ?_, ?_, ?_, fun i hi => ?_, fun j hj => ?_⟩, ?_, hF02.trans ⟨fun o k h1 _ _ => hI o k h1, hR, fun o k h h2 => e2.L (ob_1of (by omega)) h2⟩⟩
    · rw [mI_sI, if_neg (by omega)]; exact f0
    · rw [mI_sI, if_neg (by omega)]; exact f1
    · rw [mI_sI, if_neg (by omega)]; exact f2
    · rw [mI_sI, if_pos ⟨rfl, rfl⟩]; rfl
    · rw [mI_sI, if_neg (by omega)]; exact f4
    · rw [mI_sI, if_neg (by omega)]; exact f5 i hi
    · rw [mI_sI, if_neg (by omega)]; exact f6 j hj
    · rw [hI _ _ (by omega)]; exact hL2
theorem c_comesThief {M0 M : Mem} {g r p : Nat} {v : GV} {sv : SV} {D : DV} (hg : g < 2) (hP1 : PC1 M0) (r0 : mR M0 (gid g) 0 = r) (hr : isRu r) (hp : isSe p) (hv : okG v) (h : DC M0 g r p v sv D M) :
    Wp (zX4_comesThief (gid g) M) (fun _ M' => DC M0 g r p v sv (thS v D) M') := by
  obtain ⟨hX, hB, hL, hF⟩ := h
  have hbi : bid g = 19 ∨ bid g = 33 := by unfold bid; split <;> simp
  have hgi : gid g = 11 ∨ gid g = 25 := by unfold gid; split <;> simp
  have rM : mR M (gid g) 0 = r := (hF.2.1 _ _).trans r0
  have hP : PC1 M := hP1.keep (fun o k _ => hF.2.1 o k)
  obtain ⟨-, -, -, c3, c4, -⟩ := hX.1.2.2.2.2.1
  have b3 := hB.2.2.2.1
  have hch : gCh v ≤ 100 := hv.2.2.1
  have hth : thS v D = if bBo D.2.1 < io (gBo v) then D else (dwL D.1, (if gCh v ≤ dwN (dwL D.1) 100 then D.2.1 else bStl D.2.1), D.2.2) := rfl
  have e1 := c_draw (n := 100) hL (by omega) (by omega)
  unfold zX4_comesThief
  simp -dsimp (disch := first | assumption | omega) only [lit_0, lit_1, lit_2, lit_3, lit_4, lit_5, lit_6, lit_7, lit_8, lit_9, lit_10, lit_11, lit_12, lit_13, lit_14, lit_15, lit_16, lit_17, lit_18, lit_19, lit_20, lit_21, lit_22, lit_23, lit_24, lit_25, lit_26, lit_27, lit_28, lit_29, lit_30, lit_31, lit_32, lit_33, lit_34, lit_35, lit_36, lit_37, lit_38, lit_39, lit_40, lit_41, lit_42, lit_43, lit_44, lit_45, lit_46, lit_47, lit_48, lit_49, lit_50, lit_51, lit_52, lit_53, lit_54, lit_55, lit_56, lit_57, lit_58, lit_59, lit_60, lit_61, lit_62, lit_63, lit_64, lit_97, lit_99, lit_100, lit_122, lit_175, lit_176, lit_200, lit_255, lit_400, lit_700, lit_800, lit_999, lit_1000, lit_1400, lit_2000, lit_2033, lit_2038, lit_2100, lit_2124, lit_8000, lit_10000, lit_12345, lit_32767, lit_1000000, lit_1000000000, ↓bndX_h, ↓bndK_h, bxh_inl, bxh_inr, bkh_inl, bkh_inr, Nat.reduceEqDiff, ↓bnd_h, ↓lt_h, ↓ite_h, bh_some, lh_eq, ih_T, ih_F, ne_eq, not_false_eq_true, not_true_eq_false, eq_self, and_true, true_and, io_def, K0_gid, gid_ne, K0_bid, bid_ne, K0_kid, kid_ne, K0_bid1, K0_bid2, K0_kid1, K0_kid2, GP.r1, GP.r2, GP.b5, GP.b6, GP.k5, GP.k6, c_gateOf, rM, K0_r, ru_ne, b3, c4]
  refine Wp.csh (fun q => ?_) (fun q => ?_)
  · rw [if_pos q] at hth
    rw [hth]
    exact Wp.ret ⟨hX, hB, hL, hF⟩
  · rw [if_neg q] at hth
    have hd := dwN_lt (L := dwL D.1) (n := 100) (by omega)
    have hX1 : GX (sI M (gid g) 3 (dwL D.1)) r p v sv := hX.keepD (g := g) hr hp (fun o k _ h2 => by rw [mI_sI, if_neg (by omega)]) (fun o k => rfl)
    have hB1 : CB (sI M (gid g) 3 (dwL D.1)) (bid g) D.2.1 := hB.keep (fun j hj k => by rw [mI_sI, if_neg (by omega)])
    have hL1 : mI (sI M (gid g) 3 (dwL D.1)) (gid g) 3 = dwL D.1 := by rw [mI_sI, if_pos ⟨rfl, rfl⟩]
    have hF1 : DF g M0 (sI M (gid g) 3 (dwL D.1)) := hF.trans ⟨fun o k _ h2 _ => by rw [mI_sI, if_neg (by omega)], fun o k => rfl, fun o k _ _ => rfl⟩
    have hP' : PC1 (sI M (gid g) 3 (dwL D.1)) := hP
    have r1 : mR (sI M (gid g) 3 (dwL D.1)) (gid g) 0 = r := rM
    simp -dsimp (disch := first | assumption | omega) only [lit_0, lit_1, lit_2, lit_3, lit_4, lit_5, lit_6, lit_7, lit_8, lit_9, lit_10, lit_11, lit_12, lit_13, lit_14, lit_15, lit_16, lit_17, lit_18, lit_19, lit_20, lit_21, lit_22, lit_23, lit_24, lit_25, lit_26, lit_27, lit_28, lit_29, lit_30, lit_31, lit_32, lit_33, lit_34, lit_35, lit_36, lit_37, lit_38, lit_39, lit_40, lit_41, lit_42, lit_43, lit_44, lit_45, lit_46, lit_47, lit_48, lit_49, lit_50, lit_51, lit_52, lit_53, lit_54, lit_55, lit_56, lit_57, lit_58, lit_59, lit_60, lit_61, lit_62, lit_63, lit_64, lit_97, lit_99, lit_100, lit_122, lit_175, lit_176, lit_200, lit_255, lit_400, lit_700, lit_800, lit_999, lit_1000, lit_1400, lit_2000, lit_2033, lit_2038, lit_2100, lit_2124, lit_8000, lit_10000, lit_12345, lit_32767, lit_1000000, lit_1000000000, ↓bndX_h, ↓bndK_h, bxh_inl, bxh_inr, bkh_inl, bkh_inr, Nat.reduceEqDiff, ↓bnd_h, ↓lt_h, ↓ite_h, bh_some, lh_eq, ih_T, ih_F, ne_eq, not_false_eq_true, not_true_eq_false, eq_self, and_true, true_and, io_def, e1]
    generalize sI M (gid g) 3 (dwL D.1) = M1 at hX1 hB1 hL1 hF1 hP' r1 ⊢
    generalize dwN (dwL D.1) 100 = d at hd hth ⊢
    have c3' := hX1.1.2.2.2.2.1.2.2.2.1
    have b3' := hB1.2.2.2.1
    have b4' := hB1.2.2.2.2.1
    simp -dsimp (disch := first | assumption | omega) only [lit_0, lit_1, lit_2, lit_3, lit_4, lit_5, lit_6, lit_7, lit_8, lit_9, lit_10, lit_11, lit_12, lit_13, lit_14, lit_15, lit_16, lit_17, lit_18, lit_19, lit_20, lit_21, lit_22, lit_23, lit_24, lit_25, lit_26, lit_27, lit_28, lit_29, lit_30, lit_31, lit_32, lit_33, lit_34, lit_35, lit_36, lit_37, lit_38, lit_39, lit_40, lit_41, lit_42, lit_43, lit_44, lit_45, lit_46, lit_47, lit_48, lit_49, lit_50, lit_51, lit_52, lit_53, lit_54, lit_55, lit_56, lit_57, lit_58, lit_59, lit_60, lit_61, lit_62, lit_63, lit_64, lit_97, lit_99, lit_100, lit_122, lit_175, lit_176, lit_200, lit_255, lit_400, lit_700, lit_800, lit_999, lit_1000, lit_1400, lit_2000, lit_2033, lit_2038, lit_2100, lit_2124, lit_8000, lit_10000, lit_12345, lit_32767, lit_1000000, lit_1000000000, ↓bndX_h, ↓bndK_h, bxh_inl, bxh_inr, bkh_inl, bkh_inr, Nat.reduceEqDiff, ↓bnd_h, ↓lt_h, ↓ite_h, bh_some, lh_eq, ih_T, ih_F, ne_eq, not_false_eq_true, not_true_eq_false, eq_self, and_true, true_and, io_def, io_add, io_mul, io_sub, io_lt, io_le, io_eq, io_clamp, io_inbT, io_div, io_mod, io_m1, m1_io, m1_lt, m1_le, neg_1, gI_m1, r1, K0_r, ru_ne, c3']
    refine Wp.csh (fun q2 => ?_) (fun q2 => ?_)
    · rw [if_pos q2] at hth
      rw [hth]
      exact Wp.ret ⟨hX1, hB1, hL1, hF1⟩
    · rw [if_neg q2] at hth
      have e3 : mI (sI M1 (bid g) 4 (bSt D.2.1 + bBo D.2.1)) (bid g) 3 = bBo D.2.1 := by rw [mI_sI, if_neg (by omega)]; exact b3'
      have hP'' : PC1 (sI M1 (bid g) 4 (bSt D.2.1 + bBo D.2.1)) := hP'
      simp -dsimp (disch := first | assumption | omega) only [lit_0, lit_1, lit_2, lit_3, lit_4, lit_5, lit_6, lit_7, lit_8, lit_9, lit_10, lit_11, lit_12, lit_13, lit_14, lit_15, lit_16, lit_17, lit_18, lit_19, lit_20, lit_21, lit_22, lit_23, lit_24, lit_25, lit_26, lit_27, lit_28, lit_29, lit_30, lit_31, lit_32, lit_33, lit_34, lit_35, lit_36, lit_37, lit_38, lit_39, lit_40, lit_41, lit_42, lit_43, lit_44, lit_45, lit_46, lit_47, lit_48, lit_49, lit_50, lit_51, lit_52, lit_53, lit_54, lit_55, lit_56, lit_57, lit_58, lit_59, lit_60, lit_61, lit_62, lit_63, lit_64, lit_97, lit_99, lit_100, lit_122, lit_175, lit_176, lit_200, lit_255, lit_400, lit_700, lit_800, lit_999, lit_1000, lit_1400, lit_2000, lit_2033, lit_2038, lit_2100, lit_2124, lit_8000, lit_10000, lit_12345, lit_32767, lit_1000000, lit_1000000000, ↓bndX_h, ↓bndK_h, bxh_inl, bxh_inr, bkh_inl, bkh_inr, Nat.reduceEqDiff, ↓bnd_h, ↓lt_h, ↓ite_h, bh_some, lh_eq, ih_T, ih_F, ne_eq, not_false_eq_true, not_true_eq_false, eq_self, and_true, true_and, io_def, K0_gid, gid_ne, K0_bid, bid_ne, K0_kid, kid_ne, K0_bid1, K0_bid2, K0_kid1, K0_kid2, GP.r1, GP.r2, GP.b5, GP.b6, GP.k5, GP.k6, c_gateOf, b3', b4']
      have hI : ∀ o k, (o < bid g ∨ bid g + 2 < o) → mI (sI (sI M1 (bid g) 4 (bSt D.2.1 + bBo D.2.1)) (bid g) 3 (io 0)) o k = mI M1 o k := fun o k ho => by
        rw [mI_sI, if_neg (by omega), mI_sI, if_neg (by omega)]
      obtain ⟨f0, f1, f2, f3, f4, f5, f6⟩ := hB1
      rw [hth]
      refine Wp.ret ⟨hX1.keepD (g := g) hr hp (fun o k h1 _ => hI o k h1) (fun _ _ => rfl), ⟨?_, ?_, ?_, ?_, ?_, fun i hi => ?_, fun j hj => ?_⟩, ?_, hF1.trans ⟨fun o k h1 _ _ => hI o k h1, fun _ _ => rfl, fun _ _ _ _ => rfl⟩⟩
      · rw [mI_sI, if_neg (by omega), mI_sI, if_neg (by omega)]; exact f0
      · rw [mI_sI, if_neg (by omega), mI_sI, if_neg (by omega)]; exact f1
      · rw [mI_sI, if_neg (by omega), mI_sI, if_neg (by omega)]; exact f2
      · rw [mI_sI, if_pos ⟨rfl, rfl⟩]; rfl
      · rw [mI_sI, if_neg (by omega), mI_sI, if_pos ⟨rfl, rfl⟩]; rfl
      · rw [mI_sI, if_neg (by omega), mI_sI, if_neg (by omega)]; exact f5 i hi
      · rw [mI_sI, if_neg (by omega), mI_sI, if_neg (by omega)]; exact f6 j hj
      · rw [hI _ _ (by omega)]; exact hL1
theorem c_drawnL {M : Mem} {g r p n : Nat} {v : GV} {sv : SV} {D : DV} (hg : g < 2) (hP1 : PC1 M) (r0 : mR M (gid g) 0 = r) (hr : isRu r) (hp : isSe p) (hv : okG v) (hsv : okS sv) (hn0 : 0 < gN v) (hn : n ≤ 400) (hb : okB v D.2.1) (h : DC M g r p v sv D M) (hD : D.2.2 = io 0) :
    Wp (zX11_drawn_L69 FU 1 (io n) (gid g) (io 0) (io 1) M) (fun y M' => y = .inl (drS v sv D n).2.2 ∧ DC M g r p v sv (drS v sv D n) M') := by
  have e1 : ∀ k, io (k + 1) % io 10 = io ((k + 1) % 10) ∨ 2147483648 ≤ k + 1 := fun k => by
    by_cases q : k + 1 < 2147483648
    · exact Or.inl (io_mod q (by omega))
    · exact Or.inr (by omega)
  have hst : zX11_drawn_L69 FU 1 (io n) (gid g) (io 0) (io 1) M = zX11_drawn_L69 FU 1 (io n) (gid g) (drS v sv D 0).2.2 (io (0 + 1)) M := by
    show _ = zX11_drawn_L69 FU 1 (io n) (gid g) D.2.2 (io (0 + 1)) M
    rw [hD]
  rw [hst]
  refine loopW (L := fun f (k : Nat) U => zX11_drawn_L69 f 1 (io n) (gid g) (drS v sv D k).2.2 (io (k + 1)) U) (J := fun k U => k ≤ n ∧ DC M g r p v sv (drS v sv D k) U) (fun k _ => n - k) ?_ FU 0 M ⟨Nat.zero_le _, h⟩ (by rw [FU_val]; omega)
  intro f k U ⟨hk, hU⟩ rec
  show Wp (zX11_drawn_B69 (zX11_drawn_L69 f) 1 (io n) (gid g) (drS v sv D k).2.2 (io (k + 1)) U) _
  have hbk := okB_dr (sv := sv) hv hn0 hb k
  have hP : PC1 U := hP1.keep (fun o k _ => hU.2.2.2.2.1 o k)
  unfold zX11_drawn_B69 zX11_drawn_B102
  simp -dsimp (disch := first | assumption | omega) only [lit_0, lit_1, lit_2, lit_3, lit_4, lit_5, lit_6, lit_7, lit_8, lit_9, lit_10, lit_11, lit_12, lit_13, lit_14, lit_15, lit_16, lit_17, lit_18, lit_19, lit_20, lit_21, lit_22, lit_23, lit_24, lit_25, lit_26, lit_27, lit_28, lit_29, lit_30, lit_31, lit_32, lit_33, lit_34, lit_35, lit_36, lit_37, lit_38, lit_39, lit_40, lit_41, lit_42, lit_43, lit_44, lit_45, lit_46, lit_47, lit_48, lit_49, lit_50, lit_51, lit_52, lit_53, lit_54, lit_55, lit_56, lit_57, lit_58, lit_59, lit_60, lit_61, lit_62, lit_63, lit_64, lit_97, lit_99, lit_100, lit_122, lit_175, lit_176, lit_200, lit_255, lit_400, lit_700, lit_800, lit_999, lit_1000, lit_1400, lit_2000, lit_2033, lit_2038, lit_2100, lit_2124, lit_8000, lit_10000, lit_12345, lit_32767, lit_1000000, lit_1000000000, ↓bndX_h, ↓bndK_h, bxh_inl, bxh_inr, bkh_inl, bkh_inr, Nat.reduceEqDiff, ↓bnd_h, ↓lt_h, ↓ite_h, bh_some, lh_eq, ih_T, ih_F, ne_eq, not_false_eq_true, not_true_eq_false, eq_self, and_true, true_and, io_def, io_add, io_mul, io_sub, io_lt, io_le, io_eq, io_clamp, io_inbT, io_div, io_mod, io_m1, m1_io, m1_lt, m1_le, neg_1, gI_m1]
  refine Wp.csh (fun c => ?_) (fun c => ?_)
  · have : k = n := by omega
    subst this
    exact Wp.ret ⟨rfl, hU⟩
  · simp -dsimp (disch := first | assumption | omega) only [lit_0, lit_1, lit_2, lit_3, lit_4, lit_5, lit_6, lit_7, lit_8, lit_9, lit_10, lit_11, lit_12, lit_13, lit_14, lit_15, lit_16, lit_17, lit_18, lit_19, lit_20, lit_21, lit_22, lit_23, lit_24, lit_25, lit_26, lit_27, lit_28, lit_29, lit_30, lit_31, lit_32, lit_33, lit_34, lit_35, lit_36, lit_37, lit_38, lit_39, lit_40, lit_41, lit_42, lit_43, lit_44, lit_45, lit_46, lit_47, lit_48, lit_49, lit_50, lit_51, lit_52, lit_53, lit_54, lit_55, lit_56, lit_57, lit_58, lit_59, lit_60, lit_61, lit_62, lit_63, lit_64, lit_97, lit_99, lit_100, lit_122, lit_175, lit_176, lit_200, lit_255, lit_400, lit_700, lit_800, lit_999, lit_1000, lit_1400, lit_2000, lit_2033, lit_2038, lit_2100, lit_2124, lit_8000, lit_10000, lit_12345, lit_32767, lit_1000000, lit_1000000000, ↓bndX_h, ↓bndK_h, bxh_inl, bxh_inr, bkh_inl, bkh_inr, Nat.reduceEqDiff, ↓bnd_h, ↓lt_h, ↓ite_h, bh_some, lh_eq, ih_T, ih_F, ne_eq, not_false_eq_true, not_true_eq_false, eq_self, and_true, true_and, io_def, K0_gid, gid_ne, K0_bid, bid_ne, K0_kid, kid_ne, K0_bid1, K0_bid2, K0_kid1, K0_kid2, GP.r1, GP.r2, GP.b5, GP.b6, GP.k5, GP.k6, c_gateOf, PC1.p1_7]
    refine Wp.seqh (c_comesOne hg hP1 r0 hr hp hv hsv hn0 hbk hU) (fun y M1 ⟨a1, a2⟩ => ?_)
    have hon : (onS v sv (drS v sv D k)).2.2 = (drS v sv D k).2.2 + io (dxS v sv (drS v sv D k) - 1) := rfl
    have hth : ∀ E : DV, (thS v E).2.2 = E.2.2 := fun E => by unfold thS; split <;> rfl
    have hw : drS v sv D (k + 1) = if (k + 1) % 10 = 0 then thS v (onS v sv (drS v sv D k)) else onS v sv (drS v sv D k) := rfl
    have e2 : (drS v sv D (k + 1)).2.2 = (drS v sv D k).2.2 + io (dxS v sv (drS v sv D k) - 1) := by
      rw [hw, ← hon]
      split
      · exact hth _
      · rfl
    subst a1
    simp -dsimp (disch := first | assumption | omega) only [lit_0, lit_1, lit_2, lit_3, lit_4, lit_5, lit_6, lit_7, lit_8, lit_9, lit_10, lit_11, lit_12, lit_13, lit_14, lit_15, lit_16, lit_17, lit_18, lit_19, lit_20, lit_21, lit_22, lit_23, lit_24, lit_25, lit_26, lit_27, lit_28, lit_29, lit_30, lit_31, lit_32, lit_33, lit_34, lit_35, lit_36, lit_37, lit_38, lit_39, lit_40, lit_41, lit_42, lit_43, lit_44, lit_45, lit_46, lit_47, lit_48, lit_49, lit_50, lit_51, lit_52, lit_53, lit_54, lit_55, lit_56, lit_57, lit_58, lit_59, lit_60, lit_61, lit_62, lit_63, lit_64, lit_97, lit_99, lit_100, lit_122, lit_175, lit_176, lit_200, lit_255, lit_400, lit_700, lit_800, lit_999, lit_1000, lit_1400, lit_2000, lit_2033, lit_2038, lit_2100, lit_2124, lit_8000, lit_10000, lit_12345, lit_32767, lit_1000000, lit_1000000000, ↓bndX_h, ↓bndK_h, bxh_inl, bxh_inr, bkh_inl, bkh_inr, Nat.reduceEqDiff, ↓bnd_h, ↓lt_h, ↓ite_h, bh_some, lh_eq, ih_T, ih_F, ne_eq, not_false_eq_true, not_true_eq_false, eq_self, and_true, true_and, io_def, io_add, io_mul, io_sub, io_lt, io_le, io_eq, io_clamp, io_inbT, io_div, io_mod, io_m1, m1_io, m1_lt, m1_le, neg_1, gI_m1]
    refine Wp.csh (fun q => ?_) (fun q => ?_)
    · rw [if_pos q] at hw
      simp -dsimp (disch := first | assumption | omega) only [lit_0, lit_1, lit_2, lit_3, lit_4, lit_5, lit_6, lit_7, lit_8, lit_9, lit_10, lit_11, lit_12, lit_13, lit_14, lit_15, lit_16, lit_17, lit_18, lit_19, lit_20, lit_21, lit_22, lit_23, lit_24, lit_25, lit_26, lit_27, lit_28, lit_29, lit_30, lit_31, lit_32, lit_33, lit_34, lit_35, lit_36, lit_37, lit_38, lit_39, lit_40, lit_41, lit_42, lit_43, lit_44, lit_45, lit_46, lit_47, lit_48, lit_49, lit_50, lit_51, lit_52, lit_53, lit_54, lit_55, lit_56, lit_57, lit_58, lit_59, lit_60, lit_61, lit_62, lit_63, lit_64, lit_97, lit_99, lit_100, lit_122, lit_175, lit_176, lit_200, lit_255, lit_400, lit_700, lit_800, lit_999, lit_1000, lit_1400, lit_2000, lit_2033, lit_2038, lit_2100, lit_2124, lit_8000, lit_10000, lit_12345, lit_32767, lit_1000000, lit_1000000000, ↓bndX_h, ↓bndK_h, bxh_inl, bxh_inr, bkh_inl, bkh_inr, Nat.reduceEqDiff, ↓bnd_h, ↓lt_h, ↓ite_h, bh_some, lh_eq, ih_T, ih_F, ne_eq, not_false_eq_true, not_true_eq_false, eq_self, and_true, true_and, io_def, io_add, io_mul, io_sub, io_lt, io_le, io_eq, io_clamp, io_inbT, io_div, io_mod, io_m1, m1_io, m1_lt, m1_le, neg_1, gI_m1]
      refine Wp.seqh (c_comesThief hg hP1 r0 hr hp hv a2) (fun _ M2 b2 => ?_)
      have rr := rec (k + 1) M2 ⟨by omega, by rw [hw]; exact b2⟩ (by omega)
      rw [e2] at rr
      simp -dsimp (disch := first | assumption | omega) only [lit_0, lit_1, lit_2, lit_3, lit_4, lit_5, lit_6, lit_7, lit_8, lit_9, lit_10, lit_11, lit_12, lit_13, lit_14, lit_15, lit_16, lit_17, lit_18, lit_19, lit_20, lit_21, lit_22, lit_23, lit_24, lit_25, lit_26, lit_27, lit_28, lit_29, lit_30, lit_31, lit_32, lit_33, lit_34, lit_35, lit_36, lit_37, lit_38, lit_39, lit_40, lit_41, lit_42, lit_43, lit_44, lit_45, lit_46, lit_47, lit_48, lit_49, lit_50, lit_51, lit_52, lit_53, lit_54, lit_55, lit_56, lit_57, lit_58, lit_59, lit_60, lit_61, lit_62, lit_63, lit_64, lit_97, lit_99, lit_100, lit_122, lit_175, lit_176, lit_200, lit_255, lit_400, lit_700, lit_800, lit_999, lit_1000, lit_1400, lit_2000, lit_2033, lit_2038, lit_2100, lit_2124, lit_8000, lit_10000, lit_12345, lit_32767, lit_1000000, lit_1000000000, ↓bndX_h, ↓bndK_h, bxh_inl, bxh_inr, bkh_inl, bkh_inr, Nat.reduceEqDiff, ↓bnd_h, ↓lt_h, ↓ite_h, bh_some, lh_eq, ih_T, ih_F, ne_eq, not_false_eq_true, not_true_eq_false, eq_self, and_true, true_and, io_def, io_add, io_mul, io_sub, io_lt, io_le, io_eq, io_clamp, io_inbT, io_div, io_mod, io_m1, m1_io, m1_lt, m1_le, neg_1, gI_m1]
      exact rr
    · rw [if_neg q] at hw
      have rr := rec (k + 1) M1 ⟨by omega, by rw [hw]; exact a2⟩ (by omega)
      rw [e2] at rr
      simp -dsimp (disch := first | assumption | omega) only [lit_0, lit_1, lit_2, lit_3, lit_4, lit_5, lit_6, lit_7, lit_8, lit_9, lit_10, lit_11, lit_12, lit_13, lit_14, lit_15, lit_16, lit_17, lit_18, lit_19, lit_20, lit_21, lit_22, lit_23, lit_24, lit_25, lit_26, lit_27, lit_28, lit_29, lit_30, lit_31, lit_32, lit_33, lit_34, lit_35, lit_36, lit_37, lit_38, lit_39, lit_40, lit_41, lit_42, lit_43, lit_44, lit_45, lit_46, lit_47, lit_48, lit_49, lit_50, lit_51, lit_52, lit_53, lit_54, lit_55, lit_56, lit_57, lit_58, lit_59, lit_60, lit_61, lit_62, lit_63, lit_64, lit_97, lit_99, lit_100, lit_122, lit_175, lit_176, lit_200, lit_255, lit_400, lit_700, lit_800, lit_999, lit_1000, lit_1400, lit_2000, lit_2033, lit_2038, lit_2100, lit_2124, lit_8000, lit_10000, lit_12345, lit_32767, lit_1000000, lit_1000000000, ↓bndX_h, ↓bndK_h, bxh_inl, bxh_inr, bkh_inl, bkh_inr, Nat.reduceEqDiff, ↓bnd_h, ↓lt_h, ↓ite_h, bh_some, lh_eq, ih_T, ih_F, ne_eq, not_false_eq_true, not_true_eq_false, eq_self, and_true, true_and, io_def, io_add, io_mul, io_sub, io_lt, io_le, io_eq, io_clamp, io_inbT, io_div, io_mod, io_m1, m1_io, m1_lt, m1_le, neg_1, gI_m1]
      exact rr
/-- the luck of a gate is no part of the state -/
theorem ICp.luck {M M' : Mem} {R : Nat → Nat} {V : VV} (h : ICp M R V) (hI0 : ∀ o k, o ≤ 40 → o ≠ 11 → o ≠ 25 → mI M' o k = mI M o k) (hR : ∀ o k, o ≤ 40 → mR M' o k = mR M o k) : ICp M' R V := by
  obtain ⟨h1, h2, h3, h4, h5, h6, h7, h8, h9⟩ := h
  refine ⟨h1.keep hR, h2.keep hR, fun g hg => ?_, ?_, fun i hi => ?_, fun q i hi => ?_, ?_, fun k hk => ?_, ?_⟩
  · obtain ⟨a1, a2, a3, a4⟩ := h3 g hg
    obtain ⟨i1, i2, i3, -⟩ := ids h2 hg
    exact ⟨a1.keep (fun j hj k => hI0 _ _ (by omega) (by omega) (by omega)), a2.keep (fun k => hI0 _ _ (by omega) (by omega) (by omega)), a3.keep (fun j hj k => hI0 _ _ (by omega) (by omega) (by omega)), fun q => (a4 q).keep (fun j hj k => hI0 _ _ (by omega) (by omega) (by omega))⟩
  · rw [hI0 _ _ (by omega) (by omega) (by omega)]; exact h4
  · rw [hI0 _ _ (by omega) (by omega) (by omega)]; exact h5 i hi
  · rw [hI0 _ _ (by omega) (by omega) (by omega)]; exact h6 q i hi
  · rw [hI0 _ _ (by omega) (by omega) (by omega)]; exact h7
  · rw [hI0 _ _ (by omega) (by omega) (by omega)]; exact h8 k hk
  · rw [hI0 _ _ (by omega) (by omega) (by omega)]; exact h9
theorem ICp.drawn {M M' : Mem} {R : Nat → Nat} {V : VV} {g : Nat} {b : BV} (h : ICp M R V) (hg : g < 2) (hF : DF g M M') (hb : CB M' (bid g) b) : ICp M' R (setB V g b) := by
  let M1 : Mem := ((fun o k => if o = 11 ∨ o = 25 then mI M' o k else mI M o k), M.2.1, M.2.2)
  have e1 : ∀ o k, mI M1 o k = if o = 11 ∨ o = 25 then mI M' o k else mI M o k := fun _ _ => rfl
  have h1 : ICp M1 R V := h.luck (fun o k _ h2 h3 => by rw [e1, if_neg (by omega)]) (fun _ _ _ => rfl)
  have hgi : gid g = 11 ∨ gid g = 25 := by unfold gid; split <;> simp
  refine h1.setB hg (fun o k ho ho2 => ?_) (fun o k _ => hF.2.1 o k) hb
  rw [e1]
  by_cases q : o = 11 ∨ o = 25
  · rw [if_pos q]
  · rw [if_neg q]
    exact hF.1 o k ho2 (by omega) (by omega)
/-! the reference -/
def ownD (g o k : Nat) : Prop := ownB g o k ∨ o = 92 ∨ (o = 72 ∧ k = 48)
def OffD (g : Nat) (N N' : Mem) : Prop := (∀ o k, ¬ ownD g o k → mI N' o k = mI N o k) ∧ (∀ o k, mR N' o k = mR N o k) ∧ ∀ o k, (o < 72 ∨ 110 < o) → mL N' o k = mL N o k
theorem OffD.refl {g : Nat} {N : Mem} : OffD g N N := ⟨fun _ _ _ => rfl, fun _ _ => rfl, fun _ _ _ => rfl⟩
theorem OffD.trans {g : Nat} {M M1 M2 : Mem} (h : OffD g M M1) (h' : OffD g M1 M2) : OffD g M M2 :=
  ⟨fun o k a => (h'.1 o k a).trans (h.1 o k a), fun o k => (h'.2.1 o k).trans (h.2.1 o k), fun o k a => (h'.2.2 o k a).trans (h.2.2 o k a)⟩
theorem OffD.sI {g o k : Nat} {N N' : Mem} {x : Int32} (h : OffD g N N') (ho : ownD g o k) : OffD g N (sI N' o k x) :=
  ⟨fun a j q => by rw [mI_sI, if_neg (fun z => q (by rw [z.1, z.2]; exact ho))]; exact h.1 a j q, h.2.1, h.2.2⟩
theorem OffB.D {g : Nat} {N N' : Mem} (h : OffB g N N') : OffD g N N' := ⟨fun o k a => h.1 o k (fun z => a (Or.inl z)), h.2.1, fun o k _ => h.2.2 o k⟩
theorem OffD.of {g : Nat} {N N' : Mem} (h : Fg [(92, 92)] [] N N') : OffD g N N' :=
  ⟨fun o k a => h.I (ob_1of (by unfold ownD at a; omega)), fun o k => h.2.2 o rfl k, fun o k a => h.L (ob_1of (by omega)) (by omega)⟩
theorem OffD.MV {g : Nat} {N N' : Mem} {v : GV} {sv : SV} (h : OffD g N N') (hM : MV N g v sv) : MV N' g v sv := by
  refine ⟨fun t ht => by rw [h.2.1]; exact hM.1 t ht, hM.2.1.keep (fun o h1 h2 k => h.1 _ _ ?_), hM.2.2.keep (fun k => h.1 _ _ ?_)⟩
  · unfold ownD ownB; omega
  · unfold ownD ownB; omega
theorem IM.drawn {N N' : Mem} {V : VV} {g : Nat} {b : BV} (hV : okV V) (h : IM N V) (hg : g < 2) (hF : OffD g N N') (hb : MBk N' 83 g b) : IM N' (setB V g b) := by
  let N1 : Mem := ((fun o k => if o = 92 ∨ (o = 72 ∧ k = 48) then mI N' o k else mI N o k), N'.2.1, N.2.2)
  have e1 : ∀ o k, mI N1 o k = if o = 92 ∨ (o = 72 ∧ k = 48) then mI N' o k else mI N o k := fun _ _ => rfl
  have h1 : IM N1 V := h.keep (fun o k h2 h3 h4 h5 => by rw [e1, if_neg (by omega)]) (fun _ _ _ => rfl)
  refine h1.setB hV hg ⟨fun o k ho => ?_, fun o k => hF.2.1 o k, fun o k => rfl⟩ hb
  rw [e1]
  by_cases q : o = 92 ∨ (o = 72 ∧ k = 48)
  · rw [if_pos q]
  · rw [if_neg q]
    exact hF.1 o k (fun z => z.elim ho q)
/-- the reference's state among persons -/
def DM (N0 : Mem) (g : Nat) (v : GV) (sv : SV) (D : DV) (N : Mem) : Prop := MV N g v sv ∧ MBk N 83 g D.2.1 ∧ mI N 72 48 = D.1 ∧ mI N 72 2 = io 0 ∧ OffD g N0 N
theorem m_draw {N : Mem} {n : Nat} {L : Int32} (hL : mI N 72 48 = L) (hn : 0 < n) (hn2 : n < 2147483648) : zX12_draw 72 (io n) N = some (io (dwN (dwL L) n), sI N 72 48 (dwL L)) := by
  have e1 : mI (sI N 72 48 (dwL L)) 72 48 = dwL L := by rw [mI_sI, if_pos ⟨rfl, rfl⟩]
  have e2 : L * 1103515245 + io 12345 = dwL L := rfl
  have hb := bitsN_lt (dwL L) 16 (b := 15) (by omega)
  have hne2 : ¬ n = 0 := by omega
  unfold zX12_draw dwN
  simp -dsimp (disch := first | assumption | omega) only [lit_0, lit_1, lit_2, lit_3, lit_4, lit_5, lit_6, lit_7, lit_8, lit_9, lit_10, lit_11, lit_12, lit_13, lit_14, lit_15, lit_16, lit_17, lit_18, lit_19, lit_20, lit_21, lit_22, lit_23, lit_24, lit_25, lit_26, lit_27, lit_28, lit_29, lit_30, lit_31, lit_32, lit_33, lit_34, lit_35, lit_36, lit_37, lit_38, lit_39, lit_40, lit_41, lit_42, lit_43, lit_44, lit_45, lit_46, lit_47, lit_48, lit_49, lit_50, lit_51, lit_52, lit_53, lit_54, lit_55, lit_56, lit_57, lit_58, lit_59, lit_60, lit_61, lit_62, lit_63, lit_64, lit_97, lit_99, lit_100, lit_122, lit_175, lit_176, lit_200, lit_255, lit_400, lit_700, lit_800, lit_999, lit_1000, lit_1400, lit_2000, lit_2033, lit_2038, lit_2100, lit_2124, lit_8000, lit_10000, lit_12345, lit_32767, lit_1000000, lit_1000000000, ↓bndX_h, ↓bndK_h, bxh_inl, bxh_inr, bkh_inl, bkh_inr, Nat.reduceEqDiff, ↓bnd_h, ↓lt_h, ↓ite_h, bh_some, lh_eq, ih_T, ih_F, ne_eq, not_false_eq_true, not_true_eq_false, eq_self, and_true, true_and, io_def, K0_72, hL, e2, io_le, io_eq, hne2, e1, dw_s, io_mod]
theorem DM.luck {N0 N : Mem} {g : Nat} {v : GV} {sv : SV} {D : DV} {L : Int32} (hg : g < 2) (hb : bLe D.2.1 ≤ 200) (h : DM N0 g v sv D N) : DM N0 g v sv (L, D.2.1, D.2.2) (sI N 72 48 L) := by
  obtain ⟨h1, h2, h3, h4, h5⟩ := h
  have hO : OffD g N (sI N 72 48 L) := OffD.refl.sI (Or.inr (Or.inr ⟨rfl, rfl⟩))
  refine ⟨hO.MV h1, h2.keep hg hb (fun j h1 _ => by rw [mI_sI, if_neg (by omega)]) (fun k _ _ => by rw [mI_sI, if_neg (by omega)]) (fun k _ _ => by rw [mI_sI, if_neg (by omega)]), by rw [mI_sI, if_pos ⟨rfl, rfl⟩], by rw [mI_sI, if_neg (by omega)]; exact h4, h5.trans hO⟩
theorem m_thief {N0 N : Mem} {g k n : Nat} {v : GV} {sv : SV} {D : DV} {x4 : Int32} {KK : Nat → Int32 → Int32 → Int32 → Int32 → Mem → Option (Int32 × Mem)} {Q : Int32 → Mem → Prop} (hg : g < 2) (hv : okG v) (hb : okB v D.2.1) (hk : k ≤ 400) (h : DM N0 g v sv D N)
    (hK : ∀ N', DM N0 g v sv (if (k + 1) % 10 = 0 then thS v D else D) N' → Wp (KK 72 (io g) (io n) x4 (io (k + 1 + 1)) N') Q) : Wp (zX12_drawn_B161 KK 72 (io g) (io n) x4 (io (k + 1)) N) Q := by
  have hle := hb.2.2.1
  have h0 := h
  obtain ⟨h1, h2, h3, h4, h5⟩ := h
  have hP := h1.1
  obtain ⟨b0, b1, b2, b3, b4, b5, b6⟩ := h2
  simp only [Nat.reduceAdd] at b3 b4
  have hch : gCh v ≤ 100 := hv.2.2.1
  obtain ⟨-, -, c5, c6, -⟩ := h1.2.1
  have hth : thS v D = if bBo D.2.1 < io (gBo v) then D else (dwL D.1, (if gCh v ≤ dwN (dwL D.1) 100 then D.2.1 else bStl D.2.1), D.2.2) := rfl
  unfold zX12_drawn_B161 zX12_drawn_B232
  simp -dsimp (disch := first | assumption | omega) only [lit_0, lit_1, lit_2, lit_3, lit_4, lit_5, lit_6, lit_7, lit_8, lit_9, lit_10, lit_11, lit_12, lit_13, lit_14, lit_15, lit_16, lit_17, lit_18, lit_19, lit_20, lit_21, lit_22, lit_23, lit_24, lit_25, lit_26, lit_27, lit_28, lit_29, lit_30, lit_31, lit_32, lit_33, lit_34, lit_35, lit_36, lit_37, lit_38, lit_39, lit_40, lit_41, lit_42, lit_43, lit_44, lit_45, lit_46, lit_47, lit_48, lit_49, lit_50, lit_51, lit_52, lit_53, lit_54, lit_55, lit_56, lit_57, lit_58, lit_59, lit_60, lit_61, lit_62, lit_63, lit_64, lit_97, lit_99, lit_100, lit_122, lit_175, lit_176, lit_200, lit_255, lit_400, lit_700, lit_800, lit_999, lit_1000, lit_1400, lit_2000, lit_2033, lit_2038, lit_2100, lit_2124, lit_8000, lit_10000, lit_12345, lit_32767, lit_1000000, lit_1000000000, ↓bndX_h, ↓bndK_h, bxh_inl, bxh_inr, bkh_inl, bkh_inr, Nat.reduceEqDiff, ↓bnd_h, ↓lt_h, ↓ite_h, bh_some, lh_eq, ih_T, ih_F, ne_eq, not_false_eq_true, not_true_eq_false, eq_self, and_true, true_and, io_def, io_add, io_mul, io_sub, io_lt, io_le, io_eq, io_clamp, io_inbT, io_div, io_mod, io_m1, m1_io, m1_lt, m1_le, neg_1, gI_m1]
  refine Wp.csh (fun q => ?_) (fun q => ?_)
  · rw [if_pos q] at hK
    simp -dsimp (disch := first | assumption | omega) only [lit_0, lit_1, lit_2, lit_3, lit_4, lit_5, lit_6, lit_7, lit_8, lit_9, lit_10, lit_11, lit_12, lit_13, lit_14, lit_15, lit_16, lit_17, lit_18, lit_19, lit_20, lit_21, lit_22, lit_23, lit_24, lit_25, lit_26, lit_27, lit_28, lit_29, lit_30, lit_31, lit_32, lit_33, lit_34, lit_35, lit_36, lit_37, lit_38, lit_39, lit_40, lit_41, lit_42, lit_43, lit_44, lit_45, lit_46, lit_47, lit_48, lit_49, lit_50, lit_51, lit_52, lit_53, lit_54, lit_55, lit_56, lit_57, lit_58, lit_59, lit_60, lit_61, lit_62, lit_63, lit_64, lit_97, lit_99, lit_100, lit_122, lit_175, lit_176, lit_200, lit_255, lit_400, lit_700, lit_800, lit_999, lit_1000, lit_1400, lit_2000, lit_2033, lit_2038, lit_2100, lit_2124, lit_8000, lit_10000, lit_12345, lit_32767, lit_1000000, lit_1000000000, ↓bndX_h, ↓bndK_h, bxh_inl, bxh_inr, bkh_inl, bkh_inr, Nat.reduceEqDiff, ↓bnd_h, ↓lt_h, ↓ite_h, bh_some, lh_eq, ih_T, ih_F, ne_eq, not_false_eq_true, not_true_eq_false, eq_self, and_true, true_and, io_def, io_add, io_mul, io_sub, io_lt, io_le, io_eq, io_clamp, io_inbT, io_div, io_mod, io_m1, m1_io, m1_lt, m1_le, neg_1, gI_m1, PM.p0, PM.p1, PM.p3, PM.p4, PM.p5, PM.p6, PM.p7, PM.p8, PM.p9, PM.p10, PM.p11, PM.p12, PM.p13, PM.p14, PM.p15, PM.p16, PM.p17, PM.p18, PM.p19, PM.p31, PM.p32, PM.p33, PM.p34, PM.p38, PM.p39, PM.p40, PM.p41, PM.p42, PM.p46, PM.p47, PM.p50, PM.p51, PM.p52, PM.p53, PM.p54, PM.p55, PM.p56, PM.p57, K0_1, K0_2, K0_3, K0_4, K0_5, K0_6, K0_7, K0_8, K0_9, K0_10, K0_11, K0_12, K0_13, K0_14, K0_15, K0_16, K0_17, K0_18, K0_19, K0_20, K0_21, K0_22, K0_23, K0_24, K0_25, K0_26, K0_27, K0_28, K0_29, K0_30, K0_31, K0_32, K0_33, K0_34, K0_35, K0_36, K0_37, K0_38, K0_39, K0_40, K0_41, K0_42, K0_43, K0_44, K0_45, K0_46, K0_47, K0_48, K0_49, K0_50, K0_51, K0_52, K0_53, K0_54, K0_55, K0_56, K0_57, K0_58, K0_59, K0_60, K0_61, K0_62, K0_63, K0_64, K0_65, K0_66, K0_67, K0_68, K0_69, K0_70, K0_71, K0_72, K0_73, K0_74, K0_75, K0_76, K0_77, K0_78, K0_79, K0_80, K0_81, K0_82, K0_83, K0_84, K0_85, K0_86, K0_87, K0_88, K0_89, K0_90, K0_91, K0_92, K0_93, K0_94, K0_95, K0_96, K0_97, K0_98, K0_99, K0_100, K0_101, K0_102, K0_103, K0_104, K0_105, K0_106, K0_107, K0_108, K0_109, K0_110, K0_111, hP, b3, c6]
    refine Wp.csh (fun q2 => ?_) (fun q2 => ?_)
    · rw [if_pos q2] at hth
      simp -dsimp (disch := first | assumption | omega) only [lit_0, lit_1, lit_2, lit_3, lit_4, lit_5, lit_6, lit_7, lit_8, lit_9, lit_10, lit_11, lit_12, lit_13, lit_14, lit_15, lit_16, lit_17, lit_18, lit_19, lit_20, lit_21, lit_22, lit_23, lit_24, lit_25, lit_26, lit_27, lit_28, lit_29, lit_30, lit_31, lit_32, lit_33, lit_34, lit_35, lit_36, lit_37, lit_38, lit_39, lit_40, lit_41, lit_42, lit_43, lit_44, lit_45, lit_46, lit_47, lit_48, lit_49, lit_50, lit_51, lit_52, lit_53, lit_54, lit_55, lit_56, lit_57, lit_58, lit_59, lit_60, lit_61, lit_62, lit_63, lit_64, lit_97, lit_99, lit_100, lit_122, lit_175, lit_176, lit_200, lit_255, lit_400, lit_700, lit_800, lit_999, lit_1000, lit_1400, lit_2000, lit_2033, lit_2038, lit_2100, lit_2124, lit_8000, lit_10000, lit_12345, lit_32767, lit_1000000, lit_1000000000, ↓bndX_h, ↓bndK_h, bxh_inl, bxh_inr, bkh_inl, bkh_inr, Nat.reduceEqDiff, ↓bnd_h, ↓lt_h, ↓ite_h, bh_some, lh_eq, ih_T, ih_F, ne_eq, not_false_eq_true, not_true_eq_false, eq_self, and_true, true_and, io_def, io_add, io_mul, io_sub, io_lt, io_le, io_eq, io_clamp, io_inbT, io_div, io_mod, io_m1, m1_io, m1_lt, m1_le, neg_1, gI_m1, PM.p0, PM.p1, PM.p3, PM.p4, PM.p5, PM.p6, PM.p7, PM.p8, PM.p9, PM.p10, PM.p11, PM.p12, PM.p13, PM.p14, PM.p15, PM.p16, PM.p17, PM.p18, PM.p19, PM.p31, PM.p32, PM.p33, PM.p34, PM.p38, PM.p39, PM.p40, PM.p41, PM.p42, PM.p46, PM.p47, PM.p50, PM.p51, PM.p52, PM.p53, PM.p54, PM.p55, PM.p56, PM.p57, K0_1, K0_2, K0_3, K0_4, K0_5, K0_6, K0_7, K0_8, K0_9, K0_10, K0_11, K0_12, K0_13, K0_14, K0_15, K0_16, K0_17, K0_18, K0_19, K0_20, K0_21, K0_22, K0_23, K0_24, K0_25, K0_26, K0_27, K0_28, K0_29, K0_30, K0_31, K0_32, K0_33, K0_34, K0_35, K0_36, K0_37, K0_38, K0_39, K0_40, K0_41, K0_42, K0_43, K0_44, K0_45, K0_46, K0_47, K0_48, K0_49, K0_50, K0_51, K0_52, K0_53, K0_54, K0_55, K0_56, K0_57, K0_58, K0_59, K0_60, K0_61, K0_62, K0_63, K0_64, K0_65, K0_66, K0_67, K0_68, K0_69, K0_70, K0_71, K0_72, K0_73, K0_74, K0_75, K0_76, K0_77, K0_78, K0_79, K0_80, K0_81, K0_82, K0_83, K0_84, K0_85, K0_86, K0_87, K0_88, K0_89, K0_90, K0_91, K0_92, K0_93, K0_94, K0_95, K0_96, K0_97, K0_98, K0_99, K0_100, K0_101, K0_102, K0_103, K0_104, K0_105, K0_106, K0_107, K0_108, K0_109, K0_110, K0_111]
      exact hK N (by rw [hth]; exact h0)
    · rw [if_neg q2] at hth
      have e1 := m_draw (n := 100) h3 (by omega) (by omega)
      have hd := dwN_lt (L := dwL D.1) (n := 100) (by omega)
      have h0' := h0.luck (L := dwL D.1) hg hle
      simp -dsimp (disch := first | assumption | omega) only [lit_0, lit_1, lit_2, lit_3, lit_4, lit_5, lit_6, lit_7, lit_8, lit_9, lit_10, lit_11, lit_12, lit_13, lit_14, lit_15, lit_16, lit_17, lit_18, lit_19, lit_20, lit_21, lit_22, lit_23, lit_24, lit_25, lit_26, lit_27, lit_28, lit_29, lit_30, lit_31, lit_32, lit_33, lit_34, lit_35, lit_36, lit_37, lit_38, lit_39, lit_40, lit_41, lit_42, lit_43, lit_44, lit_45, lit_46, lit_47, lit_48, lit_49, lit_50, lit_51, lit_52, lit_53, lit_54, lit_55, lit_56, lit_57, lit_58, lit_59, lit_60, lit_61, lit_62, lit_63, lit_64, lit_97, lit_99, lit_100, lit_122, lit_175, lit_176, lit_200, lit_255, lit_400, lit_700, lit_800, lit_999, lit_1000, lit_1400, lit_2000, lit_2033, lit_2038, lit_2100, lit_2124, lit_8000, lit_10000, lit_12345, lit_32767, lit_1000000, lit_1000000000, ↓bndX_h, ↓bndK_h, bxh_inl, bxh_inr, bkh_inl, bkh_inr, Nat.reduceEqDiff, ↓bnd_h, ↓lt_h, ↓ite_h, bh_some, lh_eq, ih_T, ih_F, ne_eq, not_false_eq_true, not_true_eq_false, eq_self, and_true, true_and, io_def, io_add, io_mul, io_sub, io_lt, io_le, io_eq, io_clamp, io_inbT, io_div, io_mod, io_m1, m1_io, m1_lt, m1_le, neg_1, gI_m1, PM.p0, PM.p1, PM.p3, PM.p4, PM.p5, PM.p6, PM.p7, PM.p8, PM.p9, PM.p10, PM.p11, PM.p12, PM.p13, PM.p14, PM.p15, PM.p16, PM.p17, PM.p18, PM.p19, PM.p31, PM.p32, PM.p33, PM.p34, PM.p38, PM.p39, PM.p40, PM.p41, PM.p42, PM.p46, PM.p47, PM.p50, PM.p51, PM.p52, PM.p53, PM.p54, PM.p55, PM.p56, PM.p57, K0_1, K0_2, K0_3, K0_4, K0_5, K0_6, K0_7, K0_8, K0_9, K0_10, K0_11, K0_12, K0_13, K0_14, K0_15, K0_16, K0_17, K0_18, K0_19, K0_20, K0_21, K0_22, K0_23, K0_24, K0_25, K0_26, K0_27, K0_28, K0_29, K0_30, K0_31, K0_32, K0_33, K0_34, K0_35, K0_36, K0_37, K0_38, K0_39, K0_40, K0_41, K0_42, K0_43, K0_44, K0_45, K0_46, K0_47, K0_48, K0_49, K0_50, K0_51, K0_52, K0_53, K0_54, K0_55, K0_56, K0_57, K0_58, K0_59, K0_60, K0_61, K0_62, K0_63, K0_64, K0_65, K0_66, K0_67, K0_68, K0_69, K0_70, K0_71, K0_72, K0_73, K0_74, K0_75, K0_76, K0_77, K0_78, K0_79, K0_80, K0_81, K0_82, K0_83, K0_84, K0_85, K0_86, K0_87, K0_88, K0_89, K0_90, K0_91, K0_92, K0_93, K0_94, K0_95, K0_96, K0_97, K0_98, K0_99, K0_100, K0_101, K0_102, K0_103, K0_104, K0_105, K0_106, K0_107, K0_108, K0_109, K0_110, K0_111, e1]
      generalize sI N 72 48 (dwL D.1) = N1 at h0' ⊢
      generalize dwN (dwL D.1) 100 = d at hd hth ⊢
      obtain ⟨h1', h2', h3', h4', h5'⟩ := h0'
      have hP' := h1'.1
      have c5' := h1'.2.1.2.2.1
      simp -dsimp (disch := first | assumption | omega) only [lit_0, lit_1, lit_2, lit_3, lit_4, lit_5, lit_6, lit_7, lit_8, lit_9, lit_10, lit_11, lit_12, lit_13, lit_14, lit_15, lit_16, lit_17, lit_18, lit_19, lit_20, lit_21, lit_22, lit_23, lit_24, lit_25, lit_26, lit_27, lit_28, lit_29, lit_30, lit_31, lit_32, lit_33, lit_34, lit_35, lit_36, lit_37, lit_38, lit_39, lit_40, lit_41, lit_42, lit_43, lit_44, lit_45, lit_46, lit_47, lit_48, lit_49, lit_50, lit_51, lit_52, lit_53, lit_54, lit_55, lit_56, lit_57, lit_58, lit_59, lit_60, lit_61, lit_62, lit_63, lit_64, lit_97, lit_99, lit_100, lit_122, lit_175, lit_176, lit_200, lit_255, lit_400, lit_700, lit_800, lit_999, lit_1000, lit_1400, lit_2000, lit_2033, lit_2038, lit_2100, lit_2124, lit_8000, lit_10000, lit_12345, lit_32767, lit_1000000, lit_1000000000, ↓bndX_h, ↓bndK_h, bxh_inl, bxh_inr, bkh_inl, bkh_inr, Nat.reduceEqDiff, ↓bnd_h, ↓lt_h, ↓ite_h, bh_some, lh_eq, ih_T, ih_F, ne_eq, not_false_eq_true, not_true_eq_false, eq_self, and_true, true_and, io_def, io_add, io_mul, io_sub, io_lt, io_le, io_eq, io_clamp, io_inbT, io_div, io_mod, io_m1, m1_io, m1_lt, m1_le, neg_1, gI_m1, PM.p0, PM.p1, PM.p3, PM.p4, PM.p5, PM.p6, PM.p7, PM.p8, PM.p9, PM.p10, PM.p11, PM.p12, PM.p13, PM.p14, PM.p15, PM.p16, PM.p17, PM.p18, PM.p19, PM.p31, PM.p32, PM.p33, PM.p34, PM.p38, PM.p39, PM.p40, PM.p41, PM.p42, PM.p46, PM.p47, PM.p50, PM.p51, PM.p52, PM.p53, PM.p54, PM.p55, PM.p56, PM.p57, K0_1, K0_2, K0_3, K0_4, K0_5, K0_6, K0_7, K0_8, K0_9, K0_10, K0_11, K0_12, K0_13, K0_14, K0_15, K0_16, K0_17, K0_18, K0_19, K0_20, K0_21, K0_22, K0_23, K0_24, K0_25, K0_26, K0_27, K0_28, K0_29, K0_30, K0_31, K0_32, K0_33, K0_34, K0_35, K0_36, K0_37, K0_38, K0_39, K0_40, K0_41, K0_42, K0_43, K0_44, K0_45, K0_46, K0_47, K0_48, K0_49, K0_50, K0_51, K0_52, K0_53, K0_54, K0_55, K0_56, K0_57, K0_58, K0_59, K0_60, K0_61, K0_62, K0_63, K0_64, K0_65, K0_66, K0_67, K0_68, K0_69, K0_70, K0_71, K0_72, K0_73, K0_74, K0_75, K0_76, K0_77, K0_78, K0_79, K0_80, K0_81, K0_82, K0_83, K0_84, K0_85, K0_86, K0_87, K0_88, K0_89, K0_90, K0_91, K0_92, K0_93, K0_94, K0_95, K0_96, K0_97, K0_98, K0_99, K0_100, K0_101, K0_102, K0_103, K0_104, K0_105, K0_106, K0_107, K0_108, K0_109, K0_110, K0_111, c5']
      refine Wp.csh (fun q3 => ?_) (fun q3 => ?_)
      · rw [if_pos q3] at hth
        simp -dsimp (disch := first | assumption | omega) only [lit_0, lit_1, lit_2, lit_3, lit_4, lit_5, lit_6, lit_7, lit_8, lit_9, lit_10, lit_11, lit_12, lit_13, lit_14, lit_15, lit_16, lit_17, lit_18, lit_19, lit_20, lit_21, lit_22, lit_23, lit_24, lit_25, lit_26, lit_27, lit_28, lit_29, lit_30, lit_31, lit_32, lit_33, lit_34, lit_35, lit_36, lit_37, lit_38, lit_39, lit_40, lit_41, lit_42, lit_43, lit_44, lit_45, lit_46, lit_47, lit_48, lit_49, lit_50, lit_51, lit_52, lit_53, lit_54, lit_55, lit_56, lit_57, lit_58, lit_59, lit_60, lit_61, lit_62, lit_63, lit_64, lit_97, lit_99, lit_100, lit_122, lit_175, lit_176, lit_200, lit_255, lit_400, lit_700, lit_800, lit_999, lit_1000, lit_1400, lit_2000, lit_2033, lit_2038, lit_2100, lit_2124, lit_8000, lit_10000, lit_12345, lit_32767, lit_1000000, lit_1000000000, ↓bndX_h, ↓bndK_h, bxh_inl, bxh_inr, bkh_inl, bkh_inr, Nat.reduceEqDiff, ↓bnd_h, ↓lt_h, ↓ite_h, bh_some, lh_eq, ih_T, ih_F, ne_eq, not_false_eq_true, not_true_eq_false, eq_self, and_true, true_and, io_def, io_add, io_mul, io_sub, io_lt, io_le, io_eq, io_clamp, io_inbT, io_div, io_mod, io_m1, m1_io, m1_lt, m1_le, neg_1, gI_m1, PM.p0, PM.p1, PM.p3, PM.p4, PM.p5, PM.p6, PM.p7, PM.p8, PM.p9, PM.p10, PM.p11, PM.p12, PM.p13, PM.p14, PM.p15, PM.p16, PM.p17, PM.p18, PM.p19, PM.p31, PM.p32, PM.p33, PM.p34, PM.p38, PM.p39, PM.p40, PM.p41, PM.p42, PM.p46, PM.p47, PM.p50, PM.p51, PM.p52, PM.p53, PM.p54, PM.p55, PM.p56, PM.p57, K0_1, K0_2, K0_3, K0_4, K0_5, K0_6, K0_7, K0_8, K0_9, K0_10, K0_11, K0_12, K0_13, K0_14, K0_15, K0_16, K0_17, K0_18, K0_19, K0_20, K0_21, K0_22, K0_23, K0_24, K0_25, K0_26, K0_27, K0_28, K0_29, K0_30, K0_31, K0_32, K0_33, K0_34, K0_35, K0_36, K0_37, K0_38, K0_39, K0_40, K0_41, K0_42, K0_43, K0_44, K0_45, K0_46, K0_47, K0_48, K0_49, K0_50, K0_51, K0_52, K0_53, K0_54, K0_55, K0_56, K0_57, K0_58, K0_59, K0_60, K0_61, K0_62, K0_63, K0_64, K0_65, K0_66, K0_67, K0_68, K0_69, K0_70, K0_71, K0_72, K0_73, K0_74, K0_75, K0_76, K0_77, K0_78, K0_79, K0_80, K0_81, K0_82, K0_83, K0_84, K0_85, K0_86, K0_87, K0_88, K0_89, K0_90, K0_91, K0_92, K0_93, K0_94, K0_95, K0_96, K0_97, K0_98, K0_99, K0_100, K0_101, K0_102, K0_103, K0_104, K0_105, K0_106, K0_107, K0_108, K0_109, K0_110, K0_111]
        exact hK N1 (by rw [hth]; exact ⟨h1', h2', h3', h4', h5'⟩)
      · rw [if_neg q3] at hth
        have b3' := h2'.2.2.2.1
        have b4' := h2'.2.2.2.2.1
        simp only [Nat.reduceAdd] at b3' b4'
        have hP'' : PM (sI N1 88 g (bSt D.2.1 + bBo D.2.1)) := hP'
        simp -dsimp (disch := first | assumption | omega) only [lit_0, lit_1, lit_2, lit_3, lit_4, lit_5, lit_6, lit_7, lit_8, lit_9, lit_10, lit_11, lit_12, lit_13, lit_14, lit_15, lit_16, lit_17, lit_18, lit_19, lit_20, lit_21, lit_22, lit_23, lit_24, lit_25, lit_26, lit_27, lit_28, lit_29, lit_30, lit_31, lit_32, lit_33, lit_34, lit_35, lit_36, lit_37, lit_38, lit_39, lit_40, lit_41, lit_42, lit_43, lit_44, lit_45, lit_46, lit_47, lit_48, lit_49, lit_50, lit_51, lit_52, lit_53, lit_54, lit_55, lit_56, lit_57, lit_58, lit_59, lit_60, lit_61, lit_62, lit_63, lit_64, lit_97, lit_99, lit_100, lit_122, lit_175, lit_176, lit_200, lit_255, lit_400, lit_700, lit_800, lit_999, lit_1000, lit_1400, lit_2000, lit_2033, lit_2038, lit_2100, lit_2124, lit_8000, lit_10000, lit_12345, lit_32767, lit_1000000, lit_1000000000, ↓bndX_h, ↓bndK_h, bxh_inl, bxh_inr, bkh_inl, bkh_inr, Nat.reduceEqDiff, ↓bnd_h, ↓lt_h, ↓ite_h, bh_some, lh_eq, ih_T, ih_F, ne_eq, not_false_eq_true, not_true_eq_false, eq_self, and_true, true_and, io_def, io_add, io_mul, io_sub, io_lt, io_le, io_eq, io_clamp, io_inbT, io_div, io_mod, io_m1, m1_io, m1_lt, m1_le, neg_1, gI_m1, PM.p0, PM.p1, PM.p3, PM.p4, PM.p5, PM.p6, PM.p7, PM.p8, PM.p9, PM.p10, PM.p11, PM.p12, PM.p13, PM.p14, PM.p15, PM.p16, PM.p17, PM.p18, PM.p19, PM.p31, PM.p32, PM.p33, PM.p34, PM.p38, PM.p39, PM.p40, PM.p41, PM.p42, PM.p46, PM.p47, PM.p50, PM.p51, PM.p52, PM.p53, PM.p54, PM.p55, PM.p56, PM.p57, K0_1, K0_2, K0_3, K0_4, K0_5, K0_6, K0_7, K0_8, K0_9, K0_10, K0_11, K0_12, K0_13, K0_14, K0_15, K0_16, K0_17, K0_18, K0_19, K0_20, K0_21, K0_22, K0_23, K0_24, K0_25, K0_26, K0_27, K0_28, K0_29, K0_30, K0_31, K0_32, K0_33, K0_34, K0_35, K0_36, K0_37, K0_38, K0_39, K0_40, K0_41, K0_42, K0_43, K0_44, K0_45, K0_46, K0_47, K0_48, K0_49, K0_50, K0_51, K0_52, K0_53, K0_54, K0_55, K0_56, K0_57, K0_58, K0_59, K0_60, K0_61, K0_62, K0_63, K0_64, K0_65, K0_66, K0_67, K0_68, K0_69, K0_70, K0_71, K0_72, K0_73, K0_74, K0_75, K0_76, K0_77, K0_78, K0_79, K0_80, K0_81, K0_82, K0_83, K0_84, K0_85, K0_86, K0_87, K0_88, K0_89, K0_90, K0_91, K0_92, K0_93, K0_94, K0_95, K0_96, K0_97, K0_98, K0_99, K0_100, K0_101, K0_102, K0_103, K0_104, K0_105, K0_106, K0_107, K0_108, K0_109, K0_110, K0_111, b3', b4']
        refine hK _ ?_
        rw [hth]
        have hO : OffB g N1 (sI (sI N1 88 g (bSt D.2.1 + bBo D.2.1)) 87 g (io 0)) := (OffB.refl.sI (by unfold ownB; omega)).sI (by unfold ownB; omega)
        obtain ⟨f0, f1, f2, f3, f4, f5, f6⟩ := h2'
        refine ⟨hO.D.MV h1', ⟨by simp [mI_sI]; exact f0, by simp [mI_sI]; exact f1, by simp [mI_sI]; exact f2, by simp [mI_sI, bStl, bBo], by simp [mI_sI, bStl, bSt, bBo], fun i hi => by simp [mI_sI]; exact f5 i hi, fun j hj => by simp [mI_sI]; exact f6 j hj⟩, ?_, ?_, h5'.trans hO.D⟩
        · rw [mI_sI, if_neg (by omega), mI_sI, if_neg (by omega)]; exact h3'
        · rw [mI_sI, if_neg (by omega), mI_sI, if_neg (by omega)]; exact h4'
  · rw [if_neg q] at hK
    simp -dsimp (disch := first | assumption | omega) only [lit_0, lit_1, lit_2, lit_3, lit_4, lit_5, lit_6, lit_7, lit_8, lit_9, lit_10, lit_11, lit_12, lit_13, lit_14, lit_15, lit_16, lit_17, lit_18, lit_19, lit_20, lit_21, lit_22, lit_23, lit_24, lit_25, lit_26, lit_27, lit_28, lit_29, lit_30, lit_31, lit_32, lit_33, lit_34, lit_35, lit_36, lit_37, lit_38, lit_39, lit_40, lit_41, lit_42, lit_43, lit_44, lit_45, lit_46, lit_47, lit_48, lit_49, lit_50, lit_51, lit_52, lit_53, lit_54, lit_55, lit_56, lit_57, lit_58, lit_59, lit_60, lit_61, lit_62, lit_63, lit_64, lit_97, lit_99, lit_100, lit_122, lit_175, lit_176, lit_200, lit_255, lit_400, lit_700, lit_800, lit_999, lit_1000, lit_1400, lit_2000, lit_2033, lit_2038, lit_2100, lit_2124, lit_8000, lit_10000, lit_12345, lit_32767, lit_1000000, lit_1000000000, ↓bndX_h, ↓bndK_h, bxh_inl, bxh_inr, bkh_inl, bkh_inr, Nat.reduceEqDiff, ↓bnd_h, ↓lt_h, ↓ite_h, bh_some, lh_eq, ih_T, ih_F, ne_eq, not_false_eq_true, not_true_eq_false, eq_self, and_true, true_and, io_def, io_add, io_mul, io_sub, io_lt, io_le, io_eq, io_clamp, io_inbT, io_div, io_mod, io_m1, m1_io, m1_lt, m1_le, neg_1, gI_m1]
    exact hK N h0
theorem m_drawnL {N : Mem} {g n : Nat} {v : GV} {sv : SV} {D : DV} (hg : g < 2) (hv : okG v) (hsv : okS sv) (hn0 : 0 < gN v) (hn : n ≤ 400) (hb : okB v D.2.1) (h : DM N g v sv D N) (hD : D.2.2 = io 0) :
    Wp (zX12_drawn_L55 FU 72 (io g) (io n) (io 0) (io 1) N) (fun y N' => y = (drS v sv D n).2.2 ∧ DM N g v sv (drS v sv D n) N') := by
  have hn8 := okG_n hv
  have hall := allO_pos hv hn0
  have hal2 := allO_le hv
  have hst : zX12_drawn_L55 FU 72 (io g) (io n) (io 0) (io 1) N = zX12_drawn_L55 FU 72 (io g) (io n) (drS v sv D 0).2.2 (io (0 + 1)) N := by
    show _ = zX12_drawn_L55 FU 72 (io g) (io n) D.2.2 (io (0 + 1)) N
    rw [hD]
  rw [hst]
  refine loopW (L := fun f (k : Nat) U => zX12_drawn_L55 f 72 (io g) (io n) (drS v sv D k).2.2 (io (k + 1)) U) (J := fun k U => k ≤ n ∧ DM N g v sv (drS v sv D k) U) (fun k _ => n - k) ?_ FU 0 N ⟨Nat.zero_le _, h⟩ (by rw [FU_val]; omega)
  intro f0 k U ⟨hk, hU⟩ rec0
  show Wp (zX12_drawn_B55 (zX12_drawn_L55 f0) 72 (io g) (io n) (drS v sv D k).2.2 (io (k + 1)) U) _
  have hbk := okB_dr (sv := sv) hv hn0 hb k
  have hth : ∀ E : DV, (thS v E).2.2 = E.2.2 := fun E => by unfold thS; split <;> rfl
  have hw : drS v sv D (k + 1) = if (k + 1) % 10 = 0 then thS v (onS v sv (drS v sv D k)) else onS v sv (drS v sv D k) := rfl
  generalize hE : drS v sv D k = E at hU hbk hw ⊢
  have hon2 : (onS v sv E).2.2 = E.2.2 + io (dxS v sv E - 1) := rfl
  have e2 : (drS v sv D (k + 1)).2.2 = E.2.2 + io (dxS v sv E - 1) := by
    rw [hw, ← hon2]
    split
    · exact hth _
    · rfl
  have hle := hbk.2.2.1
  have e1 := m_oddsOf hg hv hU.1.1 hU.1.2.1
  have e3 := m_draw (n := allO v) hU.2.2.1 hall (by omega)
  have hd := dwN_lt (L := dwL E.1) hall
  have hUl := hU.luck (L := dwL E.1) hg hle
  unfold zX12_drawn_B55
  simp -dsimp (disch := first | assumption | omega) only [lit_0, lit_1, lit_2, lit_3, lit_4, lit_5, lit_6, lit_7, lit_8, lit_9, lit_10, lit_11, lit_12, lit_13, lit_14, lit_15, lit_16, lit_17, lit_18, lit_19, lit_20, lit_21, lit_22, lit_23, lit_24, lit_25, lit_26, lit_27, lit_28, lit_29, lit_30, lit_31, lit_32, lit_33, lit_34, lit_35, lit_36, lit_37, lit_38, lit_39, lit_40, lit_41, lit_42, lit_43, lit_44, lit_45, lit_46, lit_47, lit_48, lit_49, lit_50, lit_51, lit_52, lit_53, lit_54, lit_55, lit_56, lit_57, lit_58, lit_59, lit_60, lit_61, lit_62, lit_63, lit_64, lit_97, lit_99, lit_100, lit_122, lit_175, lit_176, lit_200, lit_255, lit_400, lit_700, lit_800, lit_999, lit_1000, lit_1400, lit_2000, lit_2033, lit_2038, lit_2100, lit_2124, lit_8000, lit_10000, lit_12345, lit_32767, lit_1000000, lit_1000000000, ↓bndX_h, ↓bndK_h, bxh_inl, bxh_inr, bkh_inl, bkh_inr, Nat.reduceEqDiff, ↓bnd_h, ↓lt_h, ↓ite_h, bh_some, lh_eq, ih_T, ih_F, ne_eq, not_false_eq_true, not_true_eq_false, eq_self, and_true, true_and, io_def, io_add, io_mul, io_sub, io_lt, io_le, io_eq, io_clamp, io_inbT, io_div, io_mod, io_m1, m1_io, m1_lt, m1_le, neg_1, gI_m1]
  refine Wp.csh (fun c => ?_) (fun c => ?_)
  · have : k = n := by omega
    subst this
    rw [hE]
    exact Wp.ret ⟨rfl, hU⟩
  simp -dsimp (disch := first | assumption | omega) only [lit_0, lit_1, lit_2, lit_3, lit_4, lit_5, lit_6, lit_7, lit_8, lit_9, lit_10, lit_11, lit_12, lit_13, lit_14, lit_15, lit_16, lit_17, lit_18, lit_19, lit_20, lit_21, lit_22, lit_23, lit_24, lit_25, lit_26, lit_27, lit_28, lit_29, lit_30, lit_31, lit_32, lit_33, lit_34, lit_35, lit_36, lit_37, lit_38, lit_39, lit_40, lit_41, lit_42, lit_43, lit_44, lit_45, lit_46, lit_47, lit_48, lit_49, lit_50, lit_51, lit_52, lit_53, lit_54, lit_55, lit_56, lit_57, lit_58, lit_59, lit_60, lit_61, lit_62, lit_63, lit_64, lit_97, lit_99, lit_100, lit_122, lit_175, lit_176, lit_200, lit_255, lit_400, lit_700, lit_800, lit_999, lit_1000, lit_1400, lit_2000, lit_2033, lit_2038, lit_2100, lit_2124, lit_8000, lit_10000, lit_12345, lit_32767, lit_1000000, lit_1000000000, ↓bndX_h, ↓bndK_h, bxh_inl, bxh_inr, bkh_inl, bkh_inr, Nat.reduceEqDiff, ↓bnd_h, ↓lt_h, ↓ite_h, bh_some, lh_eq, ih_T, ih_F, ne_eq, not_false_eq_true, not_true_eq_false, eq_self, and_true, true_and, io_def, e1, e3]
  generalize sI U 72 48 (dwL E.1) = U1 at hUl ⊢
  obtain ⟨h1, h2, h3, h4, h5⟩ := hUl
  have hxd0 : dxS v sv E = gfS v sv (srtS (gOd v) (dwN (dwL E.1) (allO v)) (gN v)) (bNo E.2.1) := rfl
  have hx10 := dx_le (sv := sv) hv hn0 hbk
  have hon : onS v sv E = (dwL E.1, (if dxS v sv E = 0 then E.2.1 else bAdd (bGive E.2.1 (gSi v) (dxS v sv E - 1)) (dxS v sv E - 1)), E.2.2 + io (dxS v sv E - 1)) := rfl
  generalize dwN (dwL E.1) (allO v) = d at hd hxd0 ⊢
  generalize dxS v sv E = x at hx10 hxd0 hon e2 hon2
  have hst2 : zX12_drawn_L75 (zX12_drawn_L55 f0) FU 72 (io g) (io n) E.2.2 (io (k + 1)) (io d) (io 0) U1 = zX12_drawn_L75 (zX12_drawn_L55 f0) FU 72 (io g) (io n) E.2.2 (io (k + 1)) (io (d - sumN 0 (gOd v))) (io 0) U1 := rfl
  rw [hst2]
  refine loopW (L := fun f (s : Nat) Y => zX12_drawn_L75 (zX12_drawn_L55 f0) f 72 (io g) (io n) E.2.2 (io (k + 1)) (io (d - sumN s (gOd v))) (io s) Y) (J := fun s Y => s < gN v ∧ sumN s (gOd v) ≤ d ∧ Y = U1) (fun s _ => gN v - s) ?_ FU 0 U1 ⟨hn0, Nat.zero_le _, rfl⟩ (by rw [FU_val]; omega)
  intro f s Y ⟨hs, hsum, hY⟩ rec
  subst hY
  show Wp (zX12_drawn_B75 (zX12_drawn_L55 f0) (zX12_drawn_L75 (zX12_drawn_L55 f0) f) 72 (io g) (io n) E.2.2 (io (k + 1)) (io (d - sumN s (gOd v))) (io s) Y) _
  have hP := h1.1
  have d1 := (h1.2.1.2.2.2.2.1 s hs).1
  have ho := okG_od hv hs
  have hw2 : sumN (s + 1) (gOd v) = sumN s (gOd v) + gOd v s := rfl
  unfold zX12_drawn_B75
  simp -dsimp (disch := first | assumption | omega) only [lit_0, lit_1, lit_2, lit_3, lit_4, lit_5, lit_6, lit_7, lit_8, lit_9, lit_10, lit_11, lit_12, lit_13, lit_14, lit_15, lit_16, lit_17, lit_18, lit_19, lit_20, lit_21, lit_22, lit_23, lit_24, lit_25, lit_26, lit_27, lit_28, lit_29, lit_30, lit_31, lit_32, lit_33, lit_34, lit_35, lit_36, lit_37, lit_38, lit_39, lit_40, lit_41, lit_42, lit_43, lit_44, lit_45, lit_46, lit_47, lit_48, lit_49, lit_50, lit_51, lit_52, lit_53, lit_54, lit_55, lit_56, lit_57, lit_58, lit_59, lit_60, lit_61, lit_62, lit_63, lit_64, lit_97, lit_99, lit_100, lit_122, lit_175, lit_176, lit_200, lit_255, lit_400, lit_700, lit_800, lit_999, lit_1000, lit_1400, lit_2000, lit_2033, lit_2038, lit_2100, lit_2124, lit_8000, lit_10000, lit_12345, lit_32767, lit_1000000, lit_1000000000, ↓bndX_h, ↓bndK_h, bxh_inl, bxh_inr, bkh_inl, bkh_inr, Nat.reduceEqDiff, ↓bnd_h, ↓lt_h, ↓ite_h, bh_some, lh_eq, ih_T, ih_F, ne_eq, not_false_eq_true, not_true_eq_false, eq_self, and_true, true_and, io_def, io_add, io_mul, io_sub, io_lt, io_le, io_eq, io_clamp, io_inbT, io_div, io_mod, io_m1, m1_io, m1_lt, m1_le, neg_1, gI_m1, PM.p0, PM.p1, PM.p3, PM.p4, PM.p5, PM.p6, PM.p7, PM.p8, PM.p9, PM.p10, PM.p11, PM.p12, PM.p13, PM.p14, PM.p15, PM.p16, PM.p17, PM.p18, PM.p19, PM.p31, PM.p32, PM.p33, PM.p34, PM.p38, PM.p39, PM.p40, PM.p41, PM.p42, PM.p46, PM.p47, PM.p50, PM.p51, PM.p52, PM.p53, PM.p54, PM.p55, PM.p56, PM.p57, K0_1, K0_2, K0_3, K0_4, K0_5, K0_6, K0_7, K0_8, K0_9, K0_10, K0_11, K0_12, K0_13, K0_14, K0_15, K0_16, K0_17, K0_18, K0_19, K0_20, K0_21, K0_22, K0_23, K0_24, K0_25, K0_26, K0_27, K0_28, K0_29, K0_30, K0_31, K0_32, K0_33, K0_34, K0_35, K0_36, K0_37, K0_38, K0_39, K0_40, K0_41, K0_42, K0_43, K0_44, K0_45, K0_46, K0_47, K0_48, K0_49, K0_50, K0_51, K0_52, K0_53, K0_54, K0_55, K0_56, K0_57, K0_58, K0_59, K0_60, K0_61, K0_62, K0_63, K0_64, K0_65, K0_66, K0_67, K0_68, K0_69, K0_70, K0_71, K0_72, K0_73, K0_74, K0_75, K0_76, K0_77, K0_78, K0_79, K0_80, K0_81, K0_82, K0_83, K0_84, K0_85, K0_86, K0_87, K0_88, K0_89, K0_90, K0_91, K0_92, K0_93, K0_94, K0_95, K0_96, K0_97, K0_98, K0_99, K0_100, K0_101, K0_102, K0_103, K0_104, K0_105, K0_106, K0_107, K0_108, K0_109, K0_110, K0_111, hP, d1]
  refine Wp.csh (fun c2 => ?_) (fun c2 => ?_)
  rotate_left
  · have hs1 : s + 1 < gN v := by
      rcases Nat.lt_or_ge (s + 1) (gN v) with q | q
      · exact q
      · have : s + 1 = gN v := by omega
        have hal : sumN (s + 1) (gOd v) = allO v := by rw [this]; rfl
        omega
    have rr := rec (s + 1) Y ⟨hs1, by omega, rfl⟩ (by omega)
    rw [show d - sumN (s + 1) (gOd v) = d - sumN s (gOd v) - gOd v s by omega] at rr
    have hsb := io_sub (a := d - sumN s (gOd v)) (b := gOd v s) (by omega)
    simp -dsimp (disch := first | assumption | omega) only [lit_0, lit_1, lit_2, lit_3, lit_4, lit_5, lit_6, lit_7, lit_8, lit_9, lit_10, lit_11, lit_12, lit_13, lit_14, lit_15, lit_16, lit_17, lit_18, lit_19, lit_20, lit_21, lit_22, lit_23, lit_24, lit_25, lit_26, lit_27, lit_28, lit_29, lit_30, lit_31, lit_32, lit_33, lit_34, lit_35, lit_36, lit_37, lit_38, lit_39, lit_40, lit_41, lit_42, lit_43, lit_44, lit_45, lit_46, lit_47, lit_48, lit_49, lit_50, lit_51, lit_52, lit_53, lit_54, lit_55, lit_56, lit_57, lit_58, lit_59, lit_60, lit_61, lit_62, lit_63, lit_64, lit_97, lit_99, lit_100, lit_122, lit_175, lit_176, lit_200, lit_255, lit_400, lit_700, lit_800, lit_999, lit_1000, lit_1400, lit_2000, lit_2033, lit_2038, lit_2100, lit_2124, lit_8000, lit_10000, lit_12345, lit_32767, lit_1000000, lit_1000000000, ↓bndX_h, ↓bndK_h, bxh_inl, bxh_inr, bkh_inl, bkh_inr, Nat.reduceEqDiff, ↓bnd_h, ↓lt_h, ↓ite_h, bh_some, lh_eq, ih_T, ih_F, ne_eq, not_false_eq_true, not_true_eq_false, eq_self, and_true, true_and, io_def, io_add, io_mul, io_sub, io_lt, io_le, io_eq, io_clamp, io_inbT, io_div, io_mod, io_m1, m1_io, m1_lt, m1_le, neg_1, gI_m1, PM.p0, PM.p1, PM.p3, PM.p4, PM.p5, PM.p6, PM.p7, PM.p8, PM.p9, PM.p10, PM.p11, PM.p12, PM.p13, PM.p14, PM.p15, PM.p16, PM.p17, PM.p18, PM.p19, PM.p31, PM.p32, PM.p33, PM.p34, PM.p38, PM.p39, PM.p40, PM.p41, PM.p42, PM.p46, PM.p47, PM.p50, PM.p51, PM.p52, PM.p53, PM.p54, PM.p55, PM.p56, PM.p57, K0_1, K0_2, K0_3, K0_4, K0_5, K0_6, K0_7, K0_8, K0_9, K0_10, K0_11, K0_12, K0_13, K0_14, K0_15, K0_16, K0_17, K0_18, K0_19, K0_20, K0_21, K0_22, K0_23, K0_24, K0_25, K0_26, K0_27, K0_28, K0_29, K0_30, K0_31, K0_32, K0_33, K0_34, K0_35, K0_36, K0_37, K0_38, K0_39, K0_40, K0_41, K0_42, K0_43, K0_44, K0_45, K0_46, K0_47, K0_48, K0_49, K0_50, K0_51, K0_52, K0_53, K0_54, K0_55, K0_56, K0_57, K0_58, K0_59, K0_60, K0_61, K0_62, K0_63, K0_64, K0_65, K0_66, K0_67, K0_68, K0_69, K0_70, K0_71, K0_72, K0_73, K0_74, K0_75, K0_76, K0_77, K0_78, K0_79, K0_80, K0_81, K0_82, K0_83, K0_84, K0_85, K0_86, K0_87, K0_88, K0_89, K0_90, K0_91, K0_92, K0_93, K0_94, K0_95, K0_96, K0_97, K0_98, K0_99, K0_100, K0_101, K0_102, K0_103, K0_104, K0_105, K0_106, K0_107, K0_108, K0_109, K0_110, K0_111, hsb]
    exact rr
  have hsr : srtS (gOd v) d (gN v) = s := srt_eq hsum (by omega) _ hs
  rw [hsr] at hxd0
  have b84 := h2.2.1
  simp only [Nat.reduceAdd] at b84
  simp -dsimp (disch := first | assumption | omega) only [lit_0, lit_1, lit_2, lit_3, lit_4, lit_5, lit_6, lit_7, lit_8, lit_9, lit_10, lit_11, lit_12, lit_13, lit_14, lit_15, lit_16, lit_17, lit_18, lit_19, lit_20, lit_21, lit_22, lit_23, lit_24, lit_25, lit_26, lit_27, lit_28, lit_29, lit_30, lit_31, lit_32, lit_33, lit_34, lit_35, lit_36, lit_37, lit_38, lit_39, lit_40, lit_41, lit_42, lit_43, lit_44, lit_45, lit_46, lit_47, lit_48, lit_49, lit_50, lit_51, lit_52, lit_53, lit_54, lit_55, lit_56, lit_57, lit_58, lit_59, lit_60, lit_61, lit_62, lit_63, lit_64, lit_97, lit_99, lit_100, lit_122, lit_175, lit_176, lit_200, lit_255, lit_400, lit_700, lit_800, lit_999, lit_1000, lit_1400, lit_2000, lit_2033, lit_2038, lit_2100, lit_2124, lit_8000, lit_10000, lit_12345, lit_32767, lit_1000000, lit_1000000000, ↓bndX_h, ↓bndK_h, bxh_inl, bxh_inr, bkh_inl, bkh_inr, Nat.reduceEqDiff, ↓bnd_h, ↓lt_h, ↓ite_h, bh_some, lh_eq, ih_T, ih_F, ne_eq, not_false_eq_true, not_true_eq_false, eq_self, and_true, true_and, io_def, io_add, io_mul, io_sub, io_lt, io_le, io_eq, io_clamp, io_inbT, io_div, io_mod, io_m1, m1_io, m1_lt, m1_le, neg_1, gI_m1, PM.p0, PM.p1, PM.p3, PM.p4, PM.p5, PM.p6, PM.p7, PM.p8, PM.p9, PM.p10, PM.p11, PM.p12, PM.p13, PM.p14, PM.p15, PM.p16, PM.p17, PM.p18, PM.p19, PM.p31, PM.p32, PM.p33, PM.p34, PM.p38, PM.p39, PM.p40, PM.p41, PM.p42, PM.p46, PM.p47, PM.p50, PM.p51, PM.p52, PM.p53, PM.p54, PM.p55, PM.p56, PM.p57, K0_1, K0_2, K0_3, K0_4, K0_5, K0_6, K0_7, K0_8, K0_9, K0_10, K0_11, K0_12, K0_13, K0_14, K0_15, K0_16, K0_17, K0_18, K0_19, K0_20, K0_21, K0_22, K0_23, K0_24, K0_25, K0_26, K0_27, K0_28, K0_29, K0_30, K0_31, K0_32, K0_33, K0_34, K0_35, K0_36, K0_37, K0_38, K0_39, K0_40, K0_41, K0_42, K0_43, K0_44, K0_45, K0_46, K0_47, K0_48, K0_49, K0_50, K0_51, K0_52, K0_53, K0_54, K0_55, K0_56, K0_57, K0_58, K0_59, K0_60, K0_61, K0_62, K0_63, K0_64, K0_65, K0_66, K0_67, K0_68, K0_69, K0_70, K0_71, K0_72, K0_73, K0_74, K0_75, K0_76, K0_77, K0_78, K0_79, K0_80, K0_81, K0_82, K0_83, K0_84, K0_85, K0_86, K0_87, K0_88, K0_89, K0_90, K0_91, K0_92, K0_93, K0_94, K0_95, K0_96, K0_97, K0_98, K0_99, K0_100, K0_101, K0_102, K0_103, K0_104, K0_105, K0_106, K0_107, K0_108, K0_109, K0_110, K0_111, hP, b84]
  refine Wp.seqh (m_gift hg hv hsv hs hbk.2.1 h1) (fun y N2 ⟨a1, a2⟩ => ?_)
  have hxd1 : giftS v sv s (bNo E.2.1) 0 = x := hxd0.symm
  rw [hxd1] at a1
  subst a1
  have hO2 : OffD g Y N2 := OffD.of a2
  have hMV2 : MV N2 g v sv := hO2.MV h1
  have hB2 : MBk N2 83 g E.2.1 := MB_F hg hle h2 a2 (fun o ho => ob_1of (by omega))
  have hl2 : mI N2 72 48 = dwL E.1 := (a2.I rfl).trans h3
  have hc2 : mI N2 72 2 = io 0 := (a2.I rfl).trans h4
  simp -dsimp (disch := first | assumption | omega) only [lit_0, lit_1, lit_2, lit_3, lit_4, lit_5, lit_6, lit_7, lit_8, lit_9, lit_10, lit_11, lit_12, lit_13, lit_14, lit_15, lit_16, lit_17, lit_18, lit_19, lit_20, lit_21, lit_22, lit_23, lit_24, lit_25, lit_26, lit_27, lit_28, lit_29, lit_30, lit_31, lit_32, lit_33, lit_34, lit_35, lit_36, lit_37, lit_38, lit_39, lit_40, lit_41, lit_42, lit_43, lit_44, lit_45, lit_46, lit_47, lit_48, lit_49, lit_50, lit_51, lit_52, lit_53, lit_54, lit_55, lit_56, lit_57, lit_58, lit_59, lit_60, lit_61, lit_62, lit_63, lit_64, lit_97, lit_99, lit_100, lit_122, lit_175, lit_176, lit_200, lit_255, lit_400, lit_700, lit_800, lit_999, lit_1000, lit_1400, lit_2000, lit_2033, lit_2038, lit_2100, lit_2124, lit_8000, lit_10000, lit_12345, lit_32767, lit_1000000, lit_1000000000, ↓bndX_h, ↓bndK_h, bxh_inl, bxh_inr, bkh_inl, bkh_inr, Nat.reduceEqDiff, ↓bnd_h, ↓lt_h, ↓ite_h, bh_some, lh_eq, ih_T, ih_F, ne_eq, not_false_eq_true, not_true_eq_false, eq_self, and_true, true_and, io_def, io_add, io_mul, io_sub, io_lt, io_le, io_eq, io_clamp, io_inbT, io_div, io_mod, io_m1, m1_io, m1_lt, m1_le, neg_1, gI_m1, neg_1, gI_m1]
  refine Wp.csh (fun q => ?_) (fun q => ?_)
  · subst q
    have hDM : DM N g v sv (onS v sv E) N2 := by rw [hon]; exact ⟨hMV2, hB2, hl2, hc2, h5.trans hO2⟩
    refine m_thief hg hv (okB_on hv hn0 hbk) (by omega) hDM (fun N3 h3' => ?_)
    have rr := rec0 (k + 1) N3 ⟨by omega, by rw [hw]; exact h3'⟩ (by omega)
    rw [e2] at rr
    have z0 : E.2.2 + io (0 - 1) = E.2.2 := by
      rw [show io (0 - 1) = (0 : Int32) from rfl, Int32.add_zero]
    rw [z0] at rr
    exact rr
  · rw [if_neg q] at hon
    have hgx : gI x = io (x - 1) := by unfold gI; rw [if_neg q]
    rw [hgx]
    simp -dsimp (disch := first | assumption | omega) only [lit_0, lit_1, lit_2, lit_3, lit_4, lit_5, lit_6, lit_7, lit_8, lit_9, lit_10, lit_11, lit_12, lit_13, lit_14, lit_15, lit_16, lit_17, lit_18, lit_19, lit_20, lit_21, lit_22, lit_23, lit_24, lit_25, lit_26, lit_27, lit_28, lit_29, lit_30, lit_31, lit_32, lit_33, lit_34, lit_35, lit_36, lit_37, lit_38, lit_39, lit_40, lit_41, lit_42, lit_43, lit_44, lit_45, lit_46, lit_47, lit_48, lit_49, lit_50, lit_51, lit_52, lit_53, lit_54, lit_55, lit_56, lit_57, lit_58, lit_59, lit_60, lit_61, lit_62, lit_63, lit_64, lit_97, lit_99, lit_100, lit_122, lit_175, lit_176, lit_200, lit_255, lit_400, lit_700, lit_800, lit_999, lit_1000, lit_1400, lit_2000, lit_2033, lit_2038, lit_2100, lit_2124, lit_8000, lit_10000, lit_12345, lit_32767, lit_1000000, lit_1000000000, ↓bndX_h, ↓bndK_h, bxh_inl, bxh_inr, bkh_inl, bkh_inr, Nat.reduceEqDiff, ↓bnd_h, ↓lt_h, ↓ite_h, bh_some, lh_eq, ih_T, ih_F, ne_eq, not_false_eq_true, not_true_eq_false, eq_self, and_true, true_and, io_def]
    refine Wp.seqh (m_enter hg hv hMV2.1 hMV2.2.1 hB2 hbk (show x - 1 ≤ 9 by omega)) (fun _ N3 ⟨f1, f2, f3⟩ => ?_)
    have hMV3 : MV N3 g v sv := f2.D.MV hMV2
    have hP3 := hMV3.1
    have b3 := f1.2.2.2.1
    simp only [Nat.reduceAdd] at b3
    simp -dsimp (disch := first | assumption | omega) only [lit_0, lit_1, lit_2, lit_3, lit_4, lit_5, lit_6, lit_7, lit_8, lit_9, lit_10, lit_11, lit_12, lit_13, lit_14, lit_15, lit_16, lit_17, lit_18, lit_19, lit_20, lit_21, lit_22, lit_23, lit_24, lit_25, lit_26, lit_27, lit_28, lit_29, lit_30, lit_31, lit_32, lit_33, lit_34, lit_35, lit_36, lit_37, lit_38, lit_39, lit_40, lit_41, lit_42, lit_43, lit_44, lit_45, lit_46, lit_47, lit_48, lit_49, lit_50, lit_51, lit_52, lit_53, lit_54, lit_55, lit_56, lit_57, lit_58, lit_59, lit_60, lit_61, lit_62, lit_63, lit_64, lit_97, lit_99, lit_100, lit_122, lit_175, lit_176, lit_200, lit_255, lit_400, lit_700, lit_800, lit_999, lit_1000, lit_1400, lit_2000, lit_2033, lit_2038, lit_2100, lit_2124, lit_8000, lit_10000, lit_12345, lit_32767, lit_1000000, lit_1000000000, ↓bndX_h, ↓bndK_h, bxh_inl, bxh_inr, bkh_inl, bkh_inr, Nat.reduceEqDiff, ↓bnd_h, ↓lt_h, ↓ite_h, bh_some, lh_eq, ih_T, ih_F, ne_eq, not_false_eq_true, not_true_eq_false, eq_self, and_true, true_and, io_def, io_add, io_mul, io_sub, io_lt, io_le, io_eq, io_clamp, io_inbT, io_div, io_mod, io_m1, m1_io, m1_lt, m1_le, neg_1, gI_m1, PM.p0, PM.p1, PM.p3, PM.p4, PM.p5, PM.p6, PM.p7, PM.p8, PM.p9, PM.p10, PM.p11, PM.p12, PM.p13, PM.p14, PM.p15, PM.p16, PM.p17, PM.p18, PM.p19, PM.p31, PM.p32, PM.p33, PM.p34, PM.p38, PM.p39, PM.p40, PM.p41, PM.p42, PM.p46, PM.p47, PM.p50, PM.p51, PM.p52, PM.p53, PM.p54, PM.p55, PM.p56, PM.p57, K0_1, K0_2, K0_3, K0_4, K0_5, K0_6, K0_7, K0_8, K0_9, K0_10, K0_11, K0_12, K0_13, K0_14, K0_15, K0_16, K0_17, K0_18, K0_19, K0_20, K0_21, K0_22, K0_23, K0_24, K0_25, K0_26, K0_27, K0_28, K0_29, K0_30, K0_31, K0_32, K0_33, K0_34, K0_35, K0_36, K0_37, K0_38, K0_39, K0_40, K0_41, K0_42, K0_43, K0_44, K0_45, K0_46, K0_47, K0_48, K0_49, K0_50, K0_51, K0_52, K0_53, K0_54, K0_55, K0_56, K0_57, K0_58, K0_59, K0_60, K0_61, K0_62, K0_63, K0_64, K0_65, K0_66, K0_67, K0_68, K0_69, K0_70, K0_71, K0_72, K0_73, K0_74, K0_75, K0_76, K0_77, K0_78, K0_79, K0_80, K0_81, K0_82, K0_83, K0_84, K0_85, K0_86, K0_87, K0_88, K0_89, K0_90, K0_91, K0_92, K0_93, K0_94, K0_95, K0_96, K0_97, K0_98, K0_99, K0_100, K0_101, K0_102, K0_103, K0_104, K0_105, K0_106, K0_107, K0_108, K0_109, K0_110, K0_111, b3]
    have hO : OffB g N3 (sI N3 87 g (bBo (bGive E.2.1 (gSi v) (x - 1)) + io (x - 1))) := OffB.refl.sI (by unfold ownB; omega)
    have hDM : DM N g v sv (onS v sv E) (sI N3 87 g (bBo (bGive E.2.1 (gSi v) (x - 1)) + io (x - 1))) := by
      obtain ⟨g0, g1, g2, g3, g4, g5, g6⟩ := f1
      rw [hon]
      refine ⟨hO.D.MV hMV3, ⟨by simp [mI_sI]; exact g0, by simp [mI_sI]; exact g1, by simp [mI_sI]; exact g2, by simp [mI_sI, bAdd, bBo], by simp [mI_sI]; exact g4, fun i hi => by simp [mI_sI]; exact g5 i hi, fun j hj => by simp [mI_sI]; exact g6 j hj⟩, ?_, ?_, ((h5.trans hO2).trans f2.D).trans hO.D⟩
      · rw [mI_sI, if_neg (by omega), f2.1 _ _ (by unfold ownB; omega)]; exact hl2
      · rw [mI_sI, if_neg (by omega), f3]; exact hc2
    refine m_thief hg hv (okB_on hv hn0 hbk) (by omega) hDM (fun N4 h3' => ?_)
    have rr := rec0 (k + 1) N4 ⟨by omega, by rw [hw]; exact h3'⟩ (by omega)
    rw [e2] at rr
    exact rr
theorem op_drawn (a b c : Int32) : OpR 1 (zX11_drawn 1 a b c) (zX12_drawn 72 a b c) := by
  intro M R V hV hIp hIs
  have hP1 := hIp.1
  rcases rg_le a 1 (by omega) with ⟨g, hg, rfl⟩ | h
  · have hg2 : g < 2 := by omega
    obtain ⟨hvg, hvs, hvb, -⟩ := hV.1 g hg2
    have hn8 := okG_n hvg
    have hle := hvb.2.2.1
    obtain ⟨hC, hS, hB, -⟩ := hIp.2.2.1 g hg2
    have r0 := hIp.2.1.r0 hg2
    have hru := hIp.2.1.ru hg2
    have hPR := hP1.PR hru
    have hse := isSe_of hru
    have c0 := hC.1
    rcases rg_in b 1 400 (by omega) (by omega) with ⟨n, hn1, hn, rfl⟩ | hb
    · by_cases hn0 : gN (vG V g) = 0
      · refine ⟨R, V, .inr 1, hV, Nat.le_refl _, ?_, fun N hN => ?_⟩
        · unfold zX11_drawn
          simp -dsimp (disch := first | assumption | omega) only [neg_1, lit_0, lit_1, lit_2, lit_3, lit_4, lit_5, lit_6, lit_7, lit_8, lit_9, lit_10, lit_11, lit_12, lit_13, lit_14, lit_15, lit_16, lit_17, lit_18, lit_19, lit_20, lit_21, lit_22, lit_23, lit_24, lit_25, lit_26, lit_27, lit_28, lit_29, lit_30, lit_31, lit_32, lit_33, lit_34, lit_35, lit_36, lit_37, lit_38, lit_39, lit_40, lit_41, lit_42, lit_43, lit_44, lit_45, lit_46, lit_47, lit_48, lit_49, lit_50, lit_51, lit_52, lit_53, lit_54, lit_55, lit_56, lit_57, lit_58, lit_59, lit_60, lit_61, lit_62, lit_63, lit_64, lit_97, lit_99, lit_100, lit_122, lit_175, lit_176, lit_200, lit_255, lit_400, lit_700, lit_800, lit_999, lit_1000, lit_1400, lit_2000, lit_2033, lit_2038, lit_2100, lit_2124, lit_8000, lit_10000, lit_12345, lit_32767, lit_1000000, lit_1000000000, ↓bndX_h, ↓bndK_h, bxh_inl, bxh_inr, bkh_inl, bkh_inr, Nat.reduceEqDiff, ↓bnd_h, ↓lt_h, ↓ite_h, bh_some, lh_eq, ih_T, ih_F, ne_eq, not_false_eq_true, not_true_eq_false, eq_self, and_true, true_and, io_def, io_add, io_mul, io_sub, io_lt, io_le, io_eq, io_clamp, io_inbT, io_div, io_mod, io_m1, m1_io, m1_lt, m1_le, neg_1, gI_m1, K0_1, PC1.p1_0, PC1.p1_1, PC1.p1_2, PC1.p1_3, PC1.p1_4, PC1.p1_7, PC1.p1_8, PC1.p1_9, PC1.p1_10, PC1.p1_11, PC1.p1_12, K0_2, K0_39, K0_40, K0_41, K0_45, K0_52, K0_63, K0_66, K0_71, K0_gid, gid_ne, K0_bid, bid_ne, K0_kid, kid_ne, K0_bid1, K0_bid2, K0_kid1, K0_kid2, GP.r1, GP.r2, GP.b5, GP.b6, GP.k5, GP.k6, c_gateOf, succ_ne, c_ask_in, c_ask_out, c_askn_in, c_askn_out, c_range_in, c_range_out, K0_r, K0_r1, K0_r2, K0_r3, K0_r4, K0_r5, K0_r6, ru_ne, PR.p7, PR.p8, PR.p9, PR.p10, PR.p11, PR.p12, at_r1, at_r2, at_r3, at_r4, at_r5, succ_ne, K0_se, se_ne, K0_r6, r0, c0, hn0]
          exact Wp.ret ⟨rfl, hIp, hIs, Fg.refl⟩
        · have hP := hN.1
          have e75 := (hN.2.1 g hg2).1.1
          rw [hn0] at e75
          unfold zX12_drawn zX12_drawn_B38
          simp -dsimp (disch := first | assumption | omega) only [lit_0, lit_1, lit_2, lit_3, lit_4, lit_5, lit_6, lit_7, lit_8, lit_9, lit_10, lit_11, lit_12, lit_13, lit_14, lit_15, lit_16, lit_17, lit_18, lit_19, lit_20, lit_21, lit_22, lit_23, lit_24, lit_25, lit_26, lit_27, lit_28, lit_29, lit_30, lit_31, lit_32, lit_33, lit_34, lit_35, lit_36, lit_37, lit_38, lit_39, lit_40, lit_41, lit_42, lit_43, lit_44, lit_45, lit_46, lit_47, lit_48, lit_49, lit_50, lit_51, lit_52, lit_53, lit_54, lit_55, lit_56, lit_57, lit_58, lit_59, lit_60, lit_61, lit_62, lit_63, lit_64, lit_97, lit_99, lit_100, lit_122, lit_175, lit_176, lit_200, lit_255, lit_400, lit_700, lit_800, lit_999, lit_1000, lit_1400, lit_2000, lit_2033, lit_2038, lit_2100, lit_2124, lit_8000, lit_10000, lit_12345, lit_32767, lit_1000000, lit_1000000000, ↓bndX_h, ↓bndK_h, bxh_inl, bxh_inr, bkh_inl, bkh_inr, Nat.reduceEqDiff, ↓bnd_h, ↓lt_h, ↓ite_h, bh_some, lh_eq, ih_T, ih_F, ne_eq, not_false_eq_true, not_true_eq_false, eq_self, and_true, true_and, io_def, io_add, io_mul, io_sub, io_lt, io_le, io_eq, io_clamp, io_inbT, io_div, io_mod, io_m1, m1_io, m1_lt, m1_le, neg_1, gI_m1, PM.p0, PM.p1, PM.p3, PM.p4, PM.p5, PM.p6, PM.p7, PM.p8, PM.p9, PM.p10, PM.p11, PM.p12, PM.p13, PM.p14, PM.p15, PM.p16, PM.p17, PM.p18, PM.p19, PM.p31, PM.p32, PM.p33, PM.p34, PM.p38, PM.p39, PM.p40, PM.p41, PM.p42, PM.p46, PM.p47, PM.p50, PM.p51, PM.p52, PM.p53, PM.p54, PM.p55, PM.p56, PM.p57, K0_1, K0_2, K0_3, K0_4, K0_5, K0_6, K0_7, K0_8, K0_9, K0_10, K0_11, K0_12, K0_13, K0_14, K0_15, K0_16, K0_17, K0_18, K0_19, K0_20, K0_21, K0_22, K0_23, K0_24, K0_25, K0_26, K0_27, K0_28, K0_29, K0_30, K0_31, K0_32, K0_33, K0_34, K0_35, K0_36, K0_37, K0_38, K0_39, K0_40, K0_41, K0_42, K0_43, K0_44, K0_45, K0_46, K0_47, K0_48, K0_49, K0_50, K0_51, K0_52, K0_53, K0_54, K0_55, K0_56, K0_57, K0_58, K0_59, K0_60, K0_61, K0_62, K0_63, K0_64, K0_65, K0_66, K0_67, K0_68, K0_69, K0_70, K0_71, K0_72, K0_73, K0_74, K0_75, K0_76, K0_77, K0_78, K0_79, K0_80, K0_81, K0_82, K0_83, K0_84, K0_85, K0_86, K0_87, K0_88, K0_89, K0_90, K0_91, K0_92, K0_93, K0_94, K0_95, K0_96, K0_97, K0_98, K0_99, K0_100, K0_101, K0_102, K0_103, K0_104, K0_105, K0_106, K0_107, K0_108, K0_109, K0_110, K0_111, m_isGate_in, m_isGate_out, m_isIn_in, m_isIn_out, m_isInn_in, m_isInn_out, m_fail, false_and, and_false, if_false, if_true, and_self, mI_sI, mI_sL, mL_sI, mL_sL, mR_sI, mR_sL, hP, e75]
          exact Wp.ret (m_err2 hN rfl)
      · have hnp : 0 < gN (vG V g) := by omega
        let D : DV := (c, vB V g, io 0)
        have hbD := okB_dr (sv := vS V g) (D := D) hvg hnp hvb n
        refine ⟨R, setB V g (drS (vG V g) (vS V g) D n).2.1, .inl (drS (vG V g) (vS V g) D n).2.2, hV.setB hbD, trivial, ?_, fun N hN => ?_⟩
        · unfold zX11_drawn
          simp -dsimp (disch := first | assumption | omega) only [neg_1, lit_0, lit_1, lit_2, lit_3, lit_4, lit_5, lit_6, lit_7, lit_8, lit_9, lit_10, lit_11, lit_12, lit_13, lit_14, lit_15, lit_16, lit_17, lit_18, lit_19, lit_20, lit_21, lit_22, lit_23, lit_24, lit_25, lit_26, lit_27, lit_28, lit_29, lit_30, lit_31, lit_32, lit_33, lit_34, lit_35, lit_36, lit_37, lit_38, lit_39, lit_40, lit_41, lit_42, lit_43, lit_44, lit_45, lit_46, lit_47, lit_48, lit_49, lit_50, lit_51, lit_52, lit_53, lit_54, lit_55, lit_56, lit_57, lit_58, lit_59, lit_60, lit_61, lit_62, lit_63, lit_64, lit_97, lit_99, lit_100, lit_122, lit_175, lit_176, lit_200, lit_255, lit_400, lit_700, lit_800, lit_999, lit_1000, lit_1400, lit_2000, lit_2033, lit_2038, lit_2100, lit_2124, lit_8000, lit_10000, lit_12345, lit_32767, lit_1000000, lit_1000000000, ↓bndX_h, ↓bndK_h, bxh_inl, bxh_inr, bkh_inl, bkh_inr, Nat.reduceEqDiff, ↓bnd_h, ↓lt_h, ↓ite_h, bh_some, lh_eq, ih_T, ih_F, ne_eq, not_false_eq_true, not_true_eq_false, eq_self, and_true, true_and, io_def, io_add, io_mul, io_sub, io_lt, io_le, io_eq, io_clamp, io_inbT, io_div, io_mod, io_m1, m1_io, m1_lt, m1_le, neg_1, gI_m1, K0_1, PC1.p1_0, PC1.p1_1, PC1.p1_2, PC1.p1_3, PC1.p1_4, PC1.p1_7, PC1.p1_8, PC1.p1_9, PC1.p1_10, PC1.p1_11, PC1.p1_12, K0_2, K0_39, K0_40, K0_41, K0_45, K0_52, K0_63, K0_66, K0_71, K0_gid, gid_ne, K0_bid, bid_ne, K0_kid, kid_ne, K0_bid1, K0_bid2, K0_kid1, K0_kid2, GP.r1, GP.r2, GP.b5, GP.b6, GP.k5, GP.k6, c_gateOf, succ_ne, c_ask_in, c_ask_out, c_askn_in, c_askn_out, c_range_in, c_range_out, K0_r, K0_r1, K0_r2, K0_r3, K0_r4, K0_r5, K0_r6, ru_ne, PR.p7, PR.p8, PR.p9, PR.p10, PR.p11, PR.p12, at_r1, at_r2, at_r3, at_r4, at_r5, succ_ne, K0_se, se_ne, K0_r6, r0, c0, hn0]
          refine Wp.seqh (c_gbegin hIp hIs hru hse hC hS) (fun _ M1 ⟨a1, a2, a3, a4⟩ => ?_)
          have hP1' := a2.1
          have hgi : gid g = 11 ∨ gid g = 25 := by unfold gid; split <;> simp
          have hbi : bid g = 19 ∨ bid g = 33 := by unfold bid; split <;> simp
          simp -dsimp (disch := first | assumption | omega) only [lit_0, lit_1, lit_2, lit_3, lit_4, lit_5, lit_6, lit_7, lit_8, lit_9, lit_10, lit_11, lit_12, lit_13, lit_14, lit_15, lit_16, lit_17, lit_18, lit_19, lit_20, lit_21, lit_22, lit_23, lit_24, lit_25, lit_26, lit_27, lit_28, lit_29, lit_30, lit_31, lit_32, lit_33, lit_34, lit_35, lit_36, lit_37, lit_38, lit_39, lit_40, lit_41, lit_42, lit_43, lit_44, lit_45, lit_46, lit_47, lit_48, lit_49, lit_50, lit_51, lit_52, lit_53, lit_54, lit_55, lit_56, lit_57, lit_58, lit_59, lit_60, lit_61, lit_62, lit_63, lit_64, lit_97, lit_99, lit_100, lit_122, lit_175, lit_176, lit_200, lit_255, lit_400, lit_700, lit_800, lit_999, lit_1000, lit_1400, lit_2000, lit_2033, lit_2038, lit_2100, lit_2124, lit_8000, lit_10000, lit_12345, lit_32767, lit_1000000, lit_1000000000, ↓bndX_h, ↓bndK_h, bxh_inl, bxh_inr, bkh_inl, bkh_inr, Nat.reduceEqDiff, ↓bnd_h, ↓lt_h, ↓ite_h, bh_some, lh_eq, ih_T, ih_F, ne_eq, not_false_eq_true, not_true_eq_false, eq_self, and_true, true_and, io_def]
          have hL : DF g M1 (sI M1 (gid g) 3 c) := ⟨fun o k _ h2 _ => by rw [mI_sI, if_neg (by omega)], fun _ _ => rfl, fun _ _ _ _ => rfl⟩
          have hDC : DC (sI M1 (gid g) 3 c) g (R g) (R g + 6) (vG V g) (vS V g) D (sI M1 (gid g) 3 c) := by
            refine ⟨a1.keepD (g := g) hru hse (fun o k _ h2 => by rw [mI_sI, if_neg (by omega)]) (fun _ _ => rfl), ((a2.2.2.1 g hg2).2.2.1).keep (fun j hj k => by rw [mI_sI, if_neg (by omega)]), by rw [mI_sI, if_pos ⟨rfl, rfl⟩], DF.refl⟩
          refine (c_drawnL hg2 (show PC1 (sI M1 (gid g) 3 c) from hP1') (a2.2.1.r0 hg2) hru hse hvg hvs hnp hn hvb hDC rfl).mono (fun y M2 ⟨b1, b2, b3, b4, b5⟩ => ?_)
          have hF : DF g M1 M2 := hL.trans b5
          have hIp2 := a2.drawn hg2 hF b3
          refine ⟨b1, hIp2, ?_, ?_⟩
          · refine a3.mk2 (fun o k _ _ _ _ => hF.2.1 o k) (fun o k h1 h2 => hF.1 o k (by omega) (by omega) (by omega)) ?_ ?_ ?_
            · rw [hF.2.1, hF.2.1]; exact a3.2.1
            · obtain ⟨cs, h⟩ := a3.2.2.2.1
              exact ⟨cs, by simpa only [CaI, hF.1 46 _ (by omega) (by omega) (by omega), Nat.reduceAdd, hF.1 47 _ (by omega) (by omega) (by omega), hF.1 48 _ (by omega) (by omega) (by omega)] using h⟩
            · obtain ⟨cs, h⟩ := a3.2.2.2.2.1
              exact ⟨cs, by simpa only [CaI, hF.1 49 _ (by omega) (by omega) (by omega), Nat.reduceAdd, hF.1 50 _ (by omega) (by omega) (by omega), hF.1 51 _ (by omega) (by omega) (by omega)] using h⟩
          · refine a4.top.trans ⟨fun o ho k => ?_, fun o ho h2 k => ?_, fun o _ k => hF.2.1 o k⟩
            · simp only [ob, Bool.and_true, Bool.or_eq_true, decide_eq_true_eq] at ho
              exact hF.1 o k (by omega) (by omega) (by omega)
            · simp only [ob, Bool.and_true, Bool.or_eq_true, decide_eq_true_eq] at ho
              exact hF.2.2 o k (by omega) h2
        · have hP := hN.1
          have e75 := (hN.2.1 g hg2).1.1
          unfold zX12_drawn
          simp -dsimp (disch := first | assumption | omega) only [lit_0, lit_1, lit_2, lit_3, lit_4, lit_5, lit_6, lit_7, lit_8, lit_9, lit_10, lit_11, lit_12, lit_13, lit_14, lit_15, lit_16, lit_17, lit_18, lit_19, lit_20, lit_21, lit_22, lit_23, lit_24, lit_25, lit_26, lit_27, lit_28, lit_29, lit_30, lit_31, lit_32, lit_33, lit_34, lit_35, lit_36, lit_37, lit_38, lit_39, lit_40, lit_41, lit_42, lit_43, lit_44, lit_45, lit_46, lit_47, lit_48, lit_49, lit_50, lit_51, lit_52, lit_53, lit_54, lit_55, lit_56, lit_57, lit_58, lit_59, lit_60, lit_61, lit_62, lit_63, lit_64, lit_97, lit_99, lit_100, lit_122, lit_175, lit_176, lit_200, lit_255, lit_400, lit_700, lit_800, lit_999, lit_1000, lit_1400, lit_2000, lit_2033, lit_2038, lit_2100, lit_2124, lit_8000, lit_10000, lit_12345, lit_32767, lit_1000000, lit_1000000000, ↓bndX_h, ↓bndK_h, bxh_inl, bxh_inr, bkh_inl, bkh_inr, Nat.reduceEqDiff, ↓bnd_h, ↓lt_h, ↓ite_h, bh_some, lh_eq, ih_T, ih_F, ne_eq, not_false_eq_true, not_true_eq_false, eq_self, and_true, true_and, io_def, io_add, io_mul, io_sub, io_lt, io_le, io_eq, io_clamp, io_inbT, io_div, io_mod, io_m1, m1_io, m1_lt, m1_le, neg_1, gI_m1, PM.p0, PM.p1, PM.p3, PM.p4, PM.p5, PM.p6, PM.p7, PM.p8, PM.p9, PM.p10, PM.p11, PM.p12, PM.p13, PM.p14, PM.p15, PM.p16, PM.p17, PM.p18, PM.p19, PM.p31, PM.p32, PM.p33, PM.p34, PM.p38, PM.p39, PM.p40, PM.p41, PM.p42, PM.p46, PM.p47, PM.p50, PM.p51, PM.p52, PM.p53, PM.p54, PM.p55, PM.p56, PM.p57, K0_1, K0_2, K0_3, K0_4, K0_5, K0_6, K0_7, K0_8, K0_9, K0_10, K0_11, K0_12, K0_13, K0_14, K0_15, K0_16, K0_17, K0_18, K0_19, K0_20, K0_21, K0_22, K0_23, K0_24, K0_25, K0_26, K0_27, K0_28, K0_29, K0_30, K0_31, K0_32, K0_33, K0_34, K0_35, K0_36, K0_37, K0_38, K0_39, K0_40, K0_41, K0_42, K0_43, K0_44, K0_45, K0_46, K0_47, K0_48, K0_49, K0_50, K0_51, K0_52, K0_53, K0_54, K0_55, K0_56, K0_57, K0_58, K0_59, K0_60, K0_61, K0_62, K0_63, K0_64, K0_65, K0_66, K0_67, K0_68, K0_69, K0_70, K0_71, K0_72, K0_73, K0_74, K0_75, K0_76, K0_77, K0_78, K0_79, K0_80, K0_81, K0_82, K0_83, K0_84, K0_85, K0_86, K0_87, K0_88, K0_89, K0_90, K0_91, K0_92, K0_93, K0_94, K0_95, K0_96, K0_97, K0_98, K0_99, K0_100, K0_101, K0_102, K0_103, K0_104, K0_105, K0_106, K0_107, K0_108, K0_109, K0_110, K0_111, m_isGate_in, m_isGate_out, m_isIn_in, m_isIn_out, m_isInn_in, m_isInn_out, m_fail, false_and, and_false, if_false, if_true, and_self, mI_sI, mI_sL, mL_sI, mL_sL, mR_sI, mR_sL, hP, e75, hn0]
          have hN0 := hN.code (x := io 0)
          have hMV := hN0.MV hg2
          have hB0 := (hN0.2.1 g hg2).2.2.1
          have hO1 : OffD g (sI N 72 2 (io 0)) (sI (sI N 72 2 (io 0)) 72 48 c) := OffD.refl.sI (Or.inr (Or.inr ⟨rfl, rfl⟩))
          have hDM : DM (sI (sI N 72 2 (io 0)) 72 48 c) g (vG V g) (vS V g) D (sI (sI N 72 2 (io 0)) 72 48 c) := by
            refine ⟨hO1.MV hMV, hB0.keep hg2 hle (fun j h1 _ => by rw [mI_sI, if_neg (by omega)]) (fun k _ _ => by rw [mI_sI, if_neg (by omega)]) (fun k _ _ => by rw [mI_sI, if_neg (by omega)]), by rw [mI_sI, if_pos ⟨rfl, rfl⟩], by rw [mI_sI, if_neg (by omega), mI_sI, if_pos ⟨rfl, rfl⟩], OffD.refl⟩
          refine (m_drawnL hg2 hvg hvs hnp hn hvb hDM rfl).mono (fun y N2 ⟨b1, b2, b3, b4, b5, b6⟩ => ?_)
          have hF : OffD g (sI N 72 2 (io 0)) N2 := hO1.trans b6
          refine ⟨⟨b5, b1⟩, hN0.drawn hV hg2 hF b3, (Fg.refl.sI rfl).trans ⟨fun o ho k => ?_, fun o ho h2 k => ?_, fun o _ k => hF.2.1 o k⟩⟩
          · simp only [ob, Bool.and_true, Bool.or_eq_true, decide_eq_true_eq] at ho
            exact hF.1 o k (by unfold ownD ownB; omega)
          · simp only [ob, Bool.and_true, Bool.or_eq_true, decide_eq_true_eq] at ho
            exact hF.2.2 o k (by omega)
    · refine ⟨R, V, .inr 1, hV, Nat.le_refl _, ?_, fun N hN => ?_⟩
      · unfold zX11_drawn
        simp -dsimp (disch := first | assumption | omega) only [neg_1, lit_0, lit_1, lit_2, lit_3, lit_4, lit_5, lit_6, lit_7, lit_8, lit_9, lit_10, lit_11, lit_12, lit_13, lit_14, lit_15, lit_16, lit_17, lit_18, lit_19, lit_20, lit_21, lit_22, lit_23, lit_24, lit_25, lit_26, lit_27, lit_28, lit_29, lit_30, lit_31, lit_32, lit_33, lit_34, lit_35, lit_36, lit_37, lit_38, lit_39, lit_40, lit_41, lit_42, lit_43, lit_44, lit_45, lit_46, lit_47, lit_48, lit_49, lit_50, lit_51, lit_52, lit_53, lit_54, lit_55, lit_56, lit_57, lit_58, lit_59, lit_60, lit_61, lit_62, lit_63, lit_64, lit_97, lit_99, lit_100, lit_122, lit_175, lit_176, lit_200, lit_255, lit_400, lit_700, lit_800, lit_999, lit_1000, lit_1400, lit_2000, lit_2033, lit_2038, lit_2100, lit_2124, lit_8000, lit_10000, lit_12345, lit_32767, lit_1000000, lit_1000000000, ↓bndX_h, ↓bndK_h, bxh_inl, bxh_inr, bkh_inl, bkh_inr, Nat.reduceEqDiff, ↓bnd_h, ↓lt_h, ↓ite_h, bh_some, lh_eq, ih_T, ih_F, ne_eq, not_false_eq_true, not_true_eq_false, eq_self, and_true, true_and, io_def, io_add, io_mul, io_sub, io_lt, io_le, io_eq, io_clamp, io_inbT, io_div, io_mod, io_m1, m1_io, m1_lt, m1_le, neg_1, gI_m1, K0_1, PC1.p1_0, PC1.p1_1, PC1.p1_2, PC1.p1_3, PC1.p1_4, PC1.p1_7, PC1.p1_8, PC1.p1_9, PC1.p1_10, PC1.p1_11, PC1.p1_12, K0_2, K0_39, K0_40, K0_41, K0_45, K0_52, K0_63, K0_66, K0_71, K0_gid, gid_ne, K0_bid, bid_ne, K0_kid, kid_ne, K0_bid1, K0_bid2, K0_kid1, K0_kid2, GP.r1, GP.r2, GP.b5, GP.b6, GP.k5, GP.k6, c_gateOf, succ_ne, c_ask_in, c_ask_out, c_askn_in, c_askn_out, c_range_in, c_range_out, K0_r, K0_r1, K0_r2, K0_r3, K0_r4, K0_r5, K0_r6, ru_ne, PR.p7, PR.p8, PR.p9, PR.p10, PR.p11, PR.p12, at_r1, at_r2, at_r3, at_r4, at_r5, succ_ne, K0_se, se_ne, K0_r6]
        exact Wp.ret ⟨rfl, hIp, hIs, Fg.refl⟩
      · have e := m_isIn_out (M := sI N 72 2 (io 0)) hb
        unfold zX12_drawn zX12_drawn_B38
        simp -dsimp (disch := first | assumption | omega) only [lit_0, lit_1, lit_2, lit_3, lit_4, lit_5, lit_6, lit_7, lit_8, lit_9, lit_10, lit_11, lit_12, lit_13, lit_14, lit_15, lit_16, lit_17, lit_18, lit_19, lit_20, lit_21, lit_22, lit_23, lit_24, lit_25, lit_26, lit_27, lit_28, lit_29, lit_30, lit_31, lit_32, lit_33, lit_34, lit_35, lit_36, lit_37, lit_38, lit_39, lit_40, lit_41, lit_42, lit_43, lit_44, lit_45, lit_46, lit_47, lit_48, lit_49, lit_50, lit_51, lit_52, lit_53, lit_54, lit_55, lit_56, lit_57, lit_58, lit_59, lit_60, lit_61, lit_62, lit_63, lit_64, lit_97, lit_99, lit_100, lit_122, lit_175, lit_176, lit_200, lit_255, lit_400, lit_700, lit_800, lit_999, lit_1000, lit_1400, lit_2000, lit_2033, lit_2038, lit_2100, lit_2124, lit_8000, lit_10000, lit_12345, lit_32767, lit_1000000, lit_1000000000, ↓bndX_h, ↓bndK_h, bxh_inl, bxh_inr, bkh_inl, bkh_inr, Nat.reduceEqDiff, ↓bnd_h, ↓lt_h, ↓ite_h, bh_some, lh_eq, ih_T, ih_F, ne_eq, not_false_eq_true, not_true_eq_false, eq_self, and_true, true_and, io_def, io_add, io_mul, io_sub, io_lt, io_le, io_eq, io_clamp, io_inbT, io_div, io_mod, io_m1, m1_io, m1_lt, m1_le, neg_1, gI_m1, PM.p0, PM.p1, PM.p3, PM.p4, PM.p5, PM.p6, PM.p7, PM.p8, PM.p9, PM.p10, PM.p11, PM.p12, PM.p13, PM.p14, PM.p15, PM.p16, PM.p17, PM.p18, PM.p19, PM.p31, PM.p32, PM.p33, PM.p34, PM.p38, PM.p39, PM.p40, PM.p41, PM.p42, PM.p46, PM.p47, PM.p50, PM.p51, PM.p52, PM.p53, PM.p54, PM.p55, PM.p56, PM.p57, K0_1, K0_2, K0_3, K0_4, K0_5, K0_6, K0_7, K0_8, K0_9, K0_10, K0_11, K0_12, K0_13, K0_14, K0_15, K0_16, K0_17, K0_18, K0_19, K0_20, K0_21, K0_22, K0_23, K0_24, K0_25, K0_26, K0_27, K0_28, K0_29, K0_30, K0_31, K0_32, K0_33, K0_34, K0_35, K0_36, K0_37, K0_38, K0_39, K0_40, K0_41, K0_42, K0_43, K0_44, K0_45, K0_46, K0_47, K0_48, K0_49, K0_50, K0_51, K0_52, K0_53, K0_54, K0_55, K0_56, K0_57, K0_58, K0_59, K0_60, K0_61, K0_62, K0_63, K0_64, K0_65, K0_66, K0_67, K0_68, K0_69, K0_70, K0_71, K0_72, K0_73, K0_74, K0_75, K0_76, K0_77, K0_78, K0_79, K0_80, K0_81, K0_82, K0_83, K0_84, K0_85, K0_86, K0_87, K0_88, K0_89, K0_90, K0_91, K0_92, K0_93, K0_94, K0_95, K0_96, K0_97, K0_98, K0_99, K0_100, K0_101, K0_102, K0_103, K0_104, K0_105, K0_106, K0_107, K0_108, K0_109, K0_110, K0_111, m_isGate_in, m_isGate_out, m_isIn_in, m_isIn_out, m_isInn_in, m_isInn_out, m_fail, false_and, and_false, if_false, if_true, and_self, mI_sI, mI_sL, mL_sI, mL_sL, mR_sI, mR_sL, e]
        exact Wp.ret (m_err2 hN rfl)
  · refine ⟨R, V, .inr 0, hV, Nat.zero_le _, ?_, fun N hN => ?_⟩
    · unfold zX11_drawn
      simp -dsimp (disch := first | assumption | omega) only [neg_1, lit_0, lit_1, lit_2, lit_3, lit_4, lit_5, lit_6, lit_7, lit_8, lit_9, lit_10, lit_11, lit_12, lit_13, lit_14, lit_15, lit_16, lit_17, lit_18, lit_19, lit_20, lit_21, lit_22, lit_23, lit_24, lit_25, lit_26, lit_27, lit_28, lit_29, lit_30, lit_31, lit_32, lit_33, lit_34, lit_35, lit_36, lit_37, lit_38, lit_39, lit_40, lit_41, lit_42, lit_43, lit_44, lit_45, lit_46, lit_47, lit_48, lit_49, lit_50, lit_51, lit_52, lit_53, lit_54, lit_55, lit_56, lit_57, lit_58, lit_59, lit_60, lit_61, lit_62, lit_63, lit_64, lit_97, lit_99, lit_100, lit_122, lit_175, lit_176, lit_200, lit_255, lit_400, lit_700, lit_800, lit_999, lit_1000, lit_1400, lit_2000, lit_2033, lit_2038, lit_2100, lit_2124, lit_8000, lit_10000, lit_12345, lit_32767, lit_1000000, lit_1000000000, ↓bndX_h, ↓bndK_h, bxh_inl, bxh_inr, bkh_inl, bkh_inr, Nat.reduceEqDiff, ↓bnd_h, ↓lt_h, ↓ite_h, bh_some, lh_eq, ih_T, ih_F, ne_eq, not_false_eq_true, not_true_eq_false, eq_self, and_true, true_and, io_def, io_add, io_mul, io_sub, io_lt, io_le, io_eq, io_clamp, io_inbT, io_div, io_mod, io_m1, m1_io, m1_lt, m1_le, neg_1, gI_m1, K0_1, PC1.p1_0, PC1.p1_1, PC1.p1_2, PC1.p1_3, PC1.p1_4, PC1.p1_7, PC1.p1_8, PC1.p1_9, PC1.p1_10, PC1.p1_11, PC1.p1_12, K0_2, K0_39, K0_40, K0_41, K0_45, K0_52, K0_63, K0_66, K0_71, K0_gid, gid_ne, K0_bid, bid_ne, K0_kid, kid_ne, K0_bid1, K0_bid2, K0_kid1, K0_kid2, GP.r1, GP.r2, GP.b5, GP.b6, GP.k5, GP.k6, c_gateOf, succ_ne, c_ask_in, c_ask_out, c_askn_in, c_askn_out, c_range_in, c_range_out, K0_r, K0_r1, K0_r2, K0_r3, K0_r4, K0_r5, K0_r6, ru_ne, PR.p7, PR.p8, PR.p9, PR.p10, PR.p11, PR.p12, at_r1, at_r2, at_r3, at_r4, at_r5, succ_ne, K0_se, se_ne, K0_r6, c_gateOf_out h]
      exact Wp.ret ⟨rfl, hIp, hIs, Fg.refl⟩
    · unfold zX12_drawn
      simp -dsimp (disch := first | assumption | omega) only [lit_0, lit_1, lit_2, lit_3, lit_4, lit_5, lit_6, lit_7, lit_8, lit_9, lit_10, lit_11, lit_12, lit_13, lit_14, lit_15, lit_16, lit_17, lit_18, lit_19, lit_20, lit_21, lit_22, lit_23, lit_24, lit_25, lit_26, lit_27, lit_28, lit_29, lit_30, lit_31, lit_32, lit_33, lit_34, lit_35, lit_36, lit_37, lit_38, lit_39, lit_40, lit_41, lit_42, lit_43, lit_44, lit_45, lit_46, lit_47, lit_48, lit_49, lit_50, lit_51, lit_52, lit_53, lit_54, lit_55, lit_56, lit_57, lit_58, lit_59, lit_60, lit_61, lit_62, lit_63, lit_64, lit_97, lit_99, lit_100, lit_122, lit_175, lit_176, lit_200, lit_255, lit_400, lit_700, lit_800, lit_999, lit_1000, lit_1400, lit_2000, lit_2033, lit_2038, lit_2100, lit_2124, lit_8000, lit_10000, lit_12345, lit_32767, lit_1000000, lit_1000000000, ↓bndX_h, ↓bndK_h, bxh_inl, bxh_inr, bkh_inl, bkh_inr, Nat.reduceEqDiff, ↓bnd_h, ↓lt_h, ↓ite_h, bh_some, lh_eq, ih_T, ih_F, ne_eq, not_false_eq_true, not_true_eq_false, eq_self, and_true, true_and, io_def, io_add, io_mul, io_sub, io_lt, io_le, io_eq, io_clamp, io_inbT, io_div, io_mod, io_m1, m1_io, m1_lt, m1_le, neg_1, gI_m1, PM.p0, PM.p1, PM.p3, PM.p4, PM.p5, PM.p6, PM.p7, PM.p8, PM.p9, PM.p10, PM.p11, PM.p12, PM.p13, PM.p14, PM.p15, PM.p16, PM.p17, PM.p18, PM.p19, PM.p31, PM.p32, PM.p33, PM.p34, PM.p38, PM.p39, PM.p40, PM.p41, PM.p42, PM.p46, PM.p47, PM.p50, PM.p51, PM.p52, PM.p53, PM.p54, PM.p55, PM.p56, PM.p57, K0_1, K0_2, K0_3, K0_4, K0_5, K0_6, K0_7, K0_8, K0_9, K0_10, K0_11, K0_12, K0_13, K0_14, K0_15, K0_16, K0_17, K0_18, K0_19, K0_20, K0_21, K0_22, K0_23, K0_24, K0_25, K0_26, K0_27, K0_28, K0_29, K0_30, K0_31, K0_32, K0_33, K0_34, K0_35, K0_36, K0_37, K0_38, K0_39, K0_40, K0_41, K0_42, K0_43, K0_44, K0_45, K0_46, K0_47, K0_48, K0_49, K0_50, K0_51, K0_52, K0_53, K0_54, K0_55, K0_56, K0_57, K0_58, K0_59, K0_60, K0_61, K0_62, K0_63, K0_64, K0_65, K0_66, K0_67, K0_68, K0_69, K0_70, K0_71, K0_72, K0_73, K0_74, K0_75, K0_76, K0_77, K0_78, K0_79, K0_80, K0_81, K0_82, K0_83, K0_84, K0_85, K0_86, K0_87, K0_88, K0_89, K0_90, K0_91, K0_92, K0_93, K0_94, K0_95, K0_96, K0_97, K0_98, K0_99, K0_100, K0_101, K0_102, K0_103, K0_104, K0_105, K0_106, K0_107, K0_108, K0_109, K0_110, K0_111, m_isGate_in, m_isGate_out, m_isIn_in, m_isIn_out, m_isInn_in, m_isInn_out, m_fail, false_and, and_false, if_false, if_true, and_self, mI_sI, mI_sL, mL_sI, mL_sL, mR_sI, mR_sL, m_isGate_out h]
      exact Wp.ret (m_err hN rfl)
