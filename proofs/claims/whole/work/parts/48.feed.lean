/-! ===== LEVEL 2: feed ===== -/
theorem mask_sh {x : BitVec 32} {c b : Nat} (h : c + b ≤ 32) : (x.sshiftRight c) &&& BitVec.ofNat 32 (2 ^ b - 1) = (x >>> c) &&& BitVec.ofNat 32 (2 ^ b - 1) := by
  apply BitVec.eq_of_getLsbD_eq
  intro i hi
  simp only [BitVec.getLsbD_and, BitVec.getLsbD_sshiftRight, BitVec.getLsbD_ushiftRight, BitVec.getLsbD_ofNat, Nat.testBit_two_pow_sub_one]
  by_cases q : i < b
  · have h1 : c + i < 32 := by omega
    have h2 : ¬ 32 ≤ i := by omega
    simp [h1, h2, q]
  · simp [q]
theorem sh_s (x : Int32) {c : Nat} (hc : c = 0 ∨ c = 8 ∨ c = 16 ∨ c = 24) : (x >>> (io c &&& io 31)).toBitVec = x.toBitVec.sshiftRight c := by
  rcases hc with rfl | rfl | rfl | rfl <;> rfl
theorem sh_u (x : Int32) {c : Nat} (hc : c = 0 ∨ c = 8 ∨ c = 16 ∨ c = 24) : (iushr x (io c)).toBitVec = x.toBitVec >>> c := by
  rcases hc with rfl | rfl | rfl | rfl <;> rfl
/-- b bits of a word from the bit c on -/
def bitsN (x : Int32) (c b : Nat) : Nat := ((x.toBitVec >>> c) &&& BitVec.ofNat 32 (2 ^ b - 1)).toNat
theorem bitsN_lt (x : Int32) (c : Nat) {b : Nat} (hb : b ≤ 16) : bitsN x c b < 2 ^ b := by
  unfold bitsN
  rw [BitVec.toNat_and]
  have h1 : 2 ^ b ≤ 2 ^ 16 := Nat.pow_le_pow_right (by decide) hb
  have h2 : 1 ≤ 2 ^ b := Nat.one_le_two_pow
  have h3 : (BitVec.ofNat 32 (2 ^ b - 1)).toNat = 2 ^ b - 1 := by
    rw [BitVec.toNat_ofNat]
    generalize 2 ^ b = w at h1 h2 ⊢
    omega
  have h4 : ((x.toBitVec >>> c).toNat &&& (BitVec.ofNat 32 (2 ^ b - 1)).toNat) ≤ (BitVec.ofNat 32 (2 ^ b - 1)).toNat := Nat.and_le_right
  rw [h3] at h4 ⊢
  generalize 2 ^ b = w at h1 h2 h4 ⊢
  omega
theorem io_bv (n : Nat) : (io n).toBitVec = BitVec.ofNat 32 n := rfl
theorem bits_u (x : Int32) {c b : Nat} (hc : c = 0 ∨ c = 8 ∨ c = 16 ∨ c = 24) : iushr x (io c) &&& io (2 ^ b - 1) = io (bitsN x c b) := by
  apply Int32.toBitVec_inj.1
  rw [Int32.toBitVec_and, sh_u x hc, io_bv, io_bv]
  unfold bitsN
  rw [BitVec.ofNat_toNat, BitVec.setWidth_eq]
theorem bits_s (x : Int32) {c b : Nat} (hc : c = 0 ∨ c = 8 ∨ c = 16 ∨ c = 24) (h : c + b ≤ 32) : (x >>> (io c &&& io 31)) &&& io (2 ^ b - 1) = io (bitsN x c b) := by
  apply Int32.toBitVec_inj.1
  rw [Int32.toBitVec_and, sh_s x hc, io_bv, io_bv, mask_sh h]
  unfold bitsN
  rw [BitVec.ofNat_toNat, BitVec.setWidth_eq]
theorem byte_u (x : Int32) {c : Nat} (hc : c = 0 ∨ c = 8 ∨ c = 16 ∨ c = 24) : iushr x (io c) &&& io 255 = io (bitsN x c 8) := bits_u x (b := 8) hc
theorem byte_s (x : Int32) {c : Nat} (hc : c = 0 ∨ c = 8 ∨ c = 16 ∨ c = 24) : (x >>> (io c &&& io 31)) &&& io 255 = io (bitsN x c 8) := bits_s x (b := 8) hc (by omega)
/-- a row t from F to G, and the slot q of p, alone have changed -/
def TF (p q t F G : Nat) (M M' : Mem) : Prop := (∀ o k, (o ≠ p ∨ k ≠ q) → (o ≠ t ∨ k < F ∨ G ≤ k) → mI M' o k = mI M o k) ∧ (∀ o k, mR M' o k = mR M o k) ∧ ∀ o k, mL M' o k = mL M o k
theorem TF.refl {p q t F G : Nat} {M : Mem} : TF p q t F G M M := ⟨fun _ _ _ _ => rfl, fun _ _ => rfl, fun _ _ => rfl⟩
theorem TF.trans {p q t F G H : Nat} {M M1 M2 : Mem} (h : TF p q t F G M M1) (h' : TF p q t G H M1 M2) (h1 : F ≤ G) (h2 : G ≤ H) : TF p q t F H M M2 :=
  ⟨fun o k a b => (h'.1 o k a (by omega)).trans (h.1 o k a (by omega)), fun o k => (h'.2.1 o k).trans (h.2.1 o k), fun o k => (h'.2.2 o k).trans (h.2.2 o k)⟩
theorem TF.step {p q t F G : Nat} {M M' : Mem} {x y : Int32} (h : TF p q t F G M M') (hF : F ≤ G) : TF p q t F (G + 1) M (sI (sI M' t G x) p q y) :=
  ⟨fun o k a b => by rw [mI_sI, if_neg (by omega), mI_sI, if_neg (by omega)]; exact h.1 o k a (by omega), h.2.1, h.2.2⟩
def shI (j : Nat) : Int32 := if j < 4 then io (24 - 8 * j) else -(io 8)
theorem shI_lt {j : Nat} (h : j < 4) : shI j = io (24 - 8 * j) := if_pos h
theorem shI_neg {j : Nat} (h : j < 5) : (shI j < io 0) = (4 ≤ j) := by
  have h5 : j = 0 ∨ j = 1 ∨ j = 2 ∨ j = 3 ∨ j = 4 := by omega
  rcases h5 with rfl | rfl | rfl | rfl | rfl <;> exact propext (by decide)
theorem shI_step {j : Nat} (h : j < 4) : shI j + -(io 8) = shI (j + 1) := by
  have h5 : j = 0 ∨ j = 1 ∨ j = 2 ∨ j = 3 := by omega
  rcases h5 with rfl | rfl | rfl | rfl <;> decide
theorem c_take {M : Mem} {F : Nat} {x : Int32} (hP : PC1 M) (h1 : mI M 2 1 = io F) (hF : F + 4 ≤ 700) :
    Wp (zX6_take 2 x M) (fun _ M' => mI M' 2 1 = io (F + 4) ∧ (∀ j, j < 4 → mI M' 3 (F + j) = io (bitsN x (24 - 8 * j) 8)) ∧ TF 2 1 3 F (F + 4) M M') := by
  have p0 := hP.p2_0
  unfold zX6_take
  simp -dsimp (disch := first | assumption | omega) only [lit_0, lit_1, lit_2, lit_3, lit_4, lit_5, lit_6, lit_7, lit_8, lit_9, lit_10, lit_11, lit_12, lit_13, lit_14, lit_15, lit_16, lit_17, lit_18, lit_19, lit_20, lit_21, lit_22, lit_23, lit_24, lit_25, lit_26, lit_27, lit_28, lit_29, lit_30, lit_31, lit_32, lit_33, lit_34, lit_35, lit_36, lit_37, lit_38, lit_39, lit_40, lit_41, lit_42, lit_43, lit_44, lit_45, lit_46, lit_47, lit_48, lit_49, lit_50, lit_51, lit_52, lit_53, lit_54, lit_55, lit_56, lit_57, lit_58, lit_59, lit_60, lit_61, lit_62, lit_63, lit_64, lit_97, lit_99, lit_100, lit_122, lit_175, lit_176, lit_200, lit_255, lit_400, lit_700, lit_800, lit_999, lit_1000, lit_1400, lit_2000, lit_2033, lit_2038, lit_2100, lit_2124, lit_8000, lit_10000, lit_12345, lit_32767, lit_1000000, lit_1000000000, ↓bndX_h, ↓bndK_h, bxh_inl, bxh_inr, bkh_inl, bkh_inr, Nat.reduceEqDiff, ↓bnd_h, ↓lt_h, ↓ite_h, bh_some, lh_eq, ih_T, ih_F, ne_eq, not_false_eq_true, not_true_eq_false, eq_self, and_true, true_and, io_def, K0_2]
  refine loopW (L := fun f (j : Nat) U => zX6_take_L3 f 2 x (shI j) U) (J := fun j U => j ≤ 4 ∧ mI U 2 1 = io (F + j) ∧ (∀ i, i < j → mI U 3 (F + i) = io (bitsN x (24 - 8 * i) 8)) ∧ TF 2 1 3 F (F + j) M U) (fun j _ => 4 - j) ?_ FU 0 M ⟨Nat.zero_le _, h1, fun i hi => absurd hi (Nat.not_lt_zero _), TF.refl⟩ (by rw [FU_val]; omega)
  intro f j U ⟨hj, hU, hall, hT⟩ rec
  show Wp (zX6_take_B3 (zX6_take_L3 f) 2 x (shI j) U) _
  unfold zX6_take_B3
  have p0' : mR U 2 0 = 3 := (hT.2.1 2 0).trans p0
  simp -dsimp (disch := first | assumption | omega) only [lit_0, lit_1, lit_2, lit_3, lit_4, lit_5, lit_6, lit_7, lit_8, lit_9, lit_10, lit_11, lit_12, lit_13, lit_14, lit_15, lit_16, lit_17, lit_18, lit_19, lit_20, lit_21, lit_22, lit_23, lit_24, lit_25, lit_26, lit_27, lit_28, lit_29, lit_30, lit_31, lit_32, lit_33, lit_34, lit_35, lit_36, lit_37, lit_38, lit_39, lit_40, lit_41, lit_42, lit_43, lit_44, lit_45, lit_46, lit_47, lit_48, lit_49, lit_50, lit_51, lit_52, lit_53, lit_54, lit_55, lit_56, lit_57, lit_58, lit_59, lit_60, lit_61, lit_62, lit_63, lit_64, lit_97, lit_99, lit_100, lit_122, lit_175, lit_176, lit_200, lit_255, lit_400, lit_700, lit_800, lit_999, lit_1000, lit_1400, lit_2000, lit_2033, lit_2038, lit_2100, lit_2124, lit_8000, lit_10000, lit_12345, lit_32767, lit_1000000, lit_1000000000, ↓bndX_h, ↓bndK_h, bxh_inl, bxh_inr, bkh_inl, bkh_inr, Nat.reduceEqDiff, ↓bnd_h, ↓lt_h, ↓ite_h, bh_some, lh_eq, ih_T, ih_F, ne_eq, not_false_eq_true, not_true_eq_false, eq_self, and_true, true_and, io_def, shI_neg]
  refine Wp.csh (fun c => ?_) (fun c => ?_)
  · have : j = 4 := by omega
    subst this
    exact Wp.ret ⟨hU, hall, hT⟩
  · have hj4 : j < 4 := by omega
    have hb : 24 - 8 * j = 0 ∨ 24 - 8 * j = 8 ∨ 24 - 8 * j = 16 ∨ 24 - 8 * j = 24 := by omega
    have ep := put_io (M := U) (x := io (bitsN x (24 - 8 * j) 8)) K0_3 (show F + j < 700 by omega) (by omega)
    have er : mI (sI U 3 (F + j) (io (bitsN x (24 - 8 * j) 8))) 2 1 = io (F + j) := by rw [mI_sI, if_neg (by omega)]; exact hU
    simp -dsimp (disch := first | assumption | omega) only [lit_0, lit_1, lit_2, lit_3, lit_4, lit_5, lit_6, lit_7, lit_8, lit_9, lit_10, lit_11, lit_12, lit_13, lit_14, lit_15, lit_16, lit_17, lit_18, lit_19, lit_20, lit_21, lit_22, lit_23, lit_24, lit_25, lit_26, lit_27, lit_28, lit_29, lit_30, lit_31, lit_32, lit_33, lit_34, lit_35, lit_36, lit_37, lit_38, lit_39, lit_40, lit_41, lit_42, lit_43, lit_44, lit_45, lit_46, lit_47, lit_48, lit_49, lit_50, lit_51, lit_52, lit_53, lit_54, lit_55, lit_56, lit_57, lit_58, lit_59, lit_60, lit_61, lit_62, lit_63, lit_64, lit_97, lit_99, lit_100, lit_122, lit_175, lit_176, lit_200, lit_255, lit_400, lit_700, lit_800, lit_999, lit_1000, lit_1400, lit_2000, lit_2033, lit_2038, lit_2100, lit_2124, lit_8000, lit_10000, lit_12345, lit_32767, lit_1000000, lit_1000000000, ↓bndX_h, ↓bndK_h, bxh_inl, bxh_inr, bkh_inl, bkh_inr, Nat.reduceEqDiff, ↓bnd_h, ↓lt_h, ↓ite_h, bh_some, lh_eq, ih_T, ih_F, ne_eq, not_false_eq_true, not_true_eq_false, eq_self, and_true, true_and, io_def, p0', hU]
    rw [shI_lt hj4, byte_u x hb, ep]
    simp -dsimp (disch := first | assumption | omega) only [lit_0, lit_1, lit_2, lit_3, lit_4, lit_5, lit_6, lit_7, lit_8, lit_9, lit_10, lit_11, lit_12, lit_13, lit_14, lit_15, lit_16, lit_17, lit_18, lit_19, lit_20, lit_21, lit_22, lit_23, lit_24, lit_25, lit_26, lit_27, lit_28, lit_29, lit_30, lit_31, lit_32, lit_33, lit_34, lit_35, lit_36, lit_37, lit_38, lit_39, lit_40, lit_41, lit_42, lit_43, lit_44, lit_45, lit_46, lit_47, lit_48, lit_49, lit_50, lit_51, lit_52, lit_53, lit_54, lit_55, lit_56, lit_57, lit_58, lit_59, lit_60, lit_61, lit_62, lit_63, lit_64, lit_97, lit_99, lit_100, lit_122, lit_175, lit_176, lit_200, lit_255, lit_400, lit_700, lit_800, lit_999, lit_1000, lit_1400, lit_2000, lit_2033, lit_2038, lit_2100, lit_2124, lit_8000, lit_10000, lit_12345, lit_32767, lit_1000000, lit_1000000000, ↓bndX_h, ↓bndK_h, bxh_inl, bxh_inr, bkh_inl, bkh_inr, Nat.reduceEqDiff, ↓bnd_h, ↓lt_h, ↓ite_h, bh_some, lh_eq, ih_T, ih_F, ne_eq, not_false_eq_true, not_true_eq_false, eq_self, and_true, true_and, io_def, er, io_add]
    rw [← shI_lt hj4, shI_step hj4]
    refine rec (j + 1) _ ⟨by omega, ?_, fun i hi => ?_, hT.step (by omega)⟩ (by omega)
    · rw [mI_sI, if_pos ⟨rfl, rfl⟩, Nat.add_assoc]
    · rw [mI_sI, if_neg (by omega), mI_sI]
      by_cases q : i = j
      · subst q
        rw [if_pos ⟨rfl, rfl⟩]
      · rw [if_neg (by omega)]
        exact hall i (by omega)
/-- the twenty bytes -/
def wdS (a b c d e : Int32) (j : Nat) : Int32 := if j < 4 then a else if j < 8 then b else if j < 12 then c else if j < 16 then d else e
def fdS (a b c d e : Int32) (j : Nat) : Nat := bitsN (wdS a b c d e j) (24 - 8 * (j % 4)) 8
def feedV (V : VV) (a b c d e : Int32) : VV := (vG V, vS V, vB V, vK V, vH V, vT V, vU V, vF V + 20, (fun k => if k < vF V then vP V k else fdS a b c d e (k - vF V)), vE V)
theorem fdS_lt {a b c d e : Int32} {j : Nat} : fdS a b c d e j < 256 := bitsN_lt _ _ (by omega)
theorem okV.feed {V : VV} {a b c d e : Int32} (h : okV V) (hF : vF V + 20 ≤ 700) : okV (feedV V a b c d e) := by
  refine ⟨h.1, hF, fun k hk => ?_⟩
  show (if k < vF V then vP V k else fdS a b c d e (k - vF V)) < 256
  by_cases q : k < vF V
  · rw [if_pos q]; exact h.2.2 k q
  · rw [if_neg q]; exact fdS_lt
theorem c_feed {M : Mem} {F : Nat} {a b c d e : Int32} (hP1 : PC1 M) (h1 : mI M 2 1 = io F) (hF : F + 20 ≤ 700) :
    Wp (zX11_feed 1 a b c d e M) (fun x M' => x = io (F + 20) ∧ mI M' 2 1 = io (F + 20) ∧ (∀ j, j < 20 → mI M' 3 (F + j) = io (fdS a b c d e j)) ∧ TF 2 1 3 F (F + 20) M M') := by
  unfold zX11_feed
  simp -dsimp (disch := first | assumption | omega) only [lit_0, lit_1, lit_2, lit_3, lit_4, lit_5, lit_6, lit_7, lit_8, lit_9, lit_10, lit_11, lit_12, lit_13, lit_14, lit_15, lit_16, lit_17, lit_18, lit_19, lit_20, lit_21, lit_22, lit_23, lit_24, lit_25, lit_26, lit_27, lit_28, lit_29, lit_30, lit_31, lit_32, lit_33, lit_34, lit_35, lit_36, lit_37, lit_38, lit_39, lit_40, lit_41, lit_42, lit_43, lit_44, lit_45, lit_46, lit_47, lit_48, lit_49, lit_50, lit_51, lit_52, lit_53, lit_54, lit_55, lit_56, lit_57, lit_58, lit_59, lit_60, lit_61, lit_62, lit_63, lit_64, lit_97, lit_99, lit_100, lit_122, lit_175, lit_176, lit_200, lit_255, lit_400, lit_700, lit_800, lit_999, lit_1000, lit_1400, lit_2000, lit_2033, lit_2038, lit_2100, lit_2124, lit_8000, lit_10000, lit_12345, lit_32767, lit_1000000, lit_1000000000, ↓bndX_h, ↓bndK_h, bxh_inl, bxh_inr, bkh_inl, bkh_inr, Nat.reduceEqDiff, ↓bnd_h, ↓lt_h, ↓ite_h, bh_some, lh_eq, ih_T, ih_F, ne_eq, not_false_eq_true, not_true_eq_false, eq_self, and_true, true_and, io_def, io_add, io_mul, io_sub, io_lt, io_le, io_eq, io_clamp, io_inbT, io_div, io_mod, io_m1, m1_io, m1_lt, m1_le, neg_1, gI_m1, K0_1, K0_2, PC1.p1_0, h1, hF]
  refine Wp.seqh (c_take hP1 h1 (by omega)) (fun _ M1 ⟨a1, b1, t1⟩ => ?_)
  have hP2 : PC1 M1 := hP1.keep (fun o k _ => t1.2.1 o k)
  simp -dsimp (disch := first | assumption | omega) only [lit_0, lit_1, lit_2, lit_3, lit_4, lit_5, lit_6, lit_7, lit_8, lit_9, lit_10, lit_11, lit_12, lit_13, lit_14, lit_15, lit_16, lit_17, lit_18, lit_19, lit_20, lit_21, lit_22, lit_23, lit_24, lit_25, lit_26, lit_27, lit_28, lit_29, lit_30, lit_31, lit_32, lit_33, lit_34, lit_35, lit_36, lit_37, lit_38, lit_39, lit_40, lit_41, lit_42, lit_43, lit_44, lit_45, lit_46, lit_47, lit_48, lit_49, lit_50, lit_51, lit_52, lit_53, lit_54, lit_55, lit_56, lit_57, lit_58, lit_59, lit_60, lit_61, lit_62, lit_63, lit_64, lit_97, lit_99, lit_100, lit_122, lit_175, lit_176, lit_200, lit_255, lit_400, lit_700, lit_800, lit_999, lit_1000, lit_1400, lit_2000, lit_2033, lit_2038, lit_2100, lit_2124, lit_8000, lit_10000, lit_12345, lit_32767, lit_1000000, lit_1000000000, ↓bndX_h, ↓bndK_h, bxh_inl, bxh_inr, bkh_inl, bkh_inr, Nat.reduceEqDiff, ↓bnd_h, ↓lt_h, ↓ite_h, bh_some, lh_eq, ih_T, ih_F, ne_eq, not_false_eq_true, not_true_eq_false, eq_self, and_true, true_and, io_def, K0_2, PC1.p1_0]
  refine Wp.seqh (c_take hP2 a1 (by omega)) (fun _ M2 ⟨a2, b2, t2⟩ => ?_)
  have hP3 : PC1 M2 := hP2.keep (fun o k _ => t2.2.1 o k)
  simp -dsimp (disch := first | assumption | omega) only [lit_0, lit_1, lit_2, lit_3, lit_4, lit_5, lit_6, lit_7, lit_8, lit_9, lit_10, lit_11, lit_12, lit_13, lit_14, lit_15, lit_16, lit_17, lit_18, lit_19, lit_20, lit_21, lit_22, lit_23, lit_24, lit_25, lit_26, lit_27, lit_28, lit_29, lit_30, lit_31, lit_32, lit_33, lit_34, lit_35, lit_36, lit_37, lit_38, lit_39, lit_40, lit_41, lit_42, lit_43, lit_44, lit_45, lit_46, lit_47, lit_48, lit_49, lit_50, lit_51, lit_52, lit_53, lit_54, lit_55, lit_56, lit_57, lit_58, lit_59, lit_60, lit_61, lit_62, lit_63, lit_64, lit_97, lit_99, lit_100, lit_122, lit_175, lit_176, lit_200, lit_255, lit_400, lit_700, lit_800, lit_999, lit_1000, lit_1400, lit_2000, lit_2033, lit_2038, lit_2100, lit_2124, lit_8000, lit_10000, lit_12345, lit_32767, lit_1000000, lit_1000000000, ↓bndX_h, ↓bndK_h, bxh_inl, bxh_inr, bkh_inl, bkh_inr, Nat.reduceEqDiff, ↓bnd_h, ↓lt_h, ↓ite_h, bh_some, lh_eq, ih_T, ih_F, ne_eq, not_false_eq_true, not_true_eq_false, eq_self, and_true, true_and, io_def, K0_2, PC1.p1_0]
  refine Wp.seqh (c_take hP3 a2 (by omega)) (fun _ M3 ⟨a3, b3, t3⟩ => ?_)
  have hP4 : PC1 M3 := hP3.keep (fun o k _ => t3.2.1 o k)
  simp -dsimp (disch := first | assumption | omega) only [lit_0, lit_1, lit_2, lit_3, lit_4, lit_5, lit_6, lit_7, lit_8, lit_9, lit_10, lit_11, lit_12, lit_13, lit_14, lit_15, lit_16, lit_17, lit_18, lit_19, lit_20, lit_21, lit_22, lit_23, lit_24, lit_25, lit_26, lit_27, lit_28, lit_29, lit_30, lit_31, lit_32, lit_33, lit_34, lit_35, lit_36, lit_37, lit_38, lit_39, lit_40, lit_41, lit_42, lit_43, lit_44, lit_45, lit_46, lit_47, lit_48, lit_49, lit_50, lit_51, lit_52, lit_53, lit_54, lit_55, lit_56, lit_57, lit_58, lit_59, lit_60, lit_61, lit_62, lit_63, lit_64, lit_97, lit_99, lit_100, lit_122, lit_175, lit_176, lit_200, lit_255, lit_400, lit_700, lit_800, lit_999, lit_1000, lit_1400, lit_2000, lit_2033, lit_2038, lit_2100, lit_2124, lit_8000, lit_10000, lit_12345, lit_32767, lit_1000000, lit_1000000000, ↓bndX_h, ↓bndK_h, bxh_inl, bxh_inr, bkh_inl, bkh_inr, Nat.reduceEqDiff, ↓bnd_h, ↓lt_h, ↓ite_h, bh_some, lh_eq, ih_T, ih_F, ne_eq, not_false_eq_true, not_true_eq_false, eq_self, and_true, true_and, io_def, K0_2, PC1.p1_0]
  refine Wp.seqh (c_take hP4 a3 (by omega)) (fun _ M4 ⟨a4, b4, t4⟩ => ?_)
  have hP5 : PC1 M4 := hP4.keep (fun o k _ => t4.2.1 o k)
  simp -dsimp (disch := first | assumption | omega) only [lit_0, lit_1, lit_2, lit_3, lit_4, lit_5, lit_6, lit_7, lit_8, lit_9, lit_10, lit_11, lit_12, lit_13, lit_14, lit_15, lit_16, lit_17, lit_18, lit_19, lit_20, lit_21, lit_22, lit_23, lit_24, lit_25, lit_26, lit_27, lit_28, lit_29, lit_30, lit_31, lit_32, lit_33, lit_34, lit_35, lit_36, lit_37, lit_38, lit_39, lit_40, lit_41, lit_42, lit_43, lit_44, lit_45, lit_46, lit_47, lit_48, lit_49, lit_50, lit_51, lit_52, lit_53, lit_54, lit_55, lit_56, lit_57, lit_58, lit_59, lit_60, lit_61, lit_62, lit_63, lit_64, lit_97, lit_99, lit_100, lit_122, lit_175, lit_176, lit_200, lit_255, lit_400, lit_700, lit_800, lit_999, lit_1000, lit_1400, lit_2000, lit_2033, lit_2038, lit_2100, lit_2124, lit_8000, lit_10000, lit_12345, lit_32767, lit_1000000, lit_1000000000, ↓bndX_h, ↓bndK_h, bxh_inl, bxh_inr, bkh_inl, bkh_inr, Nat.reduceEqDiff, ↓bnd_h, ↓lt_h, ↓ite_h, bh_some, lh_eq, ih_T, ih_F, ne_eq, not_false_eq_true, not_true_eq_false, eq_self, and_true, true_and, io_def, K0_2, PC1.p1_0]
  refine Wp.seqh (c_take hP5 a4 (by omega)) (fun _ M5 ⟨a5, b5, t5⟩ => ?_)
  have hP6 : PC1 M5 := hP5.keep (fun o k _ => t5.2.1 o k)
  simp -dsimp (disch := first | assumption | omega) only [lit_0, lit_1, lit_2, lit_3, lit_4, lit_5, lit_6, lit_7, lit_8, lit_9, lit_10, lit_11, lit_12, lit_13, lit_14, lit_15, lit_16, lit_17, lit_18, lit_19, lit_20, lit_21, lit_22, lit_23, lit_24, lit_25, lit_26, lit_27, lit_28, lit_29, lit_30, lit_31, lit_32, lit_33, lit_34, lit_35, lit_36, lit_37, lit_38, lit_39, lit_40, lit_41, lit_42, lit_43, lit_44, lit_45, lit_46, lit_47, lit_48, lit_49, lit_50, lit_51, lit_52, lit_53, lit_54, lit_55, lit_56, lit_57, lit_58, lit_59, lit_60, lit_61, lit_62, lit_63, lit_64, lit_97, lit_99, lit_100, lit_122, lit_175, lit_176, lit_200, lit_255, lit_400, lit_700, lit_800, lit_999, lit_1000, lit_1400, lit_2000, lit_2033, lit_2038, lit_2100, lit_2124, lit_8000, lit_10000, lit_12345, lit_32767, lit_1000000, lit_1000000000, ↓bndX_h, ↓bndK_h, bxh_inl, bxh_inr, bkh_inl, bkh_inr, Nat.reduceEqDiff, ↓bnd_h, ↓lt_h, ↓ite_h, bh_some, lh_eq, ih_T, ih_F, ne_eq, not_false_eq_true, not_true_eq_false, eq_self, and_true, true_and, io_def, K0_2, PC1.p1_0]
  have e20 : F + 4 + 4 + 4 + 4 + 4 = F + 20 := by omega
  have T2 := t1.trans t2 (by omega) (by omega)
  have T3 := T2.trans t3 (by omega) (by omega)
  have T4 := T3.trans t4 (by omega) (by omega)
  have T5 := T4.trans t5 (by omega) (by omega)
  rw [e20] at T5 a5
  refine Wp.ret ⟨a5, a5, fun j hj => ?_, T5⟩
  unfold fdS wdS
  by_cases c1 : j < 4
  · rw [if_pos c1, t5.1 _ _ (Or.inl (by omega)) (by omega), t4.1 _ _ (Or.inl (by omega)) (by omega), t3.1 _ _ (Or.inl (by omega)) (by omega), t2.1 _ _ (Or.inl (by omega)) (by omega), b1 j c1, show j % 4 = j by omega]
  · rw [if_neg c1]
    by_cases c2 : j < 8
    · have q := b2 (j - 4) (by omega)
      rw [show F + 4 + (j - 4) = F + j by omega] at q
      rw [if_pos c2, t5.1 _ _ (Or.inl (by omega)) (by omega), t4.1 _ _ (Or.inl (by omega)) (by omega), t3.1 _ _ (Or.inl (by omega)) (by omega), q, show j % 4 = j - 4 by omega]
    · rw [if_neg c2]
      by_cases c3 : j < 12
      · have q := b3 (j - 8) (by omega)
        rw [show F + 4 + 4 + (j - 8) = F + j by omega] at q
        rw [if_pos c3, t5.1 _ _ (Or.inl (by omega)) (by omega), t4.1 _ _ (Or.inl (by omega)) (by omega), q, show j % 4 = j - 8 by omega]
      · rw [if_neg c3]
        by_cases c4 : j < 16
        · have q := b4 (j - 12) (by omega)
          rw [show F + 4 + 4 + 4 + (j - 12) = F + j by omega] at q
          rw [if_pos c4, t5.1 _ _ (Or.inl (by omega)) (by omega), q, show j % 4 = j - 12 by omega]
        · have q := b5 (j - 16) (by omega)
          rw [show F + 4 + 4 + 4 + 4 + (j - 16) = F + j by omega] at q
          rw [if_neg c4, q, show j % 4 = j - 16 by omega]
theorem m_feed {N : Mem} {F : Nat} {a b c d e : Int32} (hP : PM N) (h1 : mI N 72 20 = io F) (hF : F + 20 ≤ 700) :
    Wp (zX12_feed_L23 FU 72 a b c d e (io 0) N) (fun x N' => x = io (F + 20) ∧ mI N' 72 20 = io (F + 20) ∧ (∀ j, j < 20 → mI N' 91 (F + j) = io (fdS a b c d e j)) ∧ TF 72 20 91 F (F + 20) N N') := by
  refine loopW (L := fun f (j : Nat) U => zX12_feed_L23 f 72 a b c d e (io j) U) (J := fun j U => j ≤ 20 ∧ mI U 72 20 = io (F + j) ∧ (∀ i, i < j → mI U 91 (F + i) = io (fdS a b c d e i)) ∧ TF 72 20 91 F (F + j) N U) (fun j _ => 20 - j) ?_ FU 0 N ⟨Nat.zero_le _, h1, fun i hi => absurd hi (Nat.not_lt_zero _), TF.refl⟩ (by rw [FU_val]; omega)
  intro f j U ⟨hj, hU, hall, hT⟩ rec
  show Wp (zX12_feed_B23 (zX12_feed_L23 f) 72 a b c d e (io j) U) _
  have hPU : PM U := fun t ht => (hT.2.1 _ _).trans (hP t ht)
  by_cases c20 : j = 20
  · subst c20
    unfold zX12_feed_B23
    simp -dsimp (disch := first | assumption | omega) only [lit_0, lit_1, lit_2, lit_3, lit_4, lit_5, lit_6, lit_7, lit_8, lit_9, lit_10, lit_11, lit_12, lit_13, lit_14, lit_15, lit_16, lit_17, lit_18, lit_19, lit_20, lit_21, lit_22, lit_23, lit_24, lit_25, lit_26, lit_27, lit_28, lit_29, lit_30, lit_31, lit_32, lit_33, lit_34, lit_35, lit_36, lit_37, lit_38, lit_39, lit_40, lit_41, lit_42, lit_43, lit_44, lit_45, lit_46, lit_47, lit_48, lit_49, lit_50, lit_51, lit_52, lit_53, lit_54, lit_55, lit_56, lit_57, lit_58, lit_59, lit_60, lit_61, lit_62, lit_63, lit_64, lit_97, lit_99, lit_100, lit_122, lit_175, lit_176, lit_200, lit_255, lit_400, lit_700, lit_800, lit_999, lit_1000, lit_1400, lit_2000, lit_2033, lit_2038, lit_2100, lit_2124, lit_8000, lit_10000, lit_12345, lit_32767, lit_1000000, lit_1000000000, ↓bndX_h, ↓bndK_h, bxh_inl, bxh_inr, bkh_inl, bkh_inr, Nat.reduceEqDiff, ↓bnd_h, ↓lt_h, ↓ite_h, bh_some, lh_eq, ih_T, ih_F, ne_eq, not_false_eq_true, not_true_eq_false, eq_self, and_true, true_and, io_def, io_add, io_mul, io_sub, io_lt, io_le, io_eq, io_clamp, io_inbT, io_div, io_mod, io_m1, m1_io, m1_lt, m1_le, neg_1, gI_m1, PM.p0, PM.p1, PM.p3, PM.p4, PM.p5, PM.p6, PM.p7, PM.p8, PM.p9, PM.p10, PM.p11, PM.p12, PM.p13, PM.p14, PM.p15, PM.p16, PM.p17, PM.p18, PM.p19, PM.p31, PM.p32, PM.p33, PM.p34, PM.p38, PM.p39, PM.p40, PM.p41, PM.p42, PM.p46, PM.p47, PM.p50, PM.p51, PM.p52, PM.p53, PM.p54, PM.p55, PM.p56, PM.p57, K0_1, K0_2, K0_3, K0_4, K0_5, K0_6, K0_7, K0_8, K0_9, K0_10, K0_11, K0_12, K0_13, K0_14, K0_15, K0_16, K0_17, K0_18, K0_19, K0_20, K0_21, K0_22, K0_23, K0_24, K0_25, K0_26, K0_27, K0_28, K0_29, K0_30, K0_31, K0_32, K0_33, K0_34, K0_35, K0_36, K0_37, K0_38, K0_39, K0_40, K0_41, K0_42, K0_43, K0_44, K0_45, K0_46, K0_47, K0_48, K0_49, K0_50, K0_51, K0_52, K0_53, K0_54, K0_55, K0_56, K0_57, K0_58, K0_59, K0_60, K0_61, K0_62, K0_63, K0_64, K0_65, K0_66, K0_67, K0_68, K0_69, K0_70, K0_71, K0_72, K0_73, K0_74, K0_75, K0_76, K0_77, K0_78, K0_79, K0_80, K0_81, K0_82, K0_83, K0_84, K0_85, K0_86, K0_87, K0_88, K0_89, K0_90, K0_91, K0_92, K0_93, K0_94, K0_95, K0_96, K0_97, K0_98, K0_99, K0_100, K0_101, K0_102, K0_103, K0_104, K0_105, K0_106, K0_107, K0_108, K0_109, K0_110, K0_111, Nat.reduceLeDiff]
    exact Wp.ret ⟨hU, hU, hall, hT⟩
  · have hw : zX12_feed_B23 (zX12_feed_L23 f) 72 a b c d e (io j) U = zX12_feed_B76 (zX12_feed_L23 f) 72 a b c d e (io j) (wdS a b c d e j) U := by
      unfold zX12_feed_B23 wdS
      rw [if_neg (by rw [lit_20, io_le (by omega) (by omega)]; omega)]
      by_cases c1 : j < 4
      · rw [if_pos c1, if_neg (by rw [lit_4, io_le (by omega) (by omega)]; omega)]
      · rw [if_neg c1, if_pos (by rw [lit_4, io_le (by omega) (by omega)]; omega)]
        by_cases c2 : j < 8
        · rw [if_pos c2, if_neg (by rw [lit_8, io_le (by omega) (by omega)]; omega)]
        · rw [if_neg c2, if_pos (by rw [lit_8, io_le (by omega) (by omega)]; omega)]
          by_cases c3 : j < 12
          · rw [if_pos c3, if_neg (by rw [lit_12, io_le (by omega) (by omega)]; omega)]
          · rw [if_neg c3, if_pos (by rw [lit_12, io_le (by omega) (by omega)]; omega)]
            by_cases c4 : j < 16
            · rw [if_pos c4, if_neg (by rw [lit_16, io_le (by omega) (by omega)]; omega)]
            · rw [if_neg c4, if_pos (by rw [lit_16, io_le (by omega) (by omega)]; omega)]
    rw [hw]
    unfold zX12_feed_B76
    have hb : 24 - 8 * (j % 4) = 0 ∨ 24 - 8 * (j % 4) = 8 ∨ 24 - 8 * (j % 4) = 16 ∨ 24 - 8 * (j % 4) = 24 := by omega
    have e1 : (wdS a b c d e j >>> ((io 24 - io 8 * (io j % io 4)) &&& io 31)) &&& io 255 = io (fdS a b c d e j) := by
      rw [io_mod (by omega) (by omega), io_mul, io_sub (by omega)]
      exact byte_s _ hb
    have er : mI (sI U 91 (F + j) (io (fdS a b c d e j))) 72 20 = io (F + j) := by rw [mI_sI, if_neg (by omega)]; exact hU
    simp -dsimp (disch := first | assumption | omega) only [lit_0, lit_1, lit_2, lit_3, lit_4, lit_5, lit_6, lit_7, lit_8, lit_9, lit_10, lit_11, lit_12, lit_13, lit_14, lit_15, lit_16, lit_17, lit_18, lit_19, lit_20, lit_21, lit_22, lit_23, lit_24, lit_25, lit_26, lit_27, lit_28, lit_29, lit_30, lit_31, lit_32, lit_33, lit_34, lit_35, lit_36, lit_37, lit_38, lit_39, lit_40, lit_41, lit_42, lit_43, lit_44, lit_45, lit_46, lit_47, lit_48, lit_49, lit_50, lit_51, lit_52, lit_53, lit_54, lit_55, lit_56, lit_57, lit_58, lit_59, lit_60, lit_61, lit_62, lit_63, lit_64, lit_97, lit_99, lit_100, lit_122, lit_175, lit_176, lit_200, lit_255, lit_400, lit_700, lit_800, lit_999, lit_1000, lit_1400, lit_2000, lit_2033, lit_2038, lit_2100, lit_2124, lit_8000, lit_10000, lit_12345, lit_32767, lit_1000000, lit_1000000000, ↓bndX_h, ↓bndK_h, bxh_inl, bxh_inr, bkh_inl, bkh_inr, Nat.reduceEqDiff, ↓bnd_h, ↓lt_h, ↓ite_h, bh_some, lh_eq, ih_T, ih_F, ne_eq, not_false_eq_true, not_true_eq_false, eq_self, and_true, true_and, io_def, PM.p0, PM.p1, PM.p3, PM.p4, PM.p5, PM.p6, PM.p7, PM.p8, PM.p9, PM.p10, PM.p11, PM.p12, PM.p13, PM.p14, PM.p15, PM.p16, PM.p17, PM.p18, PM.p19, PM.p31, PM.p32, PM.p33, PM.p34, PM.p38, PM.p39, PM.p40, PM.p41, PM.p42, PM.p46, PM.p47, PM.p50, PM.p51, PM.p52, PM.p53, PM.p54, PM.p55, PM.p56, PM.p57, K0_1, K0_2, K0_3, K0_4, K0_5, K0_6, K0_7, K0_8, K0_9, K0_10, K0_11, K0_12, K0_13, K0_14, K0_15, K0_16, K0_17, K0_18, K0_19, K0_20, K0_21, K0_22, K0_23, K0_24, K0_25, K0_26, K0_27, K0_28, K0_29, K0_30, K0_31, K0_32, K0_33, K0_34, K0_35, K0_36, K0_37, K0_38, K0_39, K0_40, K0_41, K0_42, K0_43, K0_44, K0_45, K0_46, K0_47, K0_48, K0_49, K0_50, K0_51, K0_52, K0_53, K0_54, K0_55, K0_56, K0_57, K0_58, K0_59, K0_60, K0_61, K0_62, K0_63, K0_64, K0_65, K0_66, K0_67, K0_68, K0_69, K0_70, K0_71, K0_72, K0_73, K0_74, K0_75, K0_76, K0_77, K0_78, K0_79, K0_80, K0_81, K0_82, K0_83, K0_84, K0_85, K0_86, K0_87, K0_88, K0_89, K0_90, K0_91, K0_92, K0_93, K0_94, K0_95, K0_96, K0_97, K0_98, K0_99, K0_100, K0_101, K0_102, K0_103, K0_104, K0_105, K0_106, K0_107, K0_108, K0_109, K0_110, K0_111, hU, io_clamp, io_inbT, e1]
    simp -dsimp (disch := first | assumption | omega) only [lit_0, lit_1, lit_2, lit_3, lit_4, lit_5, lit_6, lit_7, lit_8, lit_9, lit_10, lit_11, lit_12, lit_13, lit_14, lit_15, lit_16, lit_17, lit_18, lit_19, lit_20, lit_21, lit_22, lit_23, lit_24, lit_25, lit_26, lit_27, lit_28, lit_29, lit_30, lit_31, lit_32, lit_33, lit_34, lit_35, lit_36, lit_37, lit_38, lit_39, lit_40, lit_41, lit_42, lit_43, lit_44, lit_45, lit_46, lit_47, lit_48, lit_49, lit_50, lit_51, lit_52, lit_53, lit_54, lit_55, lit_56, lit_57, lit_58, lit_59, lit_60, lit_61, lit_62, lit_63, lit_64, lit_97, lit_99, lit_100, lit_122, lit_175, lit_176, lit_200, lit_255, lit_400, lit_700, lit_800, lit_999, lit_1000, lit_1400, lit_2000, lit_2033, lit_2038, lit_2100, lit_2124, lit_8000, lit_10000, lit_12345, lit_32767, lit_1000000, lit_1000000000, ↓bndX_h, ↓bndK_h, bxh_inl, bxh_inr, bkh_inl, bkh_inr, Nat.reduceEqDiff, ↓bnd_h, ↓lt_h, ↓ite_h, bh_some, lh_eq, ih_T, ih_F, ne_eq, not_false_eq_true, not_true_eq_false, eq_self, and_true, true_and, io_def, er, io_add]
    refine rec (j + 1) _ ⟨by omega, ?_, fun i hi => ?_, hT.step (by omega)⟩ (by omega)
    · rw [mI_sI, if_pos ⟨rfl, rfl⟩, Nat.add_assoc]
    · rw [mI_sI, if_neg (by omega), mI_sI]
      by_cases q : i = j
      · subst q
        rw [if_pos ⟨rfl, rfl⟩]
      · rw [if_neg (by omega)]
        exact hall i (by omega)
theorem op_feed (a b c d e : Int32) : OpI (zX11_feed 1 a b c d e) (zX12_feed 72 a b c d e) := by
  intro M R V hV hIp hIs
  have hP1 := hIp.1
  have hF := hV.2.1
  have f1 := hIp.2.2.2.2.2.2.1
  by_cases hc : vF V + 20 ≤ 700
  · refine ⟨R, feedV V a b c d e, io (vF V + 20), hV.feed hc, ?_, fun N hN => ?_⟩
    · refine (c_feed (a := a) (b := b) (c := c) (d := d) (e := e) hP1 f1 hc).mono (fun x M' ⟨hx, g1, g2, g3⟩ => ?_)
      obtain ⟨q1, q2, q3, q4, q5, q6, q7, q8, q9⟩ := hIp
      have hI : ∀ o k, o ≠ 2 → o ≠ 3 → mI M' o k = mI M o k := fun o k h1 h2 => g3.1 o k (Or.inl h1) (Or.inl h2)
      refine ⟨hx, ⟨hP1.keep (fun o k _ => g3.2.1 o k), q2.keep (fun o k _ => g3.2.1 o k), fun g hg => ?_, ?_, fun i hi => ?_, fun q i hi => ?_, g1, fun k hk => ?_, ?_⟩, hIs.keep (fun o k h1 h2 => hI o k (by omega) (by omega)) (fun o k _ _ => g3.2.1 o k), fun o ho k => ?_, fun o _ _ k => g3.2.2 o k, fun o _ k => g3.2.1 o k⟩
      · obtain ⟨a1, a2, a3, a4⟩ := q3 g hg
        obtain ⟨i1, i2, i3, i4⟩ := ids q2 hg
        exact ⟨a1.keep (fun j hj k => hI _ _ (by omega) (by omega)), a2.keep (fun k => hI _ _ (by omega) (by omega)), a3.keep (fun j hj k => hI _ _ (by omega) (by omega)), fun q => (a4 q).keep (fun j hj k => hI _ _ (by omega) (by omega))⟩
      · rw [hI _ _ (by omega) (by omega)]; exact q4
      · rw [hI _ _ (by omega) (by omega)]; exact q5 i hi
      · rw [hI _ _ (by omega) (by omega)]; exact q6 q i hi
      · show mI M' 3 k = io (if k < vF V then vP V k else fdS a b c d e (k - vF V))
        have hk' : k < vF V + 20 := hk
        by_cases q : k < vF V
        · rw [if_pos q, g3.1 _ _ (Or.inl (by omega)) (by omega)]
          exact q8 k q
        · rw [if_neg q]
          have z := g2 (k - vF V) (by omega)
          rw [show vF V + (k - vF V) = k by omega] at z
          exact z
      · exact ⟨by rw [hI _ _ (by omega) (by omega)]; exact q9.1, fun r hr => by rw [hI _ _ (by rcases hr with rfl | rfl | rfl <;> omega) (by rcases hr with rfl | rfl | rfl <;> omega)]; exact q9.2 r hr⟩
      · simp only [ob, Bool.and_true, Bool.or_eq_true, decide_eq_true_eq] at ho
        exact hI _ _ (by omega) (by omega)
    · obtain ⟨h1, h2, h3, h4, h5, h6, h7, h8⟩ := hN
      have hP0 : PM (sI N 72 2 (io 0)) := h1
      have e20 : mI (sI N 72 2 (io 0)) 72 20 = io (vF V) := by rw [mI_sI, if_neg (by omega)]; exact h6
      unfold zX12_feed
      simp -dsimp (disch := first | assumption | omega) only [lit_0, lit_1, lit_2, lit_3, lit_4, lit_5, lit_6, lit_7, lit_8, lit_9, lit_10, lit_11, lit_12, lit_13, lit_14, lit_15, lit_16, lit_17, lit_18, lit_19, lit_20, lit_21, lit_22, lit_23, lit_24, lit_25, lit_26, lit_27, lit_28, lit_29, lit_30, lit_31, lit_32, lit_33, lit_34, lit_35, lit_36, lit_37, lit_38, lit_39, lit_40, lit_41, lit_42, lit_43, lit_44, lit_45, lit_46, lit_47, lit_48, lit_49, lit_50, lit_51, lit_52, lit_53, lit_54, lit_55, lit_56, lit_57, lit_58, lit_59, lit_60, lit_61, lit_62, lit_63, lit_64, lit_97, lit_99, lit_100, lit_122, lit_175, lit_176, lit_200, lit_255, lit_400, lit_700, lit_800, lit_999, lit_1000, lit_1400, lit_2000, lit_2033, lit_2038, lit_2100, lit_2124, lit_8000, lit_10000, lit_12345, lit_32767, lit_1000000, lit_1000000000, ↓bndX_h, ↓bndK_h, bxh_inl, bxh_inr, bkh_inl, bkh_inr, Nat.reduceEqDiff, ↓bnd_h, ↓lt_h, ↓ite_h, bh_some, lh_eq, ih_T, ih_F, ne_eq, not_false_eq_true, not_true_eq_false, eq_self, and_true, true_and, io_def, io_add, io_mul, io_sub, io_lt, io_le, io_eq, io_clamp, io_inbT, io_div, io_mod, io_m1, m1_io, m1_lt, m1_le, neg_1, gI_m1, PM.p0, PM.p1, PM.p3, PM.p4, PM.p5, PM.p6, PM.p7, PM.p8, PM.p9, PM.p10, PM.p11, PM.p12, PM.p13, PM.p14, PM.p15, PM.p16, PM.p17, PM.p18, PM.p19, PM.p31, PM.p32, PM.p33, PM.p34, PM.p38, PM.p39, PM.p40, PM.p41, PM.p42, PM.p46, PM.p47, PM.p50, PM.p51, PM.p52, PM.p53, PM.p54, PM.p55, PM.p56, PM.p57, K0_1, K0_2, K0_3, K0_4, K0_5, K0_6, K0_7, K0_8, K0_9, K0_10, K0_11, K0_12, K0_13, K0_14, K0_15, K0_16, K0_17, K0_18, K0_19, K0_20, K0_21, K0_22, K0_23, K0_24, K0_25, K0_26, K0_27, K0_28, K0_29, K0_30, K0_31, K0_32, K0_33, K0_34, K0_35, K0_36, K0_37, K0_38, K0_39, K0_40, K0_41, K0_42, K0_43, K0_44, K0_45, K0_46, K0_47, K0_48, K0_49, K0_50, K0_51, K0_52, K0_53, K0_54, K0_55, K0_56, K0_57, K0_58, K0_59, K0_60, K0_61, K0_62, K0_63, K0_64, K0_65, K0_66, K0_67, K0_68, K0_69, K0_70, K0_71, K0_72, K0_73, K0_74, K0_75, K0_76, K0_77, K0_78, K0_79, K0_80, K0_81, K0_82, K0_83, K0_84, K0_85, K0_86, K0_87, K0_88, K0_89, K0_90, K0_91, K0_92, K0_93, K0_94, K0_95, K0_96, K0_97, K0_98, K0_99, K0_100, K0_101, K0_102, K0_103, K0_104, K0_105, K0_106, K0_107, K0_108, K0_109, K0_110, K0_111, h6, e20, hc]
      refine (m_feed (a := a) (b := b) (c := c) (d := d) (e := e) hP0 e20 hc).mono (fun x N' ⟨hx, g1, g2, g3⟩ => ?_)
      have hI : ∀ o k, (o ≠ 72 ∨ (k ≠ 2 ∧ k ≠ 20)) → o ≠ 91 → mI N' o k = mI N o k := fun o k q1 q2 => by
        rw [g3.1 o k (by omega) (Or.inl q2), mI_sI, if_neg (by omega)]
      have hI' : ∀ o, o ≠ 72 → o ≠ 91 → ∀ k, mI N' o k = mI N o k := fun o q1 q2 k => hI o k (Or.inl q1) q2
      refine ⟨hx, ⟨fun t ht => (g3.2.1 _ _).trans (h1 t ht), fun g hg => ?_, ?_, fun i hi => ?_, fun q i hi => ?_, g1, fun k hk => ?_, ?_⟩, fun o ho k => ?_, fun o _ _ k => g3.2.2 o k, fun o _ k => g3.2.1 o k⟩
      · obtain ⟨a1, a2, a3, a4⟩ := h2 g hg
        refine ⟨a1.keep (fun o q1 q2 k => hI _ _ (by omega) (by omega)), a2.keep (fun k => hI _ _ (by omega) (by omega)), ?_, fun q => ?_⟩
        · show MBk _ 83 g (vB V g)
          simpa only [MBk, Nat.reduceAdd, hI' 83 (by omega) (by omega), hI' 84 (by omega) (by omega), hI' 85 (by omega) (by omega), hI' 86 (by omega) (by omega), hI' 87 (by omega) (by omega), hI' 88 (by omega) (by omega), hI' 89 (by omega) (by omega)] using a3
        · show MBk _ 103 g (vK V g)
          simpa only [MBk, Nat.reduceAdd, hI' 103 (by omega) (by omega), hI' 104 (by omega) (by omega), hI' 105 (by omega) (by omega), hI' 106 (by omega) (by omega), hI' 107 (by omega) (by omega), hI' 108 (by omega) (by omega), hI' 109 (by omega) (by omega)] using a4 q
      · rw [hI _ _ (by omega) (by omega)]; exact h3
      · rw [hI _ _ (by omega) (by omega)]; exact h4 i hi
      · rw [hI _ _ (by omega) (by omega)]; exact h5 q i hi
      · show mI N' 91 k = io (if k < vF V then vP V k else fdS a b c d e (k - vF V))
        have hk' : k < vF V + 20 := hk
        by_cases q : k < vF V
        · rw [if_pos q, g3.1 _ _ (Or.inl (by omega)) (by omega), mI_sI, if_neg (by omega)]
          exact h7 k q
        · rw [if_neg q]
          have z := g2 (k - vF V) (by omega)
          rw [show vF V + (k - vF V) = k by omega] at z
          exact z
      · rw [hI _ _ (by omega) (by omega)]; exact h8
      · simp only [ob, Bool.and_true, Bool.or_eq_true, decide_eq_true_eq] at ho
        exact hI _ _ (by omega) (by omega)
  · refine ⟨R, V, m1, hV, ?_, fun N hN => ?_⟩
    · unfold zX11_feed
      simp -dsimp (disch := first | assumption | omega) only [lit_0, lit_1, lit_2, lit_3, lit_4, lit_5, lit_6, lit_7, lit_8, lit_9, lit_10, lit_11, lit_12, lit_13, lit_14, lit_15, lit_16, lit_17, lit_18, lit_19, lit_20, lit_21, lit_22, lit_23, lit_24, lit_25, lit_26, lit_27, lit_28, lit_29, lit_30, lit_31, lit_32, lit_33, lit_34, lit_35, lit_36, lit_37, lit_38, lit_39, lit_40, lit_41, lit_42, lit_43, lit_44, lit_45, lit_46, lit_47, lit_48, lit_49, lit_50, lit_51, lit_52, lit_53, lit_54, lit_55, lit_56, lit_57, lit_58, lit_59, lit_60, lit_61, lit_62, lit_63, lit_64, lit_97, lit_99, lit_100, lit_122, lit_175, lit_176, lit_200, lit_255, lit_400, lit_700, lit_800, lit_999, lit_1000, lit_1400, lit_2000, lit_2033, lit_2038, lit_2100, lit_2124, lit_8000, lit_10000, lit_12345, lit_32767, lit_1000000, lit_1000000000, ↓bndX_h, ↓bndK_h, bxh_inl, bxh_inr, bkh_inl, bkh_inr, Nat.reduceEqDiff, ↓bnd_h, ↓lt_h, ↓ite_h, bh_some, lh_eq, ih_T, ih_F, ne_eq, not_false_eq_true, not_true_eq_false, eq_self, and_true, true_and, io_def, io_add, io_mul, io_sub, io_lt, io_le, io_eq, io_clamp, io_inbT, io_div, io_mod, io_m1, m1_io, m1_lt, m1_le, neg_1, gI_m1, K0_1, K0_2, PC1.p1_0, f1, hc]
      exact Wp.ret ⟨rfl, hIp, hIs, Fg.refl⟩
    · have e20 : mI (sI N 72 2 (io 0)) 72 20 = io (vF V) := by rw [mI_sI, if_neg (by omega)]; exact hN.2.2.2.2.2.1
      unfold zX12_feed
      simp -dsimp (disch := first | assumption | omega) only [lit_0, lit_1, lit_2, lit_3, lit_4, lit_5, lit_6, lit_7, lit_8, lit_9, lit_10, lit_11, lit_12, lit_13, lit_14, lit_15, lit_16, lit_17, lit_18, lit_19, lit_20, lit_21, lit_22, lit_23, lit_24, lit_25, lit_26, lit_27, lit_28, lit_29, lit_30, lit_31, lit_32, lit_33, lit_34, lit_35, lit_36, lit_37, lit_38, lit_39, lit_40, lit_41, lit_42, lit_43, lit_44, lit_45, lit_46, lit_47, lit_48, lit_49, lit_50, lit_51, lit_52, lit_53, lit_54, lit_55, lit_56, lit_57, lit_58, lit_59, lit_60, lit_61, lit_62, lit_63, lit_64, lit_97, lit_99, lit_100, lit_122, lit_175, lit_176, lit_200, lit_255, lit_400, lit_700, lit_800, lit_999, lit_1000, lit_1400, lit_2000, lit_2033, lit_2038, lit_2100, lit_2124, lit_8000, lit_10000, lit_12345, lit_32767, lit_1000000, lit_1000000000, ↓bndX_h, ↓bndK_h, bxh_inl, bxh_inr, bkh_inl, bkh_inr, Nat.reduceEqDiff, ↓bnd_h, ↓lt_h, ↓ite_h, bh_some, lh_eq, ih_T, ih_F, ne_eq, not_false_eq_true, not_true_eq_false, eq_self, and_true, true_and, io_def, io_add, io_mul, io_sub, io_lt, io_le, io_eq, io_clamp, io_inbT, io_div, io_mod, io_m1, m1_io, m1_lt, m1_le, neg_1, gI_m1, PM.p0, PM.p1, PM.p3, PM.p4, PM.p5, PM.p6, PM.p7, PM.p8, PM.p9, PM.p10, PM.p11, PM.p12, PM.p13, PM.p14, PM.p15, PM.p16, PM.p17, PM.p18, PM.p19, PM.p31, PM.p32, PM.p33, PM.p34, PM.p38, PM.p39, PM.p40, PM.p41, PM.p42, PM.p46, PM.p47, PM.p50, PM.p51, PM.p52, PM.p53, PM.p54, PM.p55, PM.p56, PM.p57, K0_1, K0_2, K0_3, K0_4, K0_5, K0_6, K0_7, K0_8, K0_9, K0_10, K0_11, K0_12, K0_13, K0_14, K0_15, K0_16, K0_17, K0_18, K0_19, K0_20, K0_21, K0_22, K0_23, K0_24, K0_25, K0_26, K0_27, K0_28, K0_29, K0_30, K0_31, K0_32, K0_33, K0_34, K0_35, K0_36, K0_37, K0_38, K0_39, K0_40, K0_41, K0_42, K0_43, K0_44, K0_45, K0_46, K0_47, K0_48, K0_49, K0_50, K0_51, K0_52, K0_53, K0_54, K0_55, K0_56, K0_57, K0_58, K0_59, K0_60, K0_61, K0_62, K0_63, K0_64, K0_65, K0_66, K0_67, K0_68, K0_69, K0_70, K0_71, K0_72, K0_73, K0_74, K0_75, K0_76, K0_77, K0_78, K0_79, K0_80, K0_81, K0_82, K0_83, K0_84, K0_85, K0_86, K0_87, K0_88, K0_89, K0_90, K0_91, K0_92, K0_93, K0_94, K0_95, K0_96, K0_97, K0_98, K0_99, K0_100, K0_101, K0_102, K0_103, K0_104, K0_105, K0_106, K0_107, K0_108, K0_109, K0_110, K0_111, e20, hc]
      exact Wp.ret ⟨rfl, hN.code, Fg.refl.sI rfl⟩
