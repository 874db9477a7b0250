/-! ===== LEVEL 2: weakest preconditions, small ints ===== -/
def Wp {α : Type} (F : Option (α × Mem)) (Q : α → Mem → Prop) : Prop := ∃ x M', F = some (x, M') ∧ Q x M'
theorem Wp.ret {α : Type} {x : α} {M : Mem} {Q : α → Mem → Prop} (h : Q x M) : Wp (some (x, M)) Q := ⟨x, M, rfl, h⟩
theorem Wp.bd {α β : Type} {F : Option (α × Mem)} {k : α → Mem → Option (β × Mem)} {Q : β → Mem → Prop} (h : Wp F (fun x M => Wp (k x M) Q)) : Wp (bnd F k) Q := by
  obtain ⟨x, M, e, h⟩ := h
  rw [e]
  exact h
theorem Wp.seq {α β : Type} {F : Option (α × Mem)} {P : α → Mem → Prop} {k : α → Mem → Option (β × Mem)} {Q : β → Mem → Prop} (h : Wp F P) (hk : ∀ x M, P x M → Wp (k x M) Q) : Wp (bnd F k) Q := by
  obtain ⟨x, M, e, h⟩ := h
  rw [e]
  exact hk x M h
theorem Wp.mono {α : Type} {F : Option (α × Mem)} {P Q : α → Mem → Prop} (h : Wp F P) (hk : ∀ x M, P x M → Q x M) : Wp F Q := by
  obtain ⟨x, M, e, h⟩ := h
  exact ⟨x, M, e, hk x M h⟩
theorem Wp.lt1 {α β : Type} {x : β} {k : β → Option (α × Mem)} {Q : α → Mem → Prop} (h : Wp (k x) Q) : Wp (lt x k) Q := h
theorem Wp.chk {α : Type} {c : Prop} {i : Decidable c} {F : Option (α × Mem)} {Q : α → Mem → Prop} (h : c) (hk : Wp F Q) : Wp (@ite _ c i F none) Q := by
  rw [if_pos h]
  exact hk
theorem Wp.pos {α : Type} {c : Prop} {i : Decidable c} {F G : Option (α × Mem)} {Q : α → Mem → Prop} (h : c) (hk : Wp F Q) : Wp (@ite _ c i F G) Q := by
  rw [if_pos h]
  exact hk
theorem Wp.neg {α : Type} {c : Prop} {i : Decidable c} {F G : Option (α × Mem)} {Q : α → Mem → Prop} (h : ¬ c) (hk : Wp G Q) : Wp (@ite _ c i F G) Q := by
  rw [if_neg h]
  exact hk
theorem Wp.cs {α : Type} {c : Prop} {i : Decidable c} {F G : Option (α × Mem)} {Q : α → Mem → Prop} (h1 : c → Wp F Q) (h2 : ¬ c → Wp G Q) : Wp (@ite _ c i F G) Q := by
  by_cases h : c
  · rw [if_pos h]; exact h1 h
  · rw [if_neg h]; exact h2 h
theorem Wp.eq {α : Type} {F : Option (α × Mem)} {x : α} {M : Mem} (h : Wp F (fun y N => y = x ∧ N = M)) : F = some (x, M) := by
  obtain ⟨y, N, e, rfl, rfl⟩ := h
  exact e
theorem Wp.of {α : Type} {F : Option (α × Mem)} {x : α} {M : Mem} {Q : α → Mem → Prop} (e : F = some (x, M)) (h : Q x M) : Wp F Q := ⟨x, M, e, h⟩
/-! small ints -/
def io (n : Nat) : Int32 := Int32.ofNat n
theorem io_def (n : Nat) : Int32.ofNat n = io n := rfl
theorem io_toInt {a : Nat} (h : a < 2147483648) : (io a).toInt = a := Int32.toInt_ofNat_of_lt h
theorem io_add (a b : Nat) : io a + io b = io (a + b) := (Int32.ofNat_add a b).symm
theorem io_mul (a b : Nat) : io a * io b = io (a * b) := (Int32.ofNat_mul a b).symm
theorem io_sub {a b : Nat} (h : b ≤ a) : io a - io b = io (a - b) := by
  have : io a = io (a - b) + io b := by rw [io_add]; congr 1; omega
  rw [this]
  exact Int32.add_sub_cancel _ _
theorem io_lt {a b : Nat} (ha : a < 2147483648) (hb : b < 2147483648) : (io a < io b) = (a < b) := by
  rw [Int32.lt_iff_toInt_lt, io_toInt ha, io_toInt hb]
  exact propext ⟨fun h => by omega, fun h => by omega⟩
theorem io_le {a b : Nat} (ha : a < 2147483648) (hb : b < 2147483648) : (io a ≤ io b) = (a ≤ b) := by
  rw [Int32.le_iff_toInt_le, io_toInt ha, io_toInt hb]
  exact propext ⟨fun h => by omega, fun h => by omega⟩
theorem io_eq {a b : Nat} (ha : a < 2147483648) (hb : b < 2147483648) : (io a = io b) = (a = b) := by
  rw [← Int32.toInt_inj, io_toInt ha, io_toInt hb]
  exact propext ⟨fun h => by omega, fun h => by omega⟩
theorem io_clamp {a : Nat} (h : a < 2147483648) : (io a).toNatClampNeg = a := Int32.toNatClampNeg_ofNat_of_lt h
theorem io_inb {a n : Nat} (h : a < 2147483648) : (inb (io a) n = true) = (a < n) := by
  have h0 : ¬ (io a < 0) := by
    rw [Int32.lt_iff_toInt_lt, io_toInt h]
    have : (0 : Int32).toInt = 0 := by decide
    omega
  unfold inb
  rw [io_clamp h]
  simp only [decide_eq_true_eq]
  exact propext ⟨fun q => by omega, fun q r => by rcases r with r | r; exact h0 r; omega⟩
theorem io_inbT {a n : Nat} (h : a < n) (hn : n ≤ 2147483648) : (inb (io a) n = true) = True := by
  rw [io_inb (by omega)]
  exact eq_true h
theorem io_m1 {a : Nat} (h : a < 2147483648) : (io a = -1) = False := by
  rw [← Int32.toInt_inj, io_toInt h]
  have : (-1 : Int32).toInt = -1 := by decide
  exact propext ⟨fun h => by omega, fun h => h.elim⟩
theorem io_div {a b : Nat} (ha : a < 2147483648) (hb : b < 2147483648) : io a / io b = io (a / b) := by
  rw [← Int32.toInt_inj, Int32.toInt_div, io_toInt ha, io_toInt hb, io_toInt (Nat.lt_of_le_of_lt (Nat.div_le_self a b) ha)]
  have h1 : ((a : Int).tdiv b) = ((a / b : Nat) : Int) := by
    rw [Int.ofNat_tdiv]
  rw [h1]
  have h2 : a / b ≤ a := Nat.div_le_self a b
  generalize a / b = q at h2 ⊢
  rw [Int.bmod_def]
  split <;> omega
theorem io_mod {a b : Nat} (ha : a < 2147483648) (hb : b < 2147483648) : io a % io b = io (a % b) := by
  rw [← Int32.toInt_inj, Int32.toInt_mod, io_toInt ha, io_toInt hb, io_toInt (Nat.lt_of_le_of_lt (Nat.mod_le a b) ha)]
  rw [Int.ofNat_tmod]
theorem lit_0 : (0 : Int32) = io 0 := rfl
theorem lit_1 : (1 : Int32) = io 1 := rfl
theorem lit_2 : (2 : Int32) = io 2 := rfl
theorem lit_3 : (3 : Int32) = io 3 := rfl
theorem lit_4 : (4 : Int32) = io 4 := rfl
theorem lit_5 : (5 : Int32) = io 5 := rfl
theorem lit_6 : (6 : Int32) = io 6 := rfl
theorem lit_7 : (7 : Int32) = io 7 := rfl
theorem lit_8 : (8 : Int32) = io 8 := rfl
theorem lit_9 : (9 : Int32) = io 9 := rfl
theorem lit_10 : (10 : Int32) = io 10 := rfl
theorem lit_11 : (11 : Int32) = io 11 := rfl
theorem lit_12 : (12 : Int32) = io 12 := rfl
theorem lit_13 : (13 : Int32) = io 13 := rfl
theorem lit_14 : (14 : Int32) = io 14 := rfl
theorem lit_15 : (15 : Int32) = io 15 := rfl
theorem lit_16 : (16 : Int32) = io 16 := rfl
theorem lit_17 : (17 : Int32) = io 17 := rfl
theorem lit_18 : (18 : Int32) = io 18 := rfl
theorem lit_19 : (19 : Int32) = io 19 := rfl
theorem lit_20 : (20 : Int32) = io 20 := rfl
theorem lit_21 : (21 : Int32) = io 21 := rfl
theorem lit_22 : (22 : Int32) = io 22 := rfl
theorem lit_23 : (23 : Int32) = io 23 := rfl
theorem lit_24 : (24 : Int32) = io 24 := rfl
theorem lit_25 : (25 : Int32) = io 25 := rfl
theorem lit_26 : (26 : Int32) = io 26 := rfl
theorem lit_27 : (27 : Int32) = io 27 := rfl
theorem lit_28 : (28 : Int32) = io 28 := rfl
theorem lit_29 : (29 : Int32) = io 29 := rfl
theorem lit_30 : (30 : Int32) = io 30 := rfl
theorem lit_31 : (31 : Int32) = io 31 := rfl
theorem lit_32 : (32 : Int32) = io 32 := rfl
theorem lit_33 : (33 : Int32) = io 33 := rfl
theorem lit_34 : (34 : Int32) = io 34 := rfl
theorem lit_35 : (35 : Int32) = io 35 := rfl
theorem lit_36 : (36 : Int32) = io 36 := rfl
theorem lit_37 : (37 : Int32) = io 37 := rfl
theorem lit_38 : (38 : Int32) = io 38 := rfl
theorem lit_39 : (39 : Int32) = io 39 := rfl
theorem lit_40 : (40 : Int32) = io 40 := rfl
theorem lit_41 : (41 : Int32) = io 41 := rfl
theorem lit_42 : (42 : Int32) = io 42 := rfl
theorem lit_43 : (43 : Int32) = io 43 := rfl
theorem lit_44 : (44 : Int32) = io 44 := rfl
theorem lit_45 : (45 : Int32) = io 45 := rfl
theorem lit_46 : (46 : Int32) = io 46 := rfl
theorem lit_47 : (47 : Int32) = io 47 := rfl
theorem lit_48 : (48 : Int32) = io 48 := rfl
theorem lit_49 : (49 : Int32) = io 49 := rfl
theorem lit_50 : (50 : Int32) = io 50 := rfl
theorem lit_51 : (51 : Int32) = io 51 := rfl
theorem lit_52 : (52 : Int32) = io 52 := rfl
theorem lit_53 : (53 : Int32) = io 53 := rfl
theorem lit_54 : (54 : Int32) = io 54 := rfl
theorem lit_55 : (55 : Int32) = io 55 := rfl
theorem lit_56 : (56 : Int32) = io 56 := rfl
theorem lit_57 : (57 : Int32) = io 57 := rfl
theorem lit_58 : (58 : Int32) = io 58 := rfl
theorem lit_59 : (59 : Int32) = io 59 := rfl
theorem lit_60 : (60 : Int32) = io 60 := rfl
theorem lit_61 : (61 : Int32) = io 61 := rfl
theorem lit_62 : (62 : Int32) = io 62 := rfl
theorem lit_63 : (63 : Int32) = io 63 := rfl
theorem lit_64 : (64 : Int32) = io 64 := rfl
theorem lit_97 : (97 : Int32) = io 97 := rfl
theorem lit_99 : (99 : Int32) = io 99 := rfl
theorem lit_100 : (100 : Int32) = io 100 := rfl
theorem lit_122 : (122 : Int32) = io 122 := rfl
theorem lit_175 : (175 : Int32) = io 175 := rfl
theorem lit_176 : (176 : Int32) = io 176 := rfl
theorem lit_200 : (200 : Int32) = io 200 := rfl
theorem lit_255 : (255 : Int32) = io 255 := rfl
theorem lit_400 : (400 : Int32) = io 400 := rfl
theorem lit_700 : (700 : Int32) = io 700 := rfl
theorem lit_800 : (800 : Int32) = io 800 := rfl
theorem lit_999 : (999 : Int32) = io 999 := rfl
theorem lit_1000 : (1000 : Int32) = io 1000 := rfl
theorem lit_1400 : (1400 : Int32) = io 1400 := rfl
theorem lit_2000 : (2000 : Int32) = io 2000 := rfl
theorem lit_2033 : (2033 : Int32) = io 2033 := rfl
theorem lit_2038 : (2038 : Int32) = io 2038 := rfl
theorem lit_2100 : (2100 : Int32) = io 2100 := rfl
theorem lit_2124 : (2124 : Int32) = io 2124 := rfl
theorem lit_8000 : (8000 : Int32) = io 8000 := rfl
theorem lit_10000 : (10000 : Int32) = io 10000 := rfl
theorem lit_12345 : (12345 : Int32) = io 12345 := rfl
theorem lit_32767 : (32767 : Int32) = io 32767 := rfl
theorem lit_1000000 : (1000000 : Int32) = io 1000000 := rfl
theorem lit_1000000000 : (1000000000 : Int32) = io 1000000000 := rfl
theorem K0_1 : K0 1 = (0, 11) := rfl
theorem K0_2 : K0 2 = (0, 6) := rfl
theorem K0_3 : K0 3 = (1, 700) := rfl
theorem K0_4 : K0 4 = (0, 8) := rfl
theorem K0_5 : K0 5 = (1, 8) := rfl
theorem K0_6 : K0 6 = (1, 8) := rfl
theorem K0_7 : K0 7 = (1, 8) := rfl
theorem K0_8 : K0 8 = (1, 9) := rfl
theorem K0_9 : K0 9 = (1, 700) := rfl
theorem K0_10 : K0 10 = (0, 9) := rfl
theorem K0_11 : K0 11 = (0, 4) := rfl
theorem K0_12 : K0 12 = (0, 8) := rfl
theorem K0_13 : K0 13 = (1, 8) := rfl
theorem K0_14 : K0 14 = (1, 8) := rfl
theorem K0_15 : K0 15 = (1, 8) := rfl
theorem K0_16 : K0 16 = (1, 9) := rfl
theorem K0_17 : K0 17 = (1, 700) := rfl
theorem K0_18 : K0 18 = (0, 9) := rfl
theorem K0_19 : K0 19 = (0, 0) := rfl
theorem K0_20 : K0 20 = (1, 200) := rfl
theorem K0_21 : K0 21 = (1, 32) := rfl
theorem K0_22 : K0 22 = (0, 0) := rfl
theorem K0_23 : K0 23 = (1, 200) := rfl
theorem K0_24 : K0 24 = (1, 32) := rfl
theorem K0_25 : K0 25 = (0, 4) := rfl
theorem K0_26 : K0 26 = (0, 8) := rfl
theorem K0_27 : K0 27 = (1, 8) := rfl
theorem K0_28 : K0 28 = (1, 8) := rfl
theorem K0_29 : K0 29 = (1, 8) := rfl
theorem K0_30 : K0 30 = (1, 9) := rfl
theorem K0_31 : K0 31 = (1, 700) := rfl
theorem K0_32 : K0 32 = (0, 9) := rfl
theorem K0_33 : K0 33 = (0, 0) := rfl
theorem K0_34 : K0 34 = (1, 200) := rfl
theorem K0_35 : K0 35 = (1, 32) := rfl
theorem K0_36 : K0 36 = (0, 0) := rfl
theorem K0_37 : K0 37 = (1, 200) := rfl
theorem K0_38 : K0 38 = (1, 32) := rfl
theorem K0_39 : K0 39 = (1, 3) := rfl
theorem K0_40 : K0 40 = (1, 3) := rfl
theorem K0_41 : K0 41 = (0, 5) := rfl
theorem K0_42 : K0 42 = (1, 800) := rfl
theorem K0_43 : K0 43 = (1, 9) := rfl
theorem K0_44 : K0 44 = (1, 64) := rfl
theorem K0_45 : K0 45 = (0, 10) := rfl
theorem K0_46 : K0 46 = (0, 1) := rfl
theorem K0_47 : K0 47 = (1, 100) := rfl
theorem K0_48 : K0 48 = (1, 100) := rfl
theorem K0_49 : K0 49 = (0, 1) := rfl
theorem K0_50 : K0 50 = (1, 100) := rfl
theorem K0_51 : K0 51 = (1, 100) := rfl
theorem K0_52 : K0 52 = (0, 3) := rfl
theorem K0_53 : K0 53 = (0, 1) := rfl
theorem K0_54 : K0 54 = (1, 10000) := rfl
theorem K0_55 : K0 55 = (1, 10000) := rfl
theorem K0_56 : K0 56 = (0, 1) := rfl
theorem K0_57 : K0 57 = (1, 10000) := rfl
theorem K0_58 : K0 58 = (1, 10000) := rfl
theorem K0_59 : K0 59 = (0, 5) := rfl
theorem K0_60 : K0 60 = (1, 8000) := rfl
theorem K0_61 : K0 61 = (1, 9) := rfl
theorem K0_62 : K0 62 = (1, 64) := rfl
theorem K0_63 : K0 63 = (0, 7) := rfl
theorem K0_64 : K0 64 = (2, 100) := rfl
theorem K0_65 : K0 65 = (2, 100) := rfl
theorem K0_66 : K0 66 = (0, 2) := rfl
theorem K0_67 : K0 67 = (1, 200) := rfl
theorem K0_68 : K0 68 = (1, 200) := rfl
theorem K0_69 : K0 69 = (1, 4) := rfl
theorem K0_70 : K0 70 = (1, 4) := rfl
theorem K0_71 : K0 71 = (0, 9) := rfl
theorem K0_72 : K0 72 = (0, 12) := rfl
theorem K0_73 : K0 73 = (4, 7) := rfl
theorem K0_74 : K0 74 = (4, 9) := rfl
theorem K0_75 : K0 75 = (1, 3) := rfl
theorem K0_76 : K0 76 = (1, 21) := rfl
theorem K0_77 : K0 77 = (1, 24) := rfl
theorem K0_78 : K0 78 = (1, 24) := rfl
theorem K0_79 : K0 79 = (1, 24) := rfl
theorem K0_80 : K0 80 = (1, 24) := rfl
theorem K0_81 : K0 81 = (1, 24) := rfl
theorem K0_82 : K0 82 = (1, 2100) := rfl
theorem K0_83 : K0 83 = (1, 2) := rfl
theorem K0_84 : K0 84 = (1, 2) := rfl
theorem K0_85 : K0 85 = (1, 2) := rfl
theorem K0_86 : K0 86 = (1, 400) := rfl
theorem K0_87 : K0 87 = (1, 2) := rfl
theorem K0_88 : K0 88 = (1, 2) := rfl
theorem K0_89 : K0 89 = (1, 64) := rfl
theorem K0_90 : K0 90 = (1, 3) := rfl
theorem K0_91 : K0 91 = (1, 700) := rfl
theorem K0_92 : K0 92 = (1, 60) := rfl
theorem K0_93 : K0 93 = (2, 100) := rfl
theorem K0_94 : K0 94 = (2, 100) := rfl
theorem K0_95 : K0 95 = (1, 800) := rfl
theorem K0_96 : K0 96 = (3, 10000) := rfl
theorem K0_97 : K0 97 = (1, 7) := rfl
theorem K0_98 : K0 98 = (2, 10000) := rfl
theorem K0_99 : K0 99 = (2, 10000) := rfl
theorem K0_100 : K0 100 = (1, 8000) := rfl
theorem K0_101 : K0 101 = (1, 200) := rfl
theorem K0_102 : K0 102 = (2, 4) := rfl
theorem K0_103 : K0 103 = (1, 2) := rfl
theorem K0_104 : K0 104 = (1, 2) := rfl
theorem K0_105 : K0 105 = (1, 2) := rfl
theorem K0_106 : K0 106 = (1, 400) := rfl
theorem K0_107 : K0 107 = (1, 2) := rfl
theorem K0_108 : K0 108 = (1, 2) := rfl
theorem K0_109 : K0 109 = (1, 64) := rfl
theorem K0_110 : K0 110 = (1, 3) := rfl
theorem K0_111 : K0 111 = (2, 1) := rfl
/-! the model's pointers -/
def PM (M : Mem) : Prop := ∀ t ∈ PTm, mR M t.1 t.2.1 = t.2.2
theorem PM.p0 {M : Mem} (h : PM M) : mR M 72 0 = 73 := h (72, 0, 73) (by decide)
theorem PM.p1 {M : Mem} (h : PM M) : mR M 72 1 = 74 := h (72, 1, 74) (by decide)
theorem PM.p3 {M : Mem} (h : PM M) : mR M 72 3 = 75 := h (72, 3, 75) (by decide)
theorem PM.p4 {M : Mem} (h : PM M) : mR M 72 4 = 76 := h (72, 4, 76) (by decide)
theorem PM.p5 {M : Mem} (h : PM M) : mR M 72 5 = 77 := h (72, 5, 77) (by decide)
theorem PM.p6 {M : Mem} (h : PM M) : mR M 72 6 = 78 := h (72, 6, 78) (by decide)
theorem PM.p7 {M : Mem} (h : PM M) : mR M 72 7 = 79 := h (72, 7, 79) (by decide)
theorem PM.p8 {M : Mem} (h : PM M) : mR M 72 8 = 80 := h (72, 8, 80) (by decide)
theorem PM.p9 {M : Mem} (h : PM M) : mR M 72 9 = 81 := h (72, 9, 81) (by decide)
theorem PM.p10 {M : Mem} (h : PM M) : mR M 72 10 = 82 := h (72, 10, 82) (by decide)
theorem PM.p11 {M : Mem} (h : PM M) : mR M 72 11 = 83 := h (72, 11, 83) (by decide)
theorem PM.p12 {M : Mem} (h : PM M) : mR M 72 12 = 84 := h (72, 12, 84) (by decide)
theorem PM.p13 {M : Mem} (h : PM M) : mR M 72 13 = 85 := h (72, 13, 85) (by decide)
theorem PM.p14 {M : Mem} (h : PM M) : mR M 72 14 = 86 := h (72, 14, 86) (by decide)
theorem PM.p15 {M : Mem} (h : PM M) : mR M 72 15 = 87 := h (72, 15, 87) (by decide)
theorem PM.p16 {M : Mem} (h : PM M) : mR M 72 16 = 88 := h (72, 16, 88) (by decide)
theorem PM.p17 {M : Mem} (h : PM M) : mR M 72 17 = 89 := h (72, 17, 89) (by decide)
theorem PM.p18 {M : Mem} (h : PM M) : mR M 72 18 = 90 := h (72, 18, 90) (by decide)
theorem PM.p19 {M : Mem} (h : PM M) : mR M 72 19 = 91 := h (72, 19, 91) (by decide)
theorem PM.p31 {M : Mem} (h : PM M) : mR M 72 31 = 92 := h (72, 31, 92) (by decide)
theorem PM.p32 {M : Mem} (h : PM M) : mR M 72 32 = 93 := h (72, 32, 93) (by decide)
theorem PM.p33 {M : Mem} (h : PM M) : mR M 72 33 = 94 := h (72, 33, 94) (by decide)
theorem PM.p34 {M : Mem} (h : PM M) : mR M 72 34 = 95 := h (72, 34, 95) (by decide)
theorem PM.p38 {M : Mem} (h : PM M) : mR M 72 38 = 96 := h (72, 38, 96) (by decide)
theorem PM.p39 {M : Mem} (h : PM M) : mR M 72 39 = 97 := h (72, 39, 97) (by decide)
theorem PM.p40 {M : Mem} (h : PM M) : mR M 72 40 = 98 := h (72, 40, 98) (by decide)
theorem PM.p41 {M : Mem} (h : PM M) : mR M 72 41 = 99 := h (72, 41, 99) (by decide)
theorem PM.p42 {M : Mem} (h : PM M) : mR M 72 42 = 100 := h (72, 42, 100) (by decide)
theorem PM.p46 {M : Mem} (h : PM M) : mR M 72 46 = 101 := h (72, 46, 101) (by decide)
theorem PM.p47 {M : Mem} (h : PM M) : mR M 72 47 = 102 := h (72, 47, 102) (by decide)
theorem PM.p50 {M : Mem} (h : PM M) : mR M 72 50 = 103 := h (72, 50, 103) (by decide)
theorem PM.p51 {M : Mem} (h : PM M) : mR M 72 51 = 104 := h (72, 51, 104) (by decide)
theorem PM.p52 {M : Mem} (h : PM M) : mR M 72 52 = 105 := h (72, 52, 105) (by decide)
theorem PM.p53 {M : Mem} (h : PM M) : mR M 72 53 = 106 := h (72, 53, 106) (by decide)
theorem PM.p54 {M : Mem} (h : PM M) : mR M 72 54 = 107 := h (72, 54, 107) (by decide)
theorem PM.p55 {M : Mem} (h : PM M) : mR M 72 55 = 108 := h (72, 55, 108) (by decide)
theorem PM.p56 {M : Mem} (h : PM M) : mR M 72 56 = 109 := h (72, 56, 109) (by decide)
theorem PM.p57 {M : Mem} (h : PM M) : mR M 72 57 = 110 := h (72, 57, 110) (by decide)
theorem PM.sI {M : Mem} {o k : Nat} {v : Int32} (h : PM M) : PM (sI M o k v) := h
theorem PM.sL {M : Mem} {o k : Nat} {v : Int64} (h : PM M) : PM (sL M o k v) := h
/-- a loop with an invariant and a measure -/
theorem loopW {α σ : Type} {L : Nat → σ → Mem → Option (α × Mem)} {J : σ → Mem → Prop} {Q : α → Mem → Prop} (μ : σ → Mem → Nat) (hs : ∀ f s M, J s M → (∀ s' M', J s' M' → μ s' M' < μ s M → Wp (L f s' M') Q) → Wp (L (f + 1) s M) Q) : ∀ f s M, J s M → μ s M < f → Wp (L f s M) Q := by
  intro f
  induction f with
  | zero => intro s M _ h; omega
  | succ f ih => exact fun s M hJ hm => hs f s M hJ (fun s' M' hJ' hl => ih s' M' hJ' (by omega))
theorem FU_val : FU = 1000000000 := rfl
/-! longs -/
def lo (n : Nat) : Int64 := Int64.ofNat n
theorem lo_toInt {a : Nat} (h : a < 9223372036854775808) : (lo a).toInt = a := Int64.toInt_ofNat_of_lt h
theorem lo_add (a b : Nat) : lo a + lo b = lo (a + b) := (Int64.ofNat_add a b).symm
theorem lo_mul (a b : Nat) : lo a * lo b = lo (a * b) := (Int64.ofNat_mul a b).symm
theorem lo_sub {a b : Nat} (h : b ≤ a) : lo a - lo b = lo (a - b) := by
  have : lo a = lo (a - b) + lo b := by rw [lo_add]; congr 1; omega
  rw [this]
  exact Int64.add_sub_cancel _ _
theorem lo_lt {a b : Nat} (ha : a < 9223372036854775808) (hb : b < 9223372036854775808) : (lo a < lo b) = (a < b) := by
  rw [Int64.lt_iff_toInt_lt, lo_toInt ha, lo_toInt hb]
  exact propext ⟨fun h => by omega, fun h => by omega⟩
theorem lo_le {a b : Nat} (ha : a < 9223372036854775808) (hb : b < 9223372036854775808) : (lo a ≤ lo b) = (a ≤ b) := by
  rw [Int64.le_iff_toInt_le, lo_toInt ha, lo_toInt hb]
  exact propext ⟨fun h => by omega, fun h => by omega⟩
theorem lo_eq {a b : Nat} (ha : a < 9223372036854775808) (hb : b < 9223372036854775808) : (lo a = lo b) = (a = b) := by
  rw [← Int64.toInt_inj, lo_toInt ha, lo_toInt hb]
  exact propext ⟨fun h => by omega, fun h => by omega⟩
theorem lo_div {a b : Nat} (ha : a < 9223372036854775808) (hb : b < 9223372036854775808) : lo a / lo b = lo (a / b) := by
  have h2 : a / b ≤ a := Nat.div_le_self a b
  rw [← Int64.toInt_inj, Int64.toInt_div, lo_toInt ha, lo_toInt hb, lo_toInt (by omega), ← Int.ofNat_tdiv]
  generalize a / b = q at h2 ⊢
  rw [Int.bmod_def]
  split <;> omega
theorem io_lo {a : Nat} (h : a < 2147483648) : (io a).toInt64 = lo a := by
  rw [← Int64.toInt_inj, Int32.toInt_toInt64, io_toInt h, lo_toInt (by omega)]
theorem lo_io (a : Nat) : (lo a).toInt32 = io a := by
  unfold lo io
  exact Int64.toInt32_ofNat
theorem lit64_0 : (0 : Int64) = lo 0 := rfl
theorem lit64_1 : (1 : Int64) = lo 1 := rfl
theorem lit64_m : (1000000 : Int64) = lo 1000000 := rfl
theorem lit64_b : (1000000000 : Int64) = lo 1000000000 := rfl
/-! lazy forms: what stands behind is not looked at before its turn -/
def Tag {α : Type} (_ : α) : Type := Unit
def tg {α : Type} (a : α) : Tag a := ()
def bh {α β : Type} (F : Option (α × Mem)) (k : α → Mem → Option (β × Mem)) (_ : Tag k) : Option (β × Mem) := bnd F k
def lh {α β : Type} (x : α) (k : α → β) (_ : Tag k) : β := k x
def ih {α : Type} (c : Prop) [i : Decidable c] (A B : Option (α × Mem)) (_ : Tag A) (_ : Tag B) : Option (α × Mem) := if c then A else B
theorem bnd_h {α β : Type} {F : Option (α × Mem)} {k : α → Mem → Option (β × Mem)} : bnd F k = bh F k (tg k) := rfl
theorem lt_h {α β : Type} {x : β} {k : β → Option (α × Mem)} : lt x k = lh x k (tg k) := rfl
theorem ite_h {α : Type} {c : Prop} {i : Decidable c} {A B : Option (α × Mem)} : @ite _ c i A B = @ih α c i A B (tg A) (tg B) := rfl
theorem bh_some {α β : Type} {x : α} {M : Mem} {k : α → Mem → Option (β × Mem)} {t : Tag k} : bh (some (x, M)) k t = k x M := rfl
theorem lh_eq {α β : Type} {x : β} {k : β → Option (α × Mem)} {t : Tag k} : lh x k t = k x := rfl
theorem ih_T {α : Type} {i : Decidable True} {A B : Option (α × Mem)} {t : Tag A} {u : Tag B} : @ih α True i A B t u = A := if_pos trivial
theorem ih_F {α : Type} {i : Decidable False} {A B : Option (α × Mem)} {t : Tag A} {u : Tag B} : @ih α False i A B t u = B := if_neg id
theorem Wp.seqh {α β : Type} {F : Option (α × Mem)} {P : α → Mem → Prop} {k : α → Mem → Option (β × Mem)} {t : Tag k} {Q : β → Mem → Prop} (h : Wp F P) (hk : ∀ x M, P x M → Wp (k x M) Q) : Wp (bh F k t) Q := Wp.seq h hk
theorem Wp.csh {α : Type} {c : Prop} {i : Decidable c} {F G : Option (α × Mem)} {t : Tag F} {u : Tag G} {Q : α → Mem → Prop} (h1 : c → Wp F Q) (h2 : ¬ c → Wp G Q) : Wp (@ih α c i F G t u) Q := Wp.cs h1 h2
theorem Wp.chkh {α : Type} {c : Prop} {i : Decidable c} {F G : Option (α × Mem)} {t : Tag F} {u : Tag G} {Q : α → Mem → Prop} (h : c) (hk : Wp F Q) : Wp (@ih α c i F G t u) Q := Wp.pos h hk
theorem Wp.negh {α : Type} {c : Prop} {i : Decidable c} {F G : Option (α × Mem)} {t : Tag F} {u : Tag G} {Q : α → Mem → Prop} (h : ¬ c) (hk : Wp G Q) : Wp (@ih α c i F G t u) Q := Wp.neg h hk
def bxh {α β : Type} (F : Option ((α ⊕ Nat) × Mem)) (k : α → Mem → Option ((β ⊕ Nat) × Mem)) (_ : Tag k) : Option ((β ⊕ Nat) × Mem) := bndX F k
def bkh {α β : Type} (F : Option ((α ⊕ Nat) × Mem)) (kx : Nat → Mem → Option (β × Mem)) (k : α → Mem → Option (β × Mem)) (_ : Tag kx) (_ : Tag k) : Option (β × Mem) := bndK F kx k
theorem bndX_h {α β : Type} {F : Option ((α ⊕ Nat) × Mem)} {k : α → Mem → Option ((β ⊕ Nat) × Mem)} : bndX F k = bxh F k (tg k) := rfl
theorem bndK_h {α β : Type} {F : Option ((α ⊕ Nat) × Mem)} {kx : Nat → Mem → Option (β × Mem)} {k : α → Mem → Option (β × Mem)} : bndK F kx k = bkh F kx k (tg kx) (tg k) := rfl
theorem bxh_inl {α β : Type} {x : α} {M : Mem} {k : α → Mem → Option ((β ⊕ Nat) × Mem)} {t : Tag k} : bxh (some (.inl x, M)) k t = k x M := rfl
theorem bxh_inr {α β : Type} {e : Nat} {M : Mem} {k : α → Mem → Option ((β ⊕ Nat) × Mem)} {t : Tag k} : bxh (some (.inr e, M)) k t = some (.inr e, M) := rfl
theorem bkh_inl {α β : Type} {x : α} {M : Mem} {kx : Nat → Mem → Option (β × Mem)} {k : α → Mem → Option (β × Mem)} {t : Tag kx} {u : Tag k} : bkh (some (.inl x, M)) kx k t u = k x M := rfl
theorem bkh_inr {α β : Type} {e : Nat} {M : Mem} {kx : Nat → Mem → Option (β × Mem)} {k : α → Mem → Option (β × Mem)} {t : Tag kx} {u : Tag k} : bkh (some (.inr e, M)) kx k t u = kx e M := rfl
