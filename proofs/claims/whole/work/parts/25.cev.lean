/-! ===== LEVEL 2: the class's giver ===== -/
theorem m1_io {a : Nat} (h : a < 2147483648) : (io a = m1) = False := io_m1 h
theorem m1_io2 {a : Nat} (h : a < 2147483648) : (m1 = io a) = False := by
  rw [← io_m1 h]
  exact propext ⟨Eq.symm, Eq.symm⟩
theorem m1_toInt : m1.toInt = -1 := by decide
theorem m1_lt {a : Nat} (h : a < 2147483648) : (m1 < io a) = True := by
  rw [Int32.lt_iff_toInt_lt, io_toInt h, m1_toInt]
  exact propext ⟨fun _ => trivial, fun _ => by omega⟩
theorem m1_le {a : Nat} (h : a < 2147483648) : (io a ≤ m1) = False := by
  rw [Int32.le_iff_toInt_le, io_toInt h, m1_toInt]
  exact propext ⟨fun _ => by omega, fun h => h.elim⟩
theorem neg_1 : -(io 1) = m1 := rfl
theorem io_m1_add (n : Nat) : io (n + 1) + m1 = io n := by
  have h : io (n + 1) + m1 = io (n + 1) - io 1 := by
    rw [← neg_1, Int32.sub_eq_add_neg]
  rw [h, io_sub (by omega)]
  rfl
theorem gI_m1 {x : Nat} (h : x < 2147483648) : (gI x = m1) = (x = 0) := by
  unfold gI
  by_cases e : x = 0
  · simp only [e, if_true]
  · simp only [e, if_false]
    rw [m1_io (by omega)]
theorem succ_ne (n k : Nat) : (n + (k + 1) = 0) = False := by
  exact propext ⟨fun h => by omega, fun h => h.elim⟩
def ob : List (Nat × Nat) → Nat → Bool
  | [], _ => true
  | q :: l, o => (decide (o < q.1) || decide (q.2 < o)) && ob l o
/-- ints and longs outside of p (and longs of 72) and references outside of q are as they were -/
def Fg (p q : List (Nat × Nat)) (M M' : Mem) : Prop := (∀ o, ob p o = true → ∀ k, mI M' o k = mI M o k) ∧ (∀ o, ob p o = true → o ≠ 72 → ∀ k, mL M' o k = mL M o k) ∧ (∀ o, ob q o = true → ∀ k, mR M' o k = mR M o k)
theorem Fg.refl {p q : List (Nat × Nat)} {M : Mem} : Fg p q M M := ⟨fun _ _ _ => rfl, fun _ _ _ _ => rfl, fun _ _ _ => rfl⟩
theorem Fg.I {p q : List (Nat × Nat)} {M M' : Mem} (h : Fg p q M M') {o k : Nat} (ho : ob p o = true) : mI M' o k = mI M o k := h.1 o ho k
theorem Fg.L {p q : List (Nat × Nat)} {M M' : Mem} (h : Fg p q M M') {o k : Nat} (ho : ob p o = true) (h2 : o ≠ 72) : mL M' o k = mL M o k := h.2.1 o ho h2 k
theorem Fg.R {p q : List (Nat × Nat)} {M M' : Mem} (h : Fg p q M M') {o k : Nat} (ho : ob q o = true) : mR M' o k = mR M o k := h.2.2 o ho k
theorem Fg.trans {p q : List (Nat × Nat)} {M M1 M2 : Mem} (h : Fg p q M M1) (h' : Fg p q M1 M2) : Fg p q M M2 :=
  ⟨fun o ho k => (h'.1 o ho k).trans (h.1 o ho k), fun o ho h2 k => (h'.2.1 o ho h2 k).trans (h.2.1 o ho h2 k), fun o ho k => (h'.2.2 o ho k).trans (h.2.2 o ho k)⟩
theorem Fg.sub {p q p' q' : List (Nat × Nat)} {M M' : Mem} (h : Fg p q M M') (hp : ∀ o, ob p' o = true → ob p o = true) (hq : ∀ o, ob q' o = true → ob q o = true) : Fg p' q' M M' :=
  ⟨fun o ho => h.1 o (hp o ho), fun o ho => h.2.1 o (hp o ho), fun o ho => h.2.2 o (hq o ho)⟩
theorem Fg.sI {p q : List (Nat × Nat)} {M M' : Mem} {o k : Nat} {v : Int32} (h : Fg p q M M') (ho : ob p o = false) : Fg p q M (sI M' o k v) :=
  ⟨fun a ha j => by rw [mI_sI, if_neg (fun e : a = o ∧ j = k => by rw [e.1, ho] at ha; cases ha)]; exact h.1 a ha j, h.2.1, h.2.2⟩
theorem Fg.sL {p q : List (Nat × Nat)} {M M' : Mem} {o k : Nat} {v : Int64} (h : Fg p q M M') (ho : ob p o = false ∨ o = 72) : Fg p q M (sL M' o k v) :=
  ⟨h.1, fun a ha h2 j => by rw [mL_sL, if_neg (fun e : a = o ∧ j = k => by rcases ho with ho | ho; rw [e.1, ho] at ha; cases ha; exact h2 (e.1.trans ho))]; exact h.2.1 a ha h2 j, h.2.2⟩
theorem Fg.sR {p q : List (Nat × Nat)} {M M' : Mem} {o k v : Nat} (h : Fg p q M M') (ho : ob q o = false) : Fg p q M (sR M' o k v) :=
  ⟨h.1, h.2.1, fun a ha j => by rw [mR_sR, if_neg (fun e : a = o ∧ j = k => by rw [e.1, ho] at ha; cases ha)]; exact h.2.2 a ha j⟩
theorem at_io {o n a : Nat} {M : Mem} (hK : K0 o = (1, n)) (ha : a < n) (hn : n ≤ 100000) : zX11_at o (io a) M = some (mI M o a, M) := by
  unfold zX11_at
  simp -dsimp (disch := first | assumption | omega) only [hK, lit_0, ↓reduceIte, ne_eq, not_false_eq_true, not_true_eq_false, eq_self, and_true, true_and, bnd_some, lt_eq, io_def, io_add, io_mul, io_sub, io_lt, io_le, io_eq, io_clamp, io_inbT, io_div, io_mod, io_m1, m1_io, m1_lt, m1_le, neg_1, gI_m1]
  simp -dsimp (disch := first | assumption | omega) only [↓reduceIte, show ¬ (a < 0) from by omega, show ¬ (n ≤ a) from by omega]
theorem put_io {o n a : Nat} {x : Int32} {M : Mem} (hK : K0 o = (1, n)) (ha : a < n) (hn : n ≤ 100000) : zX11_put o (io a) x M = some ((), sI M o a x) := by
  unfold zX11_put
  simp -dsimp (disch := first | assumption | omega) only [hK, lit_0, ↓reduceIte, ne_eq, not_false_eq_true, not_true_eq_false, eq_self, and_true, true_and, bnd_some, lt_eq, io_def, io_add, io_mul, io_sub, io_lt, io_le, io_eq, io_clamp, io_inbT, io_div, io_mod, io_m1, m1_io, m1_lt, m1_le, neg_1, gI_m1]
  simp -dsimp (disch := first | assumption | omega) only [↓reduceIte, show ¬ (a < 0) from by omega, show ¬ (n ≤ a) from by omega]
theorem c_fill {o n : Nat} {x : Int32} {M : Mem} (hK : K0 o = (1, n)) (hn : n ≤ 100000) : Wp (zJ7_fill_53178 o x M) (fun _ M' => (∀ k, k < n → mI M' o k = x) ∧ Fg [(o, o)] [] M M') := by
  unfold zJ7_fill_53178
  simp -dsimp (disch := first | assumption | omega) only [hK, ↓reduceIte, ne_eq, not_false_eq_true, not_true_eq_false, eq_self, and_true, true_and, bnd_some, lt_eq, io_def]
  refine loopW (L := fun f (i : Nat) M => zJ7_fill_53178_L5 f o x (io i) (io n) M) (J := fun i M1 => i ≤ n ∧ (∀ k, k < i → mI M1 o k = x) ∧ Fg [(o, o)] [] M M1) (fun i _ => n - i) ?_ FU 0 M ⟨Nat.zero_le _, fun k hk => absurd hk (Nat.not_lt_zero _), Fg.refl⟩ (by rw [FU_val]; omega)
  intro f i M1 ⟨hi, hall, hF⟩ rec
  show Wp (zJ7_fill_53178_B5 _ _ _ _ _ _) _
  unfold zJ7_fill_53178_B5
  simp -dsimp (disch := first | assumption | omega) only [hK, ↓reduceIte, ne_eq, not_false_eq_true, not_true_eq_false, eq_self, and_true, true_and, bnd_some, lt_eq, io_def, io_add, io_mul, io_sub, io_lt, io_le, io_eq, io_clamp, io_inbT, io_div, io_mod, io_m1, m1_io, m1_lt, m1_le, neg_1, gI_m1]
  refine Wp.cs (fun c => ?_) (fun c => ?_)
  · exact Wp.ret ⟨fun k hk => hall k (by omega), hF⟩
  · simp -dsimp (disch := first | assumption | omega) only [lit_1, ↓reduceIte, ne_eq, not_false_eq_true, not_true_eq_false, eq_self, and_true, true_and, bnd_some, lt_eq, io_def, io_add, io_mul, io_sub, io_lt, io_le, io_eq, io_clamp, io_inbT, io_div, io_mod, io_m1, m1_io, m1_lt, m1_le, neg_1, gI_m1]
    refine rec (i + 1) _ ⟨by omega, fun k hk => ?_, hF.sI (by simp [ob])⟩ (by omega)
    rw [mI_sI]
    by_cases e : k = i
    · rw [if_pos ⟨rfl, e⟩]
    · rw [if_neg (fun q => e q.2)]
      exact hall k (by omega)
def isGv (g : Nat) : Prop := g = 41 ∨ g = 59
def isRu (r : Nat) : Prop := r = 4 ∨ r = 12 ∨ r = 26
def isSe (p : Nat) : Prop := p = 10 ∨ p = 18 ∨ p = 32 ∨ p = 71
def knN (g : Nat) : Nat := if g = 41 then 800 else 8000
theorem K0_r {r : Nat} (h : isRu r) : K0 r = (0, 8) := by rcases h with rfl | rfl | rfl <;> rfl
theorem K0_r1 {r : Nat} (h : isRu r) : K0 (r + 1) = (1, 8) := by rcases h with rfl | rfl | rfl <;> rfl
theorem K0_r2 {r : Nat} (h : isRu r) : K0 (r + 2) = (1, 8) := by rcases h with rfl | rfl | rfl <;> rfl
theorem K0_r3 {r : Nat} (h : isRu r) : K0 (r + 3) = (1, 8) := by rcases h with rfl | rfl | rfl <;> rfl
theorem K0_r4 {r : Nat} (h : isRu r) : K0 (r + 4) = (1, 9) := by rcases h with rfl | rfl | rfl <;> rfl
theorem K0_r5 {r : Nat} (h : isRu r) : K0 (r + 5) = (1, 700) := by rcases h with rfl | rfl | rfl <;> rfl
theorem K0_r6 {r : Nat} (h : isRu r) : K0 (r + 6) = (0, 9) := by rcases h with rfl | rfl | rfl <;> rfl
theorem ru_ne {r : Nat} (h : isRu r) : (r = 0) = False := by rcases h with rfl | rfl | rfl <;> simp
theorem K0_gv {g : Nat} (h : isGv g) : K0 g = (0, 5) := by rcases h with rfl | rfl <;> rfl
theorem K0_g1 {g : Nat} (h : isGv g) : K0 (g + 1) = (1, knN g) := by rcases h with rfl | rfl <;> rfl
theorem K0_g2 {g : Nat} (h : isGv g) : K0 (g + 2) = (1, 9) := by rcases h with rfl | rfl <;> rfl
theorem K0_g3 {g : Nat} (h : isGv g) : K0 (g + 3) = (1, 64) := by rcases h with rfl | rfl <;> rfl
theorem gv_ne {g : Nat} (h : isGv g) : (g = 0) = False := by rcases h with rfl | rfl <;> simp
theorem K0_se {p : Nat} (h : isSe p) : K0 p = (0, 9) := by rcases h with rfl | rfl | rfl | rfl <;> rfl
theorem se_ne {p : Nat} (h : isSe p) : (p = 0) = False := by rcases h with rfl | rfl | rfl | rfl <;> simp
theorem knN_le {g : Nat} : knN g ≤ 8000 := by unfold knN; split <;> omega
theorem at_r1 {r a : Nat} {M : Mem} (h : isRu r) (ha : a < 8) : zX11_at (r + 1) (io a) M = some (mI M (r + 1) a, M) := at_io (K0_r1 h) ha (by omega)
theorem at_r2 {r a : Nat} {M : Mem} (h : isRu r) (ha : a < 8) : zX11_at (r + 2) (io a) M = some (mI M (r + 2) a, M) := at_io (K0_r2 h) ha (by omega)
theorem at_r3 {r a : Nat} {M : Mem} (h : isRu r) (ha : a < 8) : zX11_at (r + 3) (io a) M = some (mI M (r + 3) a, M) := at_io (K0_r3 h) ha (by omega)
theorem at_r4 {r a : Nat} {M : Mem} (h : isRu r) (ha : a < 9) : zX11_at (r + 4) (io a) M = some (mI M (r + 4) a, M) := at_io (K0_r4 h) ha (by omega)
theorem at_r5 {r a : Nat} {M : Mem} (h : isRu r) (ha : a < 700) : zX11_at (r + 5) (io a) M = some (mI M (r + 5) a, M) := at_io (K0_r5 h) ha (by omega)
theorem at_g1 {g a : Nat} {M : Mem} (h : isGv g) (ha : a < knN g) : zX11_at (g + 1) (io a) M = some (mI M (g + 1) a, M) := at_io (K0_g1 h) ha (Nat.le_trans knN_le (by omega))
theorem at_g2 {g a : Nat} {M : Mem} (h : isGv g) (ha : a < 9) : zX11_at (g + 2) (io a) M = some (mI M (g + 2) a, M) := at_io (K0_g2 h) ha (by omega)
theorem at_g3 {g a : Nat} {M : Mem} (h : isGv g) (ha : a < 64) : zX11_at (g + 3) (io a) M = some (mI M (g + 3) a, M) := at_io (K0_g3 h) ha (by omega)
theorem put_g1 {g a : Nat} {x : Int32} {M : Mem} (h : isGv g) (ha : a < knN g) : zX11_put (g + 1) (io a) x M = some ((), sI M (g + 1) a x) := put_io (K0_g1 h) ha (Nat.le_trans knN_le (by omega))
theorem put_g2 {g a : Nat} {x : Int32} {M : Mem} (h : isGv g) (ha : a < 9) : zX11_put (g + 2) (io a) x M = some ((), sI M (g + 2) a x) := put_io (K0_g2 h) ha (by omega)
theorem put_g3 {g a : Nat} {x : Int32} {M : Mem} (h : isGv g) (ha : a < 64) : zX11_put (g + 3) (io a) x M = some ((), sI M (g + 3) a x) := put_io (K0_g3 h) ha (by omega)
def PR (M : Mem) (r : Nat) : Prop := mR M r 7 = r + 1 ∧ mR M r 8 = r + 2 ∧ mR M r 9 = r + 3 ∧ mR M r 10 = r + 4 ∧ mR M r 11 = r + 5 ∧ mR M r 12 = r + 6
theorem PR.p7 {M : Mem} {r : Nat} (h : PR M r) : mR M r 7 = r + 1 := h.1
theorem PR.p8 {M : Mem} {r : Nat} (h : PR M r) : mR M r 8 = r + 2 := h.2.1
theorem PR.p9 {M : Mem} {r : Nat} (h : PR M r) : mR M r 9 = r + 3 := h.2.2.1
theorem PR.p10 {M : Mem} {r : Nat} (h : PR M r) : mR M r 10 = r + 4 := h.2.2.2.1
theorem PR.p11 {M : Mem} {r : Nat} (h : PR M r) : mR M r 11 = r + 5 := h.2.2.2.2.1
theorem PR.p12 {M : Mem} {r : Nat} (h : PR M r) : mR M r 12 = r + 6 := h.2.2.2.2.2
def PG (M : Mem) (g : Nat) : Prop := mR M g 2 = g + 1 ∧ mR M g 3 = g + 2 ∧ mR M g 4 = g + 3
theorem PG.p2 {M : Mem} {g : Nat} (h : PG M g) : mR M g 2 = g + 1 := h.1
theorem PG.p3 {M : Mem} {g : Nat} (h : PG M g) : mR M g 3 = g + 2 := h.2.1
theorem PG.p4 {M : Mem} {g : Nat} (h : PG M g) : mR M g 4 = g + 3 := h.2.2
/-- the Rules object r holds the view v -/
def CG (M : Mem) (r : Nat) (v : GV) : Prop := mI M r 0 = io (gN v) ∧ mI M r 1 = io (allO v) ∧ mI M r 2 = io (gSi v) ∧ mI M r 3 = io (gCh v) ∧ mI M r 4 = io (gBo v) ∧ mI M r 6 = io (gL v)
  ∧ (∀ s, s < gN v → mI M (r + 1) s = io (gOd v s) ∧ mI M (r + 2) s = io (gWo v s) ∧ mI M (r + 3) s = io (gPu v s) ∧ mI M (r + 4) s = io (gB v s) ∧ mI M (r + 4) (s + 1) = io (gE v s))
  ∧ (∀ k, k < gL v → mI M (r + 5) k = io (gC v k))
  ∧ ∃ a, a < 512 ∧ mI M r 5 = io a ∧ ∀ k, k < gL v → 1000 ≤ gC v k → gC v k < 1009 → a.testBit (gC v k - 1000) = true
def CS (M : Mem) (p : Nat) (s : SV) : Prop := mI M p 0 = gI (sCa s) ∧ mI M p 1 = io (sKe s) ∧ mI M p 2 = io (sGl s) ∧ mI M p 3 = io (sLe s)
theorem c_joined {t : Nat} {x y : Int32} {M : Mem} (h : okTok t = true) (h2 : 2000 ≤ t) (h3 : t ≠ 2033) : zX5_joined (io t) x y M = some (opS t x y, M) := by
  unfold zX5_joined zX5_joined_B184
  simp only [okTok, Bool.or_eq_true, decide_eq_true_eq, beq_iff_eq] at h
  have h9 : t = 2043 ∨ t = 2045 ∨ t = 2042 ∨ t = 2047 ∨ t = 2060 ∨ t = 2061 ∨ t = 2038 ∨ t = 2124 := by omega
  have es : ∀ {c : Prop} [Decidable c] {A B : Int32}, (if c then some (A, M) else some (B, M)) = some ((if c then A else B), M) := fun {c} _ {A B} => by split <;> rfl
  rcases h9 with rfl | rfl | rfl | rfl | rfl | rfl | rfl | rfl
  · rw [lt_eq, show io 2043 - 2000 = 43 from rfl]; simp [opS]
  · rw [lt_eq, show io 2045 - 2000 = 45 from rfl]; simp [opS]
  · rw [lt_eq, show io 2042 - 2000 = 42 from rfl]; simp [opS]
  · rw [lt_eq, show io 2047 - 2000 = 47 from rfl]; simp [opS]; split <;> rfl
  · rw [lt_eq, show io 2060 - 2000 = 60 from rfl]; simp [opS]; by_cases c : x < y <;> simp [c, Int32.not_le.mpr, Int32.not_lt.mp]
  · rw [lt_eq, show io 2061 - 2000 = 61 from rfl]; simp [opS]; split <;> rfl
  · rw [lt_eq, show io 2038 - 2000 = 38 from rfl]; simp [opS]; split <;> (try split) <;> rfl
  · rw [lt_eq, show io 2124 - 2000 = 124 from rfl]; simp [opS]; split <;> (try split) <;> rfl
def stk (M : Mem) (o : Nat) : List Int32 → Prop
  | [] => True
  | x :: r => mI M o r.length = x ∧ stk M o r
theorem stk.put {M : Mem} {o k : Nat} {x : Int32} {st : List Int32} (h : stk M o st) (hk : st.length ≤ k) : stk (sI M o k x) o st := by
  induction st with
  | nil => trivial
  | cons y r ih =>
    simp only [List.length_cons] at hk
    refine ⟨?_, ih h.2 (by omega)⟩
    rw [mI_sI, if_neg (by omega)]
    exact h.1
theorem okTok_lt {t : Nat} (h : okTok t = true) : t < 2125 := by
  simp only [okTok, Bool.or_eq_true, decide_eq_true_eq, beq_iff_eq] at h
  omega
theorem okTok_val {t : Nat} (h : okTok t = true) (h1 : t < 2000) : t < 1009 := by
  simp only [okTok, Bool.or_eq_true, decide_eq_true_eq, beq_iff_eq] at h
  omega
/-- what worked needs of the memory -/
def PW (M : Mem) (g r : Nat) (v : GV) (vals : Nat → Int32) : Prop := PG M g ∧ mR M g 0 = r ∧ PR M r ∧ (∀ k, k < gL v → mI M (r + 5) k = io (gC v k)) ∧ (∀ w, w < 9 → mI M (g + 2) w = vals w)
theorem PW.keep {M M' : Mem} {g r : Nat} {v : GV} {vals : Nat → Int32} (hg : isGv g) (hr : isRu r) (h : PW M g r v vals) (hF : Fg [(g + 3, g + 3)] [] M M') : PW M' g r v vals := by
  obtain ⟨h1, h2, h3, h4, h5⟩ := h
  have hR : ∀ o k, mR M' o k = mR M o k := fun o k => hF.2.2 o rfl k
  refine ⟨?_, ?_, ?_, fun k hk => ?_, fun w hw => ?_⟩
  · simpa only [PG, hR] using h1
  · simpa only [hR] using h2
  · simpa only [PR, hR] using h3
  · rw [hF.I (by rcases hg with rfl | rfl <;> rcases hr with rfl | rfl | rfl <;> rfl)]
    exact h4 k hk
  · rw [hF.I (by rcases hg with rfl | rfl <;> rfl)]
    exact h5 w hw
theorem c_worked_L {g r : Nat} {v : GV} {vals : Nat → Int32} (hg : isGv g) (hr : isRu r) (hL : gL v ≤ 700) : ∀ (m k : Nat) (st : List Int32) (M : Mem) (fu : Nat), m < fu → hgt (gC v) k m st.length = true → k + m ≤ gL v → st.length ≤ 60 → stk M (g + 3) st → PW M g r v vals →
    Wp (zX5_worked_L5 fu g (io (k + m)) (io st.length) (io k) M) (fun x M' => x = (evalS vals (gC v) k m st).headD (io 0) ∧ Fg [(g + 3, g + 3)] [] M M') := by
  intro m
  induction m with
  | zero =>
    intro k st M fu hfu hh hk hst hs hW
    obtain ⟨f, rfl⟩ : ∃ f, fu = f + 1 := ⟨fu - 1, by omega⟩
    obtain ⟨h1, h2, h3, h4, h5⟩ := hW
    show Wp (zX5_worked_B5 _ _ _ _ _ _) _
    unfold zX5_worked_B5
    simp only [hgt, beq_iff_eq] at hh
    simp -dsimp (disch := first | assumption | omega) only [lit_0, ↓reduceIte, ne_eq, not_false_eq_true, not_true_eq_false, eq_self, and_true, true_and, bnd_some, lt_eq, io_def, io_add, io_mul, io_sub, io_lt, io_le, io_eq, io_clamp, io_inbT, io_div, io_mod, io_m1, m1_io, m1_lt, m1_le, neg_1, gI_m1, K0_gv, gv_ne, PG.p2, PG.p3, PG.p4, at_g2, at_g3, put_g2, put_g3, succ_ne, Nat.add_zero, Nat.le_refl]
    refine Wp.ret ⟨?_, Fg.refl⟩
    match st, hh, hs with
    | [x], _, hs => exact hs.1
  | succ m ih =>
    intro k st M fu hfu hh hk hst hs hW
    obtain ⟨f, rfl⟩ : ∃ f, fu = f + 1 := ⟨fu - 1, by omega⟩
    have hW' := hW
    obtain ⟨h1, h2, h3, h4, h5⟩ := hW
    show Wp (zX5_worked_B5 _ _ _ _ _ _) _
    unfold zX5_worked_B5
    have hc := h4 k (by omega)
    simp only [hgt, Bool.and_eq_true] at hh
    obtain ⟨hok, hh⟩ := hh
    have hlt := okTok_lt hok
    have hnk : ¬ (k + (m + 1) ≤ k) := by omega
    have hstl : st.length ≤ 60 := hst
    simp -dsimp (disch := first | assumption | omega) only [lit_0, lit_2000, lit_2033, lit_1000, ↓reduceIte, ne_eq, not_false_eq_true, not_true_eq_false, eq_self, and_true, true_and, bnd_some, lt_eq, io_def, io_add, io_mul, io_sub, io_lt, io_le, io_eq, io_clamp, io_inbT, io_div, io_mod, io_m1, m1_io, m1_lt, m1_le, neg_1, gI_m1, K0_gv, gv_ne, PG.p2, PG.p3, PG.p4, at_g2, at_g3, put_g2, put_g3, succ_ne, K0_r, K0_r1, K0_r2, K0_r3, K0_r4, K0_r5, K0_r6, ru_ne, PR.p7, PR.p8, PR.p9, PR.p10, PR.p11, PR.p12, at_r1, at_r2, at_r3, at_r4, at_r5, succ_ne, h2, hc, hnk]
    have hW1 : ∀ a x, PW (sI M (g + 3) a x) g r v vals := fun a x => hW'.keep hg hr (Fg.refl.sI (by simp [ob]))
    have go : ∀ (st' : List Int32) (M1 : Mem), stepS vals (gC v k) st = st' → hgt (gC v) (k + 1) m st'.length = true → st'.length ≤ 60 → stk M1 (g + 3) st' → PW M1 g r v vals → Fg [(g + 3, g + 3)] [] M M1 →
        Wp (zX5_worked_L5 f g (io (k + (m + 1))) (io st'.length) (io (k + 1)) M1) (fun x M' => x = (evalS vals (gC v) k (m + 1) st).headD (io 0) ∧ Fg [(g + 3, g + 3)] [] M M') := by
      intro st' M1 e1 e2 e3 e4 e5 e6
      have key := ih (k + 1) st' M1 f (by omega) e2 (by omega) e3 e4 e5
      rw [show k + 1 + m = k + (m + 1) by omega] at key
      refine key.mono (fun x M' h => ⟨?_, e6.trans h.2⟩)
      rw [h.1, ← e1]
      rfl
    refine Wp.cs (fun c1 => ?_) (fun c1 => ?_)
    · refine Wp.cs (fun c2 => ?_) (fun c2 => ?_)
      · rw [if_neg (by omega), if_pos c2, Bool.and_eq_true, decide_eq_true_eq] at hh
        match st, hh, hs, hst, go with
        | x :: q, hh, hs, hst, go =>
          simp only [List.length_cons] at hst hh
          unfold zX5_worked_B106 zX5_worked_B148
          have e1 : io (q.length + 1) - io 1 = io q.length := io_sub (by omega)
          simp -dsimp (disch := first | assumption | omega) only [↓reduceIte, ne_eq, not_false_eq_true, not_true_eq_false, eq_self, and_true, true_and, bnd_some, lt_eq, io_def, List.length_cons, lit_1, e1, at_g3, put_g3, io_add, hs.1]
          refine Wp.cs (fun c3 => ?_) (fun c3 => ?_)
          · exact go (io 1 :: q) _ (by simp [stepS, c2, c3]; rfl) hh.2 hst ⟨by rw [mI_sI, if_pos ⟨rfl, rfl⟩], hs.2.put (Nat.le_refl _)⟩ (hW1 _ _) (Fg.refl.sI (by simp [ob]))
          · exact go (io 0 :: q) _ (by simp [stepS, c2, c3]; exact if_neg c3) hh.2 hst ⟨by rw [mI_sI, if_pos ⟨rfl, rfl⟩], hs.2.put (Nat.le_refl _)⟩ (hW1 _ _) (Fg.refl.sI (by simp [ob]))
        | [], hh, _, _, _ => simp at hh
      · rw [if_neg (by omega), if_neg c2, Bool.and_eq_true, decide_eq_true_eq] at hh
        match st, hh, hs, hst, go with
        | y :: x :: q, hh, hs, hst, go =>
          simp only [List.length_cons] at hst hh
          unfold zX5_worked_B148
          have e1 : io (q.length + 1) - io 1 = io q.length := io_sub (by omega)
          have e2 := hs.1
          have e3 := hs.2.1
          simp only [List.length_cons] at e2
          simp -dsimp (disch := first | assumption | omega) only [↓reduceIte, ne_eq, not_false_eq_true, not_true_eq_false, eq_self, and_true, true_and, bnd_some, lt_eq, io_def, K0_gv, gv_ne, PG.p2, PG.p3, PG.p4, at_g2, at_g3, put_g2, put_g3, succ_ne, List.length_cons, lit_1, neg_1, io_m1_add, e1, io_add, e2, e3, c_joined hok c1 c2]
          exact go (opS (gC v k) x y :: q) _ (by simp [stepS, c2, show ¬ gC v k < 1000 by omega, show ¬ gC v k < 2000 by omega]) hh.2 (by simp only [List.length_cons]; omega) ⟨by rw [mI_sI, if_pos ⟨rfl, rfl⟩], hs.2.2.put (Nat.le_refl _)⟩ (hW1 _ _) (Fg.refl.sI (by simp [ob]))
        | [_], hh, _, _, _ => simp at hh
        | [], hh, _, _, _ => simp at hh
    · rw [if_pos (by omega), Bool.and_eq_true, decide_eq_true_eq] at hh
      have c3 := okTok_val hok (by omega)
      unfold zX5_worked_B64 zX5_worked_B148
      have hp : ∀ x, stk (sI M (g + 3) st.length x) (g + 3) (x :: st) := fun x => ⟨by rw [mI_sI, if_pos ⟨rfl, rfl⟩], hs.put (Nat.le_refl _)⟩
      refine Wp.cs (fun c4 => ?_) (fun c4 => ?_)
      · have e1 : io (gC v k) - io 1000 = io (gC v k - 1000) := io_sub c4
        simp -dsimp (disch := first | assumption | omega) only [↓reduceIte, ne_eq, not_false_eq_true, not_true_eq_false, eq_self, and_true, true_and, bnd_some, lt_eq, io_def, lit_1, e1, at_g2, put_g3, io_add, h5 (gC v k - 1000) (by omega)]
        exact go (vals (gC v k - 1000) :: st) _ (by simp [stepS, show ¬ gC v k < 1000 by omega, show gC v k < 2000 by omega]) hh.2 (by simp only [List.length_cons]; omega) (hp _) (hW1 _ _) (Fg.refl.sI (by simp [ob]))
      · simp -dsimp (disch := first | assumption | omega) only [↓reduceIte, ne_eq, not_false_eq_true, not_true_eq_false, eq_self, and_true, true_and, bnd_some, lt_eq, io_def, lit_1, put_g3, io_add]
        exact go (io (gC v k) :: st) _ (by simp [stepS, show gC v k < 1000 by omega]) hh.2 (by simp only [List.length_cons]; omega) (hp _) (hW1 _ _) (Fg.refl.sI (by simp [ob]))
theorem io_sub_neg {a b : Nat} (h : a < b) (hb : b < 2147483648) : (io 0 ≤ io a - io b) = False := by
  rw [Int32.le_iff_toInt_le, Int32.toInt_sub, io_toInt (by omega), io_toInt (by omega), io_toInt hb]
  refine propext ⟨fun q => ?_, fun q => q.elim⟩
  rw [Int.bmod_def] at q
  split at q <;> omega
theorem nn_io {x : Int32} (h : io 0 ≤ x) : x = io x.toNatClampNeg := by
  rw [Int32.le_iff_toInt_le, io_toInt (by omega)] at h
  have h2 : (x.toNatClampNeg : Int) = x.toInt := by
    unfold Int32.toNatClampNeg
    omega
  have := Int32.toInt_lt x
  rw [← Int32.toInt_inj, io_toInt (by omega)]
  omega
theorem nn_clamp {x : Int32} (h : ¬ io 0 ≤ x) : x.toNatClampNeg = 0 := by
  rw [Int32.le_iff_toInt_le, io_toInt (by omega)] at h
  unfold Int32.toNatClampNeg
  omega
theorem clamp_lt (x : Int32) : x.toNatClampNeg < 2147483648 := by
  have := Int32.toInt_lt x
  unfold Int32.toNatClampNeg
  omega
def giftQ (v : GV) (sv : SV) (s st money : Nat) : Nat :=
  let g := min money (wishS v sv s st money).toNatClampNeg
  if sLe sv ≤ g then g + 1 else if sLe sv ≤ gWo v s ∧ sLe sv ≤ money then sLe sv + 1 else 0
theorem giftS_Q (v : GV) (sv : SV) (s st sp : Nat) : giftS v sv s st sp = giftQ v sv s st (gPu v s - sp) := rfl
theorem giftQ_le {v : GV} {sv : SV} {s st money : Nat} (h : money ≤ 9) : giftQ v sv s st money ≤ 10 := by
  unfold giftQ
  simp only
  split
  · omega
  · split <;> omega
/-- the giver g stands at the Rules r and the Setting p, which hold v and sv; what it remembers is right -/
def KN (M : Mem) (g : Nat) (v : GV) (sv : SV) : Prop := ∀ sp s t, s < gN v → t < 100 → (sp * 8 + s) * 100 + t < knN g → mI M (g + 1) ((sp * 8 + s) * 100 + t) = -(io 2) ∨ mI M (g + 1) ((sp * 8 + s) * 100 + t) = gI (giftS v sv s (if sGl sv = 1 then t else 0) sp)
def GvI (M : Mem) (g r p : Nat) (v : GV) (sv : SV) : Prop := PG M g ∧ mR M g 0 = r ∧ mR M g 1 = p ∧ PR M r ∧ CG M r v ∧ CS M p sv
theorem rpg_ne {g r p : Nat} (hg : isGv g) (hr : isRu r) (hp : isSe p) : ∀ k j, k ≤ 5 → 1 ≤ j → j ≤ 3 → r + k ≠ g + j ∧ p ≠ g + j ∧ r + k ≠ p := by
  intro k j h1 h2 h3
  rcases hg with rfl | rfl <;> rcases hr with rfl | rfl | rfl <;> rcases hp with rfl | rfl | rfl | rfl <;> omega
theorem ob_g {g a b o : Nat} (h : o < g + a ∨ g + b < o) : ob [(g + a, g + b)] o = true := by
  simp only [ob, Bool.and_true, Bool.or_eq_true, decide_eq_true_eq]
  exact h
/-- what is known of Rules and Setting stays while the giver's own rows change -/
theorem GvI.keep {M M' : Mem} {g r p : Nat} {v : GV} {sv : SV} (hg : isGv g) (hr : isRu r) (hp : isSe p) (h : GvI M g r p v sv) (hF : Fg [(g + 1, g + 3)] [] M M') : GvI M' g r p v sv := by
  have hR : ∀ o k, mR M' o k = mR M o k := fun o k => hF.2.2 o rfl k
  have hr' : ∀ k, k ≤ 5 → ∀ j, mI M' (r + k) j = mI M (r + k) j := fun k hk j => hF.I (ob_g (by rcases hg with rfl | rfl <;> rcases hr with rfl | rfl | rfl <;> omega))
  have hp' : ∀ j, mI M' p j = mI M p j := fun j => hF.I (ob_g (by rcases hg with rfl | rfl <;> rcases hp with rfl | rfl | rfl | rfl <;> omega))
  have hr0 : ∀ j, mI M' r j = mI M r j := hr' 0 (by omega)
  obtain ⟨h1, h2, h3, h4, h5, h6⟩ := h
  refine ⟨?_, ?_, ?_, ?_, ?_, ?_⟩
  · simpa only [PG, hR] using h1
  · simpa only [hR] using h2
  · simpa only [hR] using h3
  · simpa only [PR, hR] using h4
  · simpa only [CG, hr0, hr' 1 (by omega), hr' 2 (by omega), hr' 3 (by omega), hr' 4 (by omega), hr' 5 (by omega)] using h5
  · simpa only [CS, hp'] using h6
theorem ob_one {g a o : Nat} (h : o ≠ g + a) : ob [(g + a, g + a)] o = true := by
  simp only [ob, Bool.and_true, Bool.or_eq_true, decide_eq_true_eq]
  omega
theorem Fg.in3 {g j : Nat} {M M' : Mem} (h1 : 1 ≤ j) (h2 : j ≤ 3) (h : Fg [(g + j, g + j)] [] M M') : Fg [(g + 1, g + 3)] [] M M' := h.sub (fun o ho => by simp only [ob, Bool.and_true, Bool.or_eq_true, decide_eq_true_eq] at ho ⊢; omega) (fun _ h => h)
theorem c_look_132 {M : Mem} {g r p : Nat} {v : GV} {sv : SV} {x : Int32} (hg : isGv g) (hr : isRu r) (hp : isSe p) (h : GvI M g r p v sv) :
    Wp (zX5_look_B132 g (g + 2) (io 5) x M) (fun _ M' => (∀ w, w < 5 → mI M' (g + 2) w = mI M (g + 2) w) ∧ mI M' (g + 2) 5 = x ∧ mI M' (g + 2) 6 = io (sKe sv) ∧ mI M' (g + 2) 7 = io (sGl sv) ∧ mI M' (g + 2) 8 = io (sLe sv) ∧ Fg [(g + 2, g + 2)] [] M M') := by
  obtain ⟨hP, hR0, hR1, hPR, hC, s0, s1, s2, s3⟩ := h
  have e3 : (p = g + 2) = False := eq_false (rpg_ne hg hr hp 0 2 (by omega) (by omega) (by omega)).2.1
  unfold zX5_look_B132
  simp -dsimp (disch := first | assumption | omega) only [lit_6, lit_7, lit_8, ↓bndX_h, ↓bndK_h, bxh_inl, bxh_inr, bkh_inl, bkh_inr, Nat.reduceEqDiff, ↓bnd_h, ↓lt_h, ↓ite_h, bh_some, lh_eq, ih_T, ih_F, ne_eq, not_false_eq_true, not_true_eq_false, eq_self, and_true, true_and, io_def, K0_gv, gv_ne, PG.p2, PG.p3, PG.p4, at_g2, at_g3, put_g2, put_g3, succ_ne, false_and, and_false, if_false, if_true, and_self, mI_sI, mI_sL, mL_sI, mL_sL, mR_sI, mR_sL, K0_se, se_ne, hR1, s1, s2, s3, e3, false_and, if_false]
  refine Wp.ret ⟨fun w hw => ?_, ?_, ?_, ?_, ?_, (((Fg.refl.sI ?_).sI ?_).sI ?_).sI ?_⟩
  · rw [mI_sI, if_neg (by omega), mI_sI, if_neg (by omega), mI_sI, if_neg (by omega), mI_sI, if_neg (by omega)]
  · simp [mI_sI]
  · simp [mI_sI]
  · simp [mI_sI]
  · simp [mI_sI]
  · simp [ob]
  · simp [ob]
  · simp [ob]
  · simp [ob]
theorem c_look_108 {M : Mem} {g r p : Nat} {v : GV} {sv : SV} {x : Int32} (hg : isGv g) (hr : isRu r) (hp : isSe p) (hsv : okS sv) (h : GvI M g r p v sv) :
    Wp (zX5_look_B108 g (g + 2) (io 4) x M) (fun _ M' => (∀ w, w < 4 → mI M' (g + 2) w = mI M (g + 2) w) ∧ mI M' (g + 2) 4 = x ∧ mI M' (g + 2) 5 = io (if sCa sv = 0 then 0 else 1) ∧ mI M' (g + 2) 6 = io (sKe sv) ∧ mI M' (g + 2) 7 = io (sGl sv) ∧ mI M' (g + 2) 8 = io (sLe sv) ∧ Fg [(g + 2, g + 2)] [] M M') := by
  have h9 := h
  obtain ⟨hP, hR0, hR1, hPR, hC, s0, s1, s2, s3⟩ := h
  have e3 : (p = g + 2) = False := eq_false (rpg_ne hg hr hp 0 2 (by omega) (by omega) (by omega)).2.1
  have := hsv.1
  have hF : Fg [(g + 2, g + 2)] [] M (sI M (g + 2) 4 x) := Fg.refl.sI (by simp [ob])
  have h10 := h9.keep hg hr hp (hF.in3 (by omega) (by omega))
  unfold zX5_look_B108
  simp -dsimp (disch := first | assumption | omega) only [lit_0, lit_1, lit_5, neg_1, ↓bndX_h, ↓bndK_h, bxh_inl, bxh_inr, bkh_inl, bkh_inr, Nat.reduceEqDiff, ↓bnd_h, ↓lt_h, ↓ite_h, bh_some, lh_eq, ih_T, ih_F, ne_eq, not_false_eq_true, not_true_eq_false, eq_self, and_true, true_and, io_def, K0_gv, gv_ne, PG.p2, PG.p3, PG.p4, at_g2, at_g3, put_g2, put_g3, succ_ne, false_and, and_false, if_false, if_true, and_self, mI_sI, mI_sL, mL_sI, mL_sL, mR_sI, mR_sL, K0_se, se_ne, hR1, s0, gI_m1, e3, false_and, if_false]
  refine Wp.csh (fun c => ?_) (fun c => ?_)
  · simp -dsimp (disch := first | assumption | omega) only [K0_gv, gv_ne, PG.p2, PG.p3, PG.p4, at_g2, at_g3, put_g2, put_g3, succ_ne, false_and, and_false, if_false, if_true, and_self, mI_sI, mI_sL, mL_sI, mL_sL, mR_sI, mR_sL]
    refine (c_look_132 hg hr hp h10).mono (fun _ M' ⟨a1, a2, a3, a4, a5, a6⟩ => ⟨fun w hw => ?_, ?_, ?_, a3, a4, a5, hF.trans a6⟩)
    · rw [a1 w (by omega), mI_sI, if_neg (by omega)]
    · rw [a1 4 (by omega), mI_sI, if_pos ⟨rfl, rfl⟩]
    · rw [a2, if_pos c]; rfl
  · simp -dsimp (disch := first | assumption | omega) only [K0_gv, gv_ne, PG.p2, PG.p3, PG.p4, at_g2, at_g3, put_g2, put_g3, succ_ne, false_and, and_false, if_false, if_true, and_self, mI_sI, mI_sL, mL_sI, mL_sL, mR_sI, mR_sL]
    refine (c_look_132 hg hr hp h10).mono (fun _ M' ⟨a1, a2, a3, a4, a5, a6⟩ => ⟨fun w hw => ?_, ?_, ?_, a3, a4, a5, hF.trans a6⟩)
    · rw [a1 w (by omega), mI_sI, if_neg (by omega)]
    · rw [a1 4 (by omega), mI_sI, if_pos ⟨rfl, rfl⟩]
    · rw [a2, if_neg c]; rfl
theorem c_meanOf {M : Mem} {r st : Nat} (hr : isRu r) (hst : st < 100) : zX8_meanOf r (io st) M = some (if mI M r 2 = io 2 then io ((st / 10 + st % 10) / 2) else io st, M) := by
  unfold zX8_meanOf
  simp -dsimp (disch := first | assumption | omega) only [lit_0, lit_1, lit_2, lit_3, lit_4, lit_5, lit_6, lit_7, lit_8, lit_9, lit_10, lit_11, lit_12, lit_13, lit_14, lit_15, lit_16, lit_17, lit_18, lit_19, lit_20, lit_21, lit_22, lit_23, lit_24, lit_25, lit_26, lit_27, lit_28, lit_29, lit_30, lit_31, lit_32, lit_33, lit_34, lit_35, lit_36, lit_37, lit_38, lit_39, lit_40, lit_41, lit_42, lit_43, lit_44, lit_45, lit_46, lit_47, lit_48, lit_49, lit_50, lit_51, lit_52, lit_53, lit_54, lit_55, lit_56, lit_57, lit_58, lit_59, lit_60, lit_61, lit_62, lit_63, lit_64, lit_97, lit_99, lit_100, lit_122, lit_175, lit_176, lit_200, lit_255, lit_400, lit_700, lit_800, lit_999, lit_1000, lit_1400, lit_2000, lit_2033, lit_2038, lit_2100, lit_2124, lit_8000, lit_10000, lit_12345, lit_32767, lit_1000000, lit_1000000000, ↓reduceIte, ne_eq, not_false_eq_true, not_true_eq_false, eq_self, and_true, true_and, bnd_some, lt_eq, io_def, K0_r, io_add, io_mul, io_sub, io_lt, io_le, io_eq, io_clamp, io_inbT, io_div, io_mod, io_m1, m1_io, m1_lt, m1_le, neg_1, gI_m1]
  split <;> rfl
theorem c_look_50 {M : Mem} {g r p : Nat} {v : GV} {sv : SV} {x : Int32} {st : Nat} (hg : isGv g) (hr : isRu r) (hp : isSe p) (hv : okG v) (hsv : okS sv) (hst : st < 100) (h : GvI M g r p v sv) :
    Wp (zX5_look_B50 g (io st) (g + 2) (io 1) x M) (fun _ M' => mI M' (g + 2) 0 = mI M (g + 2) 0 ∧ mI M' (g + 2) 1 = x ∧ mI M' (g + 2) 2 = io (st % 10) ∧ mI M' (g + 2) 3 = io (if gSi v = 2 then (st / 10 + st % 10) / 2 else st) ∧ mI M' (g + 2) 4 = io (sCa sv - 1) ∧ mI M' (g + 2) 5 = io (if sCa sv = 0 then 0 else 1) ∧ mI M' (g + 2) 6 = io (sKe sv) ∧ mI M' (g + 2) 7 = io (sGl sv) ∧ mI M' (g + 2) 8 = io (sLe sv) ∧ Fg [(g + 2, g + 2)] [] M M') := by
  have h9 := h
  obtain ⟨hP, hR0, hR1, hPR, hC, s0, s1, s2, s3⟩ := h
  obtain ⟨c0, c1, c2, c3, c4, c6, cs, ck, ca⟩ := hC
  have e3 : (p = g + 2) = False := eq_false (rpg_ne hg hr hp 0 2 (by omega) (by omega) (by omega)).2.1
  have e4 : (r = g + 2) = False := eq_false (by have := (rpg_ne hg hr hp 0 2 (by omega) (by omega) (by omega)).1; omega)
  have := hsv.1
  have := hv.2.1
  unfold zX5_look_B50
  simp -dsimp (disch := first | assumption | omega) only [lit_0, lit_1, lit_2, lit_3, lit_4, lit_5, lit_6, lit_7, lit_8, lit_9, lit_10, lit_11, lit_12, lit_13, lit_14, lit_15, lit_16, lit_17, lit_18, lit_19, lit_20, lit_21, lit_22, lit_23, lit_24, lit_25, lit_26, lit_27, lit_28, lit_29, lit_30, lit_31, lit_32, lit_33, lit_34, lit_35, lit_36, lit_37, lit_38, lit_39, lit_40, lit_41, lit_42, lit_43, lit_44, lit_45, lit_46, lit_47, lit_48, lit_49, lit_50, lit_51, lit_52, lit_53, lit_54, lit_55, lit_56, lit_57, lit_58, lit_59, lit_60, lit_61, lit_62, lit_63, lit_64, lit_97, lit_99, lit_100, lit_122, lit_175, lit_176, lit_200, lit_255, lit_400, lit_700, lit_800, lit_999, lit_1000, lit_1400, lit_2000, lit_2033, lit_2038, lit_2100, lit_2124, lit_8000, lit_10000, lit_12345, lit_32767, lit_1000000, lit_1000000000, neg_1, ↓bndX_h, ↓bndK_h, bxh_inl, bxh_inr, bkh_inl, bkh_inr, Nat.reduceEqDiff, ↓bnd_h, ↓lt_h, ↓ite_h, bh_some, lh_eq, ih_T, ih_F, ne_eq, not_false_eq_true, not_true_eq_false, eq_self, and_true, true_and, io_def, K0_gv, gv_ne, PG.p2, PG.p3, PG.p4, at_g2, at_g3, put_g2, put_g3, succ_ne, false_and, and_false, if_false, if_true, and_self, mI_sI, mI_sL, mL_sI, mL_sL, mR_sI, mR_sL, K0_se, se_ne, K0_r, ru_ne, hR0, hR1, s0, c2, c_meanOf, gI_m1, e3, e4, false_and, if_false, io_add, io_mul, io_sub, io_lt, io_le, io_eq, io_clamp, io_inbT, io_div, io_mod, io_m1, m1_io, m1_lt, m1_le, neg_1, gI_m1]
  have fin : ∀ (y : Int32) (M1 : Mem), GvI M1 g r p v sv → mI M1 (g + 2) 0 = mI M (g + 2) 0 → mI M1 (g + 2) 1 = x → mI M1 (g + 2) 2 = io (st % 10) → mI M1 (g + 2) 3 = io (if gSi v = 2 then (st / 10 + st % 10) / 2 else st) → y = io (sCa sv - 1) → Fg [(g + 2, g + 2)] [] M M1 →
      Wp (zX5_look_B108 g (g + 2) (io 4) y M1) (fun _ M' => mI M' (g + 2) 0 = mI M (g + 2) 0 ∧ mI M' (g + 2) 1 = x ∧ mI M' (g + 2) 2 = io (st % 10) ∧ mI M' (g + 2) 3 = io (if gSi v = 2 then (st / 10 + st % 10) / 2 else st) ∧ mI M' (g + 2) 4 = io (sCa sv - 1) ∧ mI M' (g + 2) 5 = io (if sCa sv = 0 then 0 else 1) ∧ mI M' (g + 2) 6 = io (sKe sv) ∧ mI M' (g + 2) 7 = io (sGl sv) ∧ mI M' (g + 2) 8 = io (sLe sv) ∧ Fg [(g + 2, g + 2)] [] M M') := by
    intro y M1 b0 b1 b2 b3 b4 b5 b6
    refine (c_look_108 hg hr hp hsv b0).mono (fun _ M' ⟨a1, a2, a3, a4, a5, a6, a7⟩ => ⟨?_, ?_, ?_, ?_, ?_, a3, a4, a5, a6, b6.trans a7⟩)
    · rw [a1 0 (by omega), b1]
    · rw [a1 1 (by omega), b2]
    · rw [a1 2 (by omega), b3]
    · rw [a1 3 (by omega), b4]
    · rw [a2, b5]
  have h11 : ∀ a b, GvI (sI (sI (sI M (g + 2) 1 x) (g + 2) 2 a) (g + 2) 3 b) g r p v sv := fun a b => h9.keep hg hr hp (Fg.in3 (j := 2) (by omega) (by omega) (((Fg.refl.sI (by simp [ob])).sI (by simp [ob])).sI (by simp [ob])))
  have e6 : (if gSi v = 2 then io ((st / 10 + st % 10) / 2) else io st) = io (if gSi v = 2 then (st / 10 + st % 10) / 2 else st) := by split <;> rfl
  refine Wp.csh (fun c => ?_) (fun c => ?_)
  · simp -dsimp (disch := first | assumption | omega) only [K0_gv, gv_ne, PG.p2, PG.p3, PG.p4, at_g2, at_g3, put_g2, put_g3, succ_ne, false_and, and_false, if_false, if_true, and_self, mI_sI, mI_sL, mL_sI, mL_sL, mR_sI, mR_sL]
    refine fin _ _ (h11 _ _) (by simp [mI_sI]) (by simp [mI_sI]) (by simp [mI_sI]) (by simp [mI_sI, e6]) (by rw [c]; rfl) (((Fg.refl.sI (by simp [ob])).sI (by simp [ob])).sI (by simp [ob]))
  · simp -dsimp (disch := first | assumption | omega) only [K0_gv, gv_ne, PG.p2, PG.p3, PG.p4, at_g2, at_g3, put_g2, put_g3, succ_ne, false_and, and_false, if_false, if_true, and_self, mI_sI, mI_sL, mL_sI, mL_sL, mR_sI, mR_sL, hR1, e3, false_and, if_false, s0]
    refine fin _ _ (h11 _ _) (by simp [mI_sI]) (by simp [mI_sI]) (by simp [mI_sI]) (by simp [mI_sI, e6]) (by unfold gI; rw [if_neg c]) (((Fg.refl.sI (by simp [ob])).sI (by simp [ob])).sI (by simp [ob]))
theorem valS_9 {v : GV} {sv : SV} {s st money w : Nat} {f : Nat → Int32} (hw : w < 9) (h0 : f 0 = io (gWo v s)) (h1 : f 1 = io money) (h2 : f 2 = io (if sGl sv = 1 then st % 10 else 0)) (h3 : f 3 = io (if sGl sv = 1 then (if gSi v = 2 then (st / 10 + st % 10) / 2 else st) else 0)) (h4 : f 4 = io (sCa sv - 1)) (h5 : f 5 = io (if sCa sv = 0 then 0 else 1)) (h6 : f 6 = io (sKe sv)) (h7 : f 7 = io (sGl sv)) (h8 : f 8 = io (sLe sv)) : f w = valS v sv s st money w := by
  have h : w = 0 ∨ w = 1 ∨ w = 2 ∨ w = 3 ∨ w = 4 ∨ w = 5 ∨ w = 6 ∨ w = 7 ∨ w = 8 := by omega
  rcases h with rfl | rfl | rfl | rfl | rfl | rfl | rfl | rfl | rfl <;> assumption
theorem c_look {M : Mem} {g r p : Nat} {v : GV} {sv : SV} {s st sp : Nat} (hg : isGv g) (hr : isRu r) (hp : isSe p) (hv : okG v) (hsv : okS sv) (hs : s < gN v) (hst : st < 100) (hsp : sp < 100) (hseen : sGl sv = 1 ∨ st = 0) (h : GvI M g r p v sv) :
    Wp (zX5_look g (io s) (io st) (io sp) M) (fun _ M' => (∀ w, w < 9 → mI M' (g + 2) w = valS v sv s st (gPu v s - sp) w) ∧ Fg [(g + 2, g + 2)] [] M M') := by
  have h9 := h
  have hne := rpg_ne hg hr hp
  obtain ⟨hP, hR0, hR1, hPR, hC, hS⟩ := h
  obtain ⟨c0, c1, c2, c3, c4, c6, cs, ck, ca⟩ := hC
  obtain ⟨d1, d2, d3, d4, d5⟩ := cs s hs
  obtain ⟨o1, o2, o3, o4, o5, o6, os⟩ := hv
  obtain ⟨p1, p2, p3, p4, p5, p6, p7⟩ := os s hs
  have fin : ∀ (y : Int32) (M1 : Mem), y = io (gPu v s - sp) → M1 = sI M (g + 2) 0 (io (gWo v s)) → Wp (zX5_look_B50 g (io st) (g + 2) (io 1) y M1) (fun _ M' => (∀ w, w < 9 → mI M' (g + 2) w = valS v sv s st (gPu v s - sp) w) ∧ Fg [(g + 2, g + 2)] [] M M') := by
    intro y M1 hy e
    subst e
    have hF : Fg [(g + 2, g + 2)] [] M (sI M (g + 2) 0 (io (gWo v s))) := Fg.refl.sI (by simp [ob])
    refine (c_look_50 hg hr hp ⟨o1, o2, o3, o4, o5, o6, os⟩ hsv hst (h9.keep hg hr hp (hF.in3 (by omega) (by omega)))).mono (fun _ M' h => ⟨fun w hw => ?_, hF.trans h.2.2.2.2.2.2.2.2.2⟩)
    obtain ⟨a0, a1, a2, a3, a4, a5, a6, a7, a8, a9⟩ := h
    refine valS_9 (f := fun w => mI M' (g + 2) w) hw ?_ (a1.trans hy) ?_ ?_ a4 a5 a6 a7 a8
    · show mI M' (g + 2) 0 = _
      rw [a0, mI_sI, if_pos ⟨rfl, rfl⟩]
    · show mI M' (g + 2) 2 = _
      rw [a2]
      rcases hseen with q | q
      · rw [if_pos q]
      · subst q; split <;> rfl
    · show mI M' (g + 2) 3 = _
      rw [a3]
      rcases hseen with q | q
      · rw [if_pos q]
      · subst q; split <;> split <;> rfl
  unfold zX5_look
  by_cases hsub : sp ≤ gPu v s
  · have e5 : io (gPu v s) - io sp = io (gPu v s - sp) := io_sub hsub
    simp -dsimp (disch := first | assumption | omega) only [lit_0, lit_1, lit_2, lit_3, lit_4, lit_5, lit_6, lit_7, lit_8, lit_9, lit_10, lit_11, lit_12, lit_13, lit_14, lit_15, lit_16, lit_17, lit_18, lit_19, lit_20, lit_21, lit_22, lit_23, lit_24, lit_25, lit_26, lit_27, lit_28, lit_29, lit_30, lit_31, lit_32, lit_33, lit_34, lit_35, lit_36, lit_37, lit_38, lit_39, lit_40, lit_41, lit_42, lit_43, lit_44, lit_45, lit_46, lit_47, lit_48, lit_49, lit_50, lit_51, lit_52, lit_53, lit_54, lit_55, lit_56, lit_57, lit_58, lit_59, lit_60, lit_61, lit_62, lit_63, lit_64, lit_97, lit_99, lit_100, lit_122, lit_175, lit_176, lit_200, lit_255, lit_400, lit_700, lit_800, lit_999, lit_1000, lit_1400, lit_2000, lit_2033, lit_2038, lit_2100, lit_2124, lit_8000, lit_10000, lit_12345, lit_32767, lit_1000000, lit_1000000000, ↓bndX_h, ↓bndK_h, bxh_inl, bxh_inr, bkh_inl, bkh_inr, Nat.reduceEqDiff, ↓bnd_h, ↓lt_h, ↓ite_h, bh_some, lh_eq, ih_T, ih_F, ne_eq, not_false_eq_true, not_true_eq_false, eq_self, and_true, true_and, io_def, K0_gv, gv_ne, PG.p2, PG.p3, PG.p4, at_g2, at_g3, put_g2, put_g3, succ_ne, K0_r, K0_r1, K0_r2, K0_r3, K0_r4, K0_r5, K0_r6, ru_ne, PR.p7, PR.p8, PR.p9, PR.p10, PR.p11, PR.p12, at_r1, at_r2, at_r3, at_r4, at_r5, succ_ne, false_and, and_false, if_false, if_true, and_self, mI_sI, mI_sL, mL_sI, mL_sL, mR_sI, mR_sL, hR0, d2, d3, e5, io_le, Nat.zero_le]
    exact fin _ _ rfl rfl
  · simp -dsimp (disch := first | assumption | omega) only [lit_0, lit_1, lit_2, lit_3, lit_4, lit_5, lit_6, lit_7, lit_8, lit_9, lit_10, lit_11, lit_12, lit_13, lit_14, lit_15, lit_16, lit_17, lit_18, lit_19, lit_20, lit_21, lit_22, lit_23, lit_24, lit_25, lit_26, lit_27, lit_28, lit_29, lit_30, lit_31, lit_32, lit_33, lit_34, lit_35, lit_36, lit_37, lit_38, lit_39, lit_40, lit_41, lit_42, lit_43, lit_44, lit_45, lit_46, lit_47, lit_48, lit_49, lit_50, lit_51, lit_52, lit_53, lit_54, lit_55, lit_56, lit_57, lit_58, lit_59, lit_60, lit_61, lit_62, lit_63, lit_64, lit_97, lit_99, lit_100, lit_122, lit_175, lit_176, lit_200, lit_255, lit_400, lit_700, lit_800, lit_999, lit_1000, lit_1400, lit_2000, lit_2033, lit_2038, lit_2100, lit_2124, lit_8000, lit_10000, lit_12345, lit_32767, lit_1000000, lit_1000000000, ↓bndX_h, ↓bndK_h, bxh_inl, bxh_inr, bkh_inl, bkh_inr, Nat.reduceEqDiff, ↓bnd_h, ↓lt_h, ↓ite_h, bh_some, lh_eq, ih_T, ih_F, ne_eq, not_false_eq_true, not_true_eq_false, eq_self, and_true, true_and, io_def, K0_gv, gv_ne, PG.p2, PG.p3, PG.p4, at_g2, at_g3, put_g2, put_g3, succ_ne, K0_r, K0_r1, K0_r2, K0_r3, K0_r4, K0_r5, K0_r6, ru_ne, PR.p7, PR.p8, PR.p9, PR.p10, PR.p11, PR.p12, at_r1, at_r2, at_r3, at_r4, at_r5, succ_ne, false_and, and_false, if_false, if_true, and_self, mI_sI, mI_sL, mL_sI, mL_sL, mR_sI, mR_sL, hR0, d2, d3, io_sub_neg]
    exact fin _ _ (by rw [show gPu v s - sp = 0 by omega]) rfl
theorem c_kept {M : Mem} {g p : Nat} {v : GV} {sv : SV} {s st money : Nat} (hg : isGv g) (hp : isSe p) (hsv : okS sv) (hm : money < 100) (hw : gWo v s < 100) (hP : PG M g) (hR1 : mR M g 1 = p) (hS : CS M p sv) (h0 : mI M (g + 2) 0 = io (gWo v s)) (h1 : mI M (g + 2) 1 = io money) :
    zX5_kept g (wishS v sv s st money) M = some (gI (giftQ v sv s st money), M) := by
  obtain ⟨s0, s1, s2, s3⟩ := hS
  have hl := hsv.2.2.2
  unfold giftQ
  generalize wishS v sv s st money = x
  have key : ∀ n : Nat, n < 2147483648 → n = min money x.toNatClampNeg → Wp (zX5_kept_B35 g (io money) (io (sLe sv)) (io n) M) (fun y N => y = gI (if sLe sv ≤ n then n + 1 else if sLe sv ≤ gWo v s ∧ sLe sv ≤ money then sLe sv + 1 else 0) ∧ N = M) := by
    intro n hn _
    unfold zX5_kept_B35
    simp -dsimp (disch := first | assumption | omega) only [lit_0, lit_1, lit_2, lit_3, lit_4, lit_5, lit_6, lit_7, lit_8, lit_9, lit_10, lit_11, lit_12, lit_13, lit_14, lit_15, lit_16, lit_17, lit_18, lit_19, lit_20, lit_21, lit_22, lit_23, lit_24, lit_25, lit_26, lit_27, lit_28, lit_29, lit_30, lit_31, lit_32, lit_33, lit_34, lit_35, lit_36, lit_37, lit_38, lit_39, lit_40, lit_41, lit_42, lit_43, lit_44, lit_45, lit_46, lit_47, lit_48, lit_49, lit_50, lit_51, lit_52, lit_53, lit_54, lit_55, lit_56, lit_57, lit_58, lit_59, lit_60, lit_61, lit_62, lit_63, lit_64, lit_97, lit_99, lit_100, lit_122, lit_175, lit_176, lit_200, lit_255, lit_400, lit_700, lit_800, lit_999, lit_1000, lit_1400, lit_2000, lit_2033, lit_2038, lit_2100, lit_2124, lit_8000, lit_10000, lit_12345, lit_32767, lit_1000000, lit_1000000000, neg_1, ↓bndX_h, ↓bndK_h, bxh_inl, bxh_inr, bkh_inl, bkh_inr, Nat.reduceEqDiff, ↓bnd_h, ↓lt_h, ↓ite_h, bh_some, lh_eq, ih_T, ih_F, ne_eq, not_false_eq_true, not_true_eq_false, eq_self, and_true, true_and, io_def, K0_gv, gv_ne, PG.p2, PG.p3, PG.p4, at_g2, at_g3, put_g2, put_g3, succ_ne, h0, io_lt]
    refine Wp.csh (fun c => ?_) (fun c => ?_)
    · rw [if_neg (show ¬ sLe sv ≤ n by omega)]
      simp -dsimp (disch := first | assumption | omega) only [lit_0, lit_1, lit_2, lit_3, lit_4, lit_5, lit_6, lit_7, lit_8, lit_9, lit_10, lit_11, lit_12, lit_13, lit_14, lit_15, lit_16, lit_17, lit_18, lit_19, lit_20, lit_21, lit_22, lit_23, lit_24, lit_25, lit_26, lit_27, lit_28, lit_29, lit_30, lit_31, lit_32, lit_33, lit_34, lit_35, lit_36, lit_37, lit_38, lit_39, lit_40, lit_41, lit_42, lit_43, lit_44, lit_45, lit_46, lit_47, lit_48, lit_49, lit_50, lit_51, lit_52, lit_53, lit_54, lit_55, lit_56, lit_57, lit_58, lit_59, lit_60, lit_61, lit_62, lit_63, lit_64, lit_97, lit_99, lit_100, lit_122, lit_175, lit_176, lit_200, lit_255, lit_400, lit_700, lit_800, lit_999, lit_1000, lit_1400, lit_2000, lit_2033, lit_2038, lit_2100, lit_2124, lit_8000, lit_10000, lit_12345, lit_32767, lit_1000000, lit_1000000000, neg_1, ↓bndX_h, ↓bndK_h, bxh_inl, bxh_inr, bkh_inl, bkh_inr, Nat.reduceEqDiff, ↓bnd_h, ↓lt_h, ↓ite_h, bh_some, lh_eq, ih_T, ih_F, ne_eq, not_false_eq_true, not_true_eq_false, eq_self, and_true, true_and, io_def, K0_gv, gv_ne, PG.p2, PG.p3, PG.p4, at_g2, at_g3, put_g2, put_g3, succ_ne, h0, io_lt]
      refine Wp.csh (fun c2 => ?_) (fun c2 => ?_)
      · rw [if_neg (by omega)]; exact Wp.ret ⟨rfl, rfl⟩
      · refine Wp.cs (fun c3 => ?_) (fun c3 => ?_)
        · rw [io_lt (by omega) (by omega)] at c3
          rw [if_neg (by omega)]; exact Wp.ret ⟨rfl, rfl⟩
        · rw [io_lt (by omega) (by omega)] at c3
          rw [if_pos (by omega)]; exact Wp.ret ⟨rfl, rfl⟩
    · rw [if_pos (by omega)]; exact Wp.ret ⟨rfl, rfl⟩
  have hcl := clamp_lt x
  refine Wp.eq ?_
  unfold zX5_kept
  simp -dsimp (disch := first | assumption | omega) only [lit_0, lit_1, lit_2, lit_3, lit_4, lit_5, lit_6, lit_7, lit_8, lit_9, lit_10, lit_11, lit_12, lit_13, lit_14, lit_15, lit_16, lit_17, lit_18, lit_19, lit_20, lit_21, lit_22, lit_23, lit_24, lit_25, lit_26, lit_27, lit_28, lit_29, lit_30, lit_31, lit_32, lit_33, lit_34, lit_35, lit_36, lit_37, lit_38, lit_39, lit_40, lit_41, lit_42, lit_43, lit_44, lit_45, lit_46, lit_47, lit_48, lit_49, lit_50, lit_51, lit_52, lit_53, lit_54, lit_55, lit_56, lit_57, lit_58, lit_59, lit_60, lit_61, lit_62, lit_63, lit_64, lit_97, lit_99, lit_100, lit_122, lit_175, lit_176, lit_200, lit_255, lit_400, lit_700, lit_800, lit_999, lit_1000, lit_1400, lit_2000, lit_2033, lit_2038, lit_2100, lit_2124, lit_8000, lit_10000, lit_12345, lit_32767, lit_1000000, lit_1000000000, neg_1, ↓bndX_h, ↓bndK_h, bxh_inl, bxh_inr, bkh_inl, bkh_inr, Nat.reduceEqDiff, ↓bnd_h, ↓lt_h, ↓ite_h, bh_some, lh_eq, ih_T, ih_F, ne_eq, not_false_eq_true, not_true_eq_false, eq_self, and_true, true_and, io_def, K0_gv, gv_ne, PG.p2, PG.p3, PG.p4, at_g2, at_g3, put_g2, put_g3, succ_ne, K0_se, se_ne, hR1, h1, s3]
  refine Wp.csh (fun c => ?_) (fun c => ?_)
  · have e := nn_io c
    refine Wp.cs (fun c2 => ?_) (fun c2 => ?_)
    · rw [e, io_le (by omega) (by omega)] at c2
      have := key _ hcl (by omega)
      rw [← e] at this
      refine this.mono (fun y N h => ⟨h.1.trans ?_, h.2⟩)
      rw [Nat.min_eq_right c2]
    · rw [e, io_le (by omega) (by omega)] at c2
      refine (key money (by omega) (by omega)).mono (fun y N h => ⟨h.1.trans ?_, h.2⟩)
      rw [Nat.min_eq_left (by omega)]
  · have e := nn_clamp c
    refine (key 0 (by omega) (by omega)).mono (fun y N h => ⟨h.1.trans ?_, h.2⟩)
    rw [e, Nat.min_zero]
theorem valS_seen {v : GV} {sv : SV} {s st money : Nat} (h : ¬ sGl sv = 1) : valS v sv s st money = valS v sv s 0 money := by
  funext w
  simp only [valS, h, if_false]
theorem giftS_seen (v : GV) (sv : SV) (s st sp : Nat) : giftS v sv s (if sGl sv = 1 then st else 0) sp = giftS v sv s st sp := by
  by_cases h : sGl sv = 1
  · rw [if_pos h]
  · rw [if_neg h]
    have e : ∀ m, wishS v sv s st m = wishS v sv s 0 m := fun m => by
      unfold wishS
      rw [valS_seen (st := st) h]
    show giftQ v sv s 0 (gPu v s - sp) = giftQ v sv s st (gPu v s - sp)
    unfold giftQ
    simp only [e]
theorem gI_m2 {x : Nat} (h : x ≤ 10) : (gI x = -(io 2)) = False := by
  unfold gI
  by_cases e : x = 0
  · rw [if_pos e]; exact eq_false (by decide)
  · rw [if_neg e]
    refine eq_false (fun q => ?_)
    rw [← Int32.toInt_inj, io_toInt (by omega)] at q
    have : (-(io 2)).toInt = -2 := by decide
    omega
theorem c_giftAt {M : Mem} {g r p : Nat} {v : GV} {sv : SV} {s st sp : Nat} (hg : isGv g) (hr : isRu r) (hp : isSe p) (hv : okG v) (hsv : okS sv) (hs : s < gN v) (hst : st < 100) (hsp : (sp * 8 + s) * 100 + 100 ≤ knN g) (h : GvI M g r p v sv) (hK : KN M g v sv) :
    Wp (zX5_giftAt g (io s) (io st) (io sp) M) (fun x M' => x = gI (giftS v sv s st sp) ∧ KN M' g v sv ∧ Fg [(g + 1, g + 3)] [] M M') := by
  have h9 := h
  have hne := rpg_ne hg hr hp
  obtain ⟨hP, hR0, hR1, hPR, hC, hS⟩ := h
  obtain ⟨c0, c1, c2, c3, c4, c6, cs, ck, ca⟩ := hC
  obtain ⟨d1, d2, d3, d4, d5⟩ := cs s hs
  obtain ⟨s0, s1, s2, s3⟩ := hS
  have o6 := hv.2.2.2.2.2.1
  have o1 := hv.1
  obtain ⟨p1, p2, p3, p4, p5, p6, p7⟩ := hv.2.2.2.2.2.2 s hs
  have q3 := hsv.2.2.1
  have hkn := knN_le (g := g)
  have key : ∀ seen, seen = (if sGl sv = 1 then st else 0) → Wp (zX5_giftAt_B16 g (io s) (io sp) (io seen) M) (fun x M' => x = gI (giftS v sv s st sp) ∧ KN M' g v sv ∧ Fg [(g + 1, g + 3)] [] M M') := by
    intro seen hse
    have hst' : seen < 100 := by rw [hse]; split <;> omega
    have hk0 := hK sp s seen hs hst' (by omega)
    have hgs : giftS v sv s (if sGl sv = 1 then seen else 0) sp = giftS v sv s st sp := by
      rw [giftS_seen, hse, giftS_seen]
    rw [hgs] at hk0
    have hle : giftS v sv s st sp ≤ 10 := giftQ_le (by omega)
    unfold zX5_giftAt_B16
    simp -dsimp (disch := first | assumption | omega) only [lit_0, lit_1, lit_2, lit_3, lit_4, lit_5, lit_6, lit_7, lit_8, lit_9, lit_10, lit_11, lit_12, lit_13, lit_14, lit_15, lit_16, lit_17, lit_18, lit_19, lit_20, lit_21, lit_22, lit_23, lit_24, lit_25, lit_26, lit_27, lit_28, lit_29, lit_30, lit_31, lit_32, lit_33, lit_34, lit_35, lit_36, lit_37, lit_38, lit_39, lit_40, lit_41, lit_42, lit_43, lit_44, lit_45, lit_46, lit_47, lit_48, lit_49, lit_50, lit_51, lit_52, lit_53, lit_54, lit_55, lit_56, lit_57, lit_58, lit_59, lit_60, lit_61, lit_62, lit_63, lit_64, lit_97, lit_99, lit_100, lit_122, lit_175, lit_176, lit_200, lit_255, lit_400, lit_700, lit_800, lit_999, lit_1000, lit_1400, lit_2000, lit_2033, lit_2038, lit_2100, lit_2124, lit_8000, lit_10000, lit_12345, lit_32767, lit_1000000, lit_1000000000, ↓bndX_h, ↓bndK_h, bxh_inl, bxh_inr, bkh_inl, bkh_inr, Nat.reduceEqDiff, ↓bnd_h, ↓lt_h, ↓ite_h, bh_some, lh_eq, ih_T, ih_F, ne_eq, not_false_eq_true, not_true_eq_false, eq_self, and_true, true_and, io_def, K0_gv, gv_ne, PG.p2, PG.p3, PG.p4, at_g2, at_g3, put_g2, put_g3, succ_ne, at_g1, io_add, io_mul, io_sub, io_lt, io_le, io_eq, io_clamp, io_inbT, io_div, io_mod, io_m1, m1_io, m1_lt, m1_le, neg_1, gI_m1]
    rcases hk0 with hk0 | hk0
    · rw [hk0]
      simp -dsimp (disch := first | assumption | omega) only [lit_0, lit_1, lit_2, lit_3, lit_4, lit_5, lit_6, lit_7, lit_8, lit_9, lit_10, lit_11, lit_12, lit_13, lit_14, lit_15, lit_16, lit_17, lit_18, lit_19, lit_20, lit_21, lit_22, lit_23, lit_24, lit_25, lit_26, lit_27, lit_28, lit_29, lit_30, lit_31, lit_32, lit_33, lit_34, lit_35, lit_36, lit_37, lit_38, lit_39, lit_40, lit_41, lit_42, lit_43, lit_44, lit_45, lit_46, lit_47, lit_48, lit_49, lit_50, lit_51, lit_52, lit_53, lit_54, lit_55, lit_56, lit_57, lit_58, lit_59, lit_60, lit_61, lit_62, lit_63, lit_64, lit_97, lit_99, lit_100, lit_122, lit_175, lit_176, lit_200, lit_255, lit_400, lit_700, lit_800, lit_999, lit_1000, lit_1400, lit_2000, lit_2033, lit_2038, lit_2100, lit_2124, lit_8000, lit_10000, lit_12345, lit_32767, lit_1000000, lit_1000000000, ↓bndX_h, ↓bndK_h, bxh_inl, bxh_inr, bkh_inl, bkh_inr, Nat.reduceEqDiff, ↓bnd_h, ↓lt_h, ↓ite_h, bh_some, lh_eq, ih_T, ih_F, ne_eq, not_false_eq_true, not_true_eq_false, eq_self, and_true, true_and, io_def]
      refine Wp.seqh (c_look hg hr hp hv hsv hs hst' (by omega) (by rw [hse]; by_cases q : sGl sv = 1; exact Or.inl q; exact Or.inr (if_neg q)) h9) (fun _ M1 ⟨a1, a2⟩ => ?_)
      have h10 := h9.keep hg hr hp (a2.in3 (by omega) (by omega))
      obtain ⟨hP', hR0', hR1', hPR', hC', hS'⟩ := h10
      obtain ⟨c0', c1', c2', c3', c4', c6', cs', ck', ca'⟩ := hC'
      obtain ⟨d1', d2', d3', d4', d5'⟩ := cs' s hs
      simp -dsimp (disch := first | assumption | omega) only [lit_0, lit_1, lit_2, lit_3, lit_4, lit_5, lit_6, lit_7, lit_8, lit_9, lit_10, lit_11, lit_12, lit_13, lit_14, lit_15, lit_16, lit_17, lit_18, lit_19, lit_20, lit_21, lit_22, lit_23, lit_24, lit_25, lit_26, lit_27, lit_28, lit_29, lit_30, lit_31, lit_32, lit_33, lit_34, lit_35, lit_36, lit_37, lit_38, lit_39, lit_40, lit_41, lit_42, lit_43, lit_44, lit_45, lit_46, lit_47, lit_48, lit_49, lit_50, lit_51, lit_52, lit_53, lit_54, lit_55, lit_56, lit_57, lit_58, lit_59, lit_60, lit_61, lit_62, lit_63, lit_64, lit_97, lit_99, lit_100, lit_122, lit_175, lit_176, lit_200, lit_255, lit_400, lit_700, lit_800, lit_999, lit_1000, lit_1400, lit_2000, lit_2033, lit_2038, lit_2100, lit_2124, lit_8000, lit_10000, lit_12345, lit_32767, lit_1000000, lit_1000000000, ↓bndX_h, ↓bndK_h, bxh_inl, bxh_inr, bkh_inl, bkh_inr, Nat.reduceEqDiff, ↓bnd_h, ↓lt_h, ↓ite_h, bh_some, lh_eq, ih_T, ih_F, ne_eq, not_false_eq_true, not_true_eq_false, eq_self, and_true, true_and, io_def, K0_gv, gv_ne, PG.p2, PG.p3, PG.p4, at_g2, at_g3, put_g2, put_g3, succ_ne, K0_r, K0_r1, K0_r2, K0_r3, K0_r4, K0_r5, K0_r6, ru_ne, PR.p7, PR.p8, PR.p9, PR.p10, PR.p11, PR.p12, at_r1, at_r2, at_r3, at_r4, at_r5, succ_ne, hR0', d4', d5', io_add, io_mul, io_sub, io_lt, io_le, io_eq, io_clamp, io_inbT, io_div, io_mod, io_m1, m1_io, m1_lt, m1_le, neg_1, gI_m1]
      have kw := c_worked_L (M := M1) (vals := valS v sv s seen (gPu v s - sp)) hg hr o6 (gE v s - gB v s) (gB v s) [] FU (by rw [FU_val]; omega) p7 (by omega) (by simp) trivial ⟨hP', hR0', hPR', ck', a1⟩
      rw [show gB v s + (gE v s - gB v s) = gE v s by omega] at kw
      unfold zX5_worked
      simp -dsimp (disch := first | assumption | omega) only [lit_0, lit_1, lit_2, lit_3, lit_4, lit_5, lit_6, lit_7, lit_8, lit_9, lit_10, lit_11, lit_12, lit_13, lit_14, lit_15, lit_16, lit_17, lit_18, lit_19, lit_20, lit_21, lit_22, lit_23, lit_24, lit_25, lit_26, lit_27, lit_28, lit_29, lit_30, lit_31, lit_32, lit_33, lit_34, lit_35, lit_36, lit_37, lit_38, lit_39, lit_40, lit_41, lit_42, lit_43, lit_44, lit_45, lit_46, lit_47, lit_48, lit_49, lit_50, lit_51, lit_52, lit_53, lit_54, lit_55, lit_56, lit_57, lit_58, lit_59, lit_60, lit_61, lit_62, lit_63, lit_64, lit_97, lit_99, lit_100, lit_122, lit_175, lit_176, lit_200, lit_255, lit_400, lit_700, lit_800, lit_999, lit_1000, lit_1400, lit_2000, lit_2033, lit_2038, lit_2100, lit_2124, lit_8000, lit_10000, lit_12345, lit_32767, lit_1000000, lit_1000000000, ↓bndX_h, ↓bndK_h, bxh_inl, bxh_inr, bkh_inl, bkh_inr, Nat.reduceEqDiff, ↓bnd_h, ↓lt_h, ↓ite_h, bh_some, lh_eq, ih_T, ih_F, ne_eq, not_false_eq_true, not_true_eq_false, eq_self, and_true, true_and, io_def, K0_gv, gv_ne, PG.p2, PG.p3, PG.p4, at_g2, at_g3, put_g2, put_g3, succ_ne]
      refine Wp.seqh kw (fun x M2 ⟨b1, b2⟩ => ?_)
      subst b1
      have e0 : mI M2 (g + 2) 0 = io (gWo v s) := by rw [b2.I (ob_one (by omega)), a1 0 (by omega)]; rfl
      have e1 : mI M2 (g + 2) 1 = io (gPu v s - sp) := by rw [b2.I (ob_one (by omega)), a1 1 (by omega)]; rfl
      have h11 := GvI.keep hg hr hp (h9.keep hg hr hp (a2.in3 (by omega) (by omega))) (b2.in3 (by omega) (by omega))
      have kk := c_kept (M := M2) (s := s) (st := seen) (v := v) hg hp hsv (show gPu v s - sp < 100 by omega) (by omega) h11.1 h11.2.2.1 h11.2.2.2.2.2 e0 e1
      unfold wishS at kk
      have hP2 := h11.1
      simp -dsimp (disch := first | assumption | omega) only [lit_0, lit_1, lit_2, lit_3, lit_4, lit_5, lit_6, lit_7, lit_8, lit_9, lit_10, lit_11, lit_12, lit_13, lit_14, lit_15, lit_16, lit_17, lit_18, lit_19, lit_20, lit_21, lit_22, lit_23, lit_24, lit_25, lit_26, lit_27, lit_28, lit_29, lit_30, lit_31, lit_32, lit_33, lit_34, lit_35, lit_36, lit_37, lit_38, lit_39, lit_40, lit_41, lit_42, lit_43, lit_44, lit_45, lit_46, lit_47, lit_48, lit_49, lit_50, lit_51, lit_52, lit_53, lit_54, lit_55, lit_56, lit_57, lit_58, lit_59, lit_60, lit_61, lit_62, lit_63, lit_64, lit_97, lit_99, lit_100, lit_122, lit_175, lit_176, lit_200, lit_255, lit_400, lit_700, lit_800, lit_999, lit_1000, lit_1400, lit_2000, lit_2033, lit_2038, lit_2100, lit_2124, lit_8000, lit_10000, lit_12345, lit_32767, lit_1000000, lit_1000000000, ↓bndX_h, ↓bndK_h, bxh_inl, bxh_inr, bkh_inl, bkh_inr, Nat.reduceEqDiff, ↓bnd_h, ↓lt_h, ↓ite_h, bh_some, lh_eq, ih_T, ih_F, ne_eq, not_false_eq_true, not_true_eq_false, eq_self, and_true, true_and, io_def, K0_gv, gv_ne, PG.p2, PG.p3, PG.p4, at_g2, at_g3, put_g2, put_g3, succ_ne, kk, put_g1]
      have eg : giftQ v sv s seen (gPu v s - sp) = giftS v sv s st sp := by rw [← giftS_Q, hse, giftS_seen]
      rw [eg]
      have hF1 : Fg [(g + 1, g + 3)] [] M M2 := (a2.in3 (by omega) (by omega)).trans (b2.in3 (by omega) (by omega))
      refine Wp.ret ⟨rfl, fun sp' s' t' hs' ht' hlt => ?_, hF1.sI (by simp [ob])⟩
      rw [mI_sI]
      by_cases q : (sp' * 8 + s') * 100 + t' = (sp * 8 + s) * 100 + seen
      · rw [if_pos ⟨rfl, q⟩]
        have q1 : s' = s := by omega
        have q2 : sp' = sp := by omega
        have q3 : t' = seen := by omega
        subst q1 q2 q3
        right
        rw [hgs]
      · rw [if_neg (fun z => q z.2), b2.I (ob_one (by omega)), a2.I (ob_one (by omega))]
        exact hK sp' s' t' hs' ht' hlt
    · rw [hk0]
      have := gI_m2 hle
      simp -dsimp (disch := first | assumption | omega) only [lit_0, lit_1, lit_2, lit_3, lit_4, lit_5, lit_6, lit_7, lit_8, lit_9, lit_10, lit_11, lit_12, lit_13, lit_14, lit_15, lit_16, lit_17, lit_18, lit_19, lit_20, lit_21, lit_22, lit_23, lit_24, lit_25, lit_26, lit_27, lit_28, lit_29, lit_30, lit_31, lit_32, lit_33, lit_34, lit_35, lit_36, lit_37, lit_38, lit_39, lit_40, lit_41, lit_42, lit_43, lit_44, lit_45, lit_46, lit_47, lit_48, lit_49, lit_50, lit_51, lit_52, lit_53, lit_54, lit_55, lit_56, lit_57, lit_58, lit_59, lit_60, lit_61, lit_62, lit_63, lit_64, lit_97, lit_99, lit_100, lit_122, lit_175, lit_176, lit_200, lit_255, lit_400, lit_700, lit_800, lit_999, lit_1000, lit_1400, lit_2000, lit_2033, lit_2038, lit_2100, lit_2124, lit_8000, lit_10000, lit_12345, lit_32767, lit_1000000, lit_1000000000, ↓bndX_h, ↓bndK_h, bxh_inl, bxh_inr, bkh_inl, bkh_inr, Nat.reduceEqDiff, ↓bnd_h, ↓lt_h, ↓ite_h, bh_some, lh_eq, ih_T, ih_F, ne_eq, not_false_eq_true, not_true_eq_false, eq_self, and_true, true_and, io_def, this]
      exact Wp.ret ⟨rfl, hK, Fg.refl⟩
  unfold zX5_giftAt
  simp -dsimp (disch := first | assumption | omega) only [lit_0, lit_1, lit_2, lit_3, lit_4, lit_5, lit_6, lit_7, lit_8, lit_9, lit_10, lit_11, lit_12, lit_13, lit_14, lit_15, lit_16, lit_17, lit_18, lit_19, lit_20, lit_21, lit_22, lit_23, lit_24, lit_25, lit_26, lit_27, lit_28, lit_29, lit_30, lit_31, lit_32, lit_33, lit_34, lit_35, lit_36, lit_37, lit_38, lit_39, lit_40, lit_41, lit_42, lit_43, lit_44, lit_45, lit_46, lit_47, lit_48, lit_49, lit_50, lit_51, lit_52, lit_53, lit_54, lit_55, lit_56, lit_57, lit_58, lit_59, lit_60, lit_61, lit_62, lit_63, lit_64, lit_97, lit_99, lit_100, lit_122, lit_175, lit_176, lit_200, lit_255, lit_400, lit_700, lit_800, lit_999, lit_1000, lit_1400, lit_2000, lit_2033, lit_2038, lit_2100, lit_2124, lit_8000, lit_10000, lit_12345, lit_32767, lit_1000000, lit_1000000000, ↓bndX_h, ↓bndK_h, bxh_inl, bxh_inr, bkh_inl, bkh_inr, Nat.reduceEqDiff, ↓bnd_h, ↓lt_h, ↓ite_h, bh_some, lh_eq, ih_T, ih_F, ne_eq, not_false_eq_true, not_true_eq_false, eq_self, and_true, true_and, io_def, K0_gv, gv_ne, PG.p2, PG.p3, PG.p4, at_g2, at_g3, put_g2, put_g3, succ_ne, K0_se, se_ne, hR1, s2, io_add, io_mul, io_sub, io_lt, io_le, io_eq, io_clamp, io_inbT, io_div, io_mod, io_m1, m1_io, m1_lt, m1_le, neg_1, gI_m1]
  refine Wp.csh (fun c => ?_) (fun c => ?_)
  · exact key st (by rw [if_pos c])
  · exact key 0 (by rw [if_neg c])
theorem c_begin {M : Mem} {g r p : Nat} {v : GV} {sv : SV} (hg : isGv g) (hr : isRu r) (hp : isSe p) (hP : PG M g) (hPR : PR M r) (hC : CG M r v) (hS : CS M p sv) : Wp (zX5_begin g r p M) (fun _ M' => GvI M' g r p v sv ∧ KN M' g v sv ∧ Fg [(g + 1, g + 1)] [(g, g)] M M') := by
  have hne := rpg_ne hg hr hp
  have hgr : r ≠ g ∧ p ≠ g := by rcases hg with rfl | rfl <;> rcases hr with rfl | rfl | rfl <;> rcases hp with rfl | rfl | rfl | rfl <;> omega
  unfold zX5_begin
  have e2 : mR (sR (sR M g 0 r) g 1 p) g 2 = g + 1 := by simp [mR_sR]; exact hP.1
  have e3 : mR (sR (sR M g 0 r) g 1 p) g 3 = g + 2 := by simp [mR_sR]; exact hP.2.1
  have e4 : mR (sR (sR M g 0 r) g 1 p) g 4 = g + 3 := by simp [mR_sR]; exact hP.2.2
  have e0 : mR (sR (sR M g 0 r) g 1 p) g 0 = r := by simp [mR_sR]
  have e1 : mR (sR (sR M g 0 r) g 1 p) g 1 = p := by simp [mR_sR]
  have er : ∀ k, mR (sR (sR M g 0 r) g 1 p) r k = mR M r k := fun k => by simp [mR_sR, hgr.1]
  simp -dsimp (disch := first | assumption | omega) only [lit_0, lit_1, lit_2, lit_3, lit_4, lit_5, lit_6, lit_7, lit_8, lit_9, lit_10, lit_11, lit_12, lit_13, lit_14, lit_15, lit_16, lit_17, lit_18, lit_19, lit_20, lit_21, lit_22, lit_23, lit_24, lit_25, lit_26, lit_27, lit_28, lit_29, lit_30, lit_31, lit_32, lit_33, lit_34, lit_35, lit_36, lit_37, lit_38, lit_39, lit_40, lit_41, lit_42, lit_43, lit_44, lit_45, lit_46, lit_47, lit_48, lit_49, lit_50, lit_51, lit_52, lit_53, lit_54, lit_55, lit_56, lit_57, lit_58, lit_59, lit_60, lit_61, lit_62, lit_63, lit_64, lit_97, lit_99, lit_100, lit_122, lit_175, lit_176, lit_200, lit_255, lit_400, lit_700, lit_800, lit_999, lit_1000, lit_1400, lit_2000, lit_2033, lit_2038, lit_2100, lit_2124, lit_8000, lit_10000, lit_12345, lit_32767, lit_1000000, lit_1000000000, ↓bndX_h, ↓bndK_h, bxh_inl, bxh_inr, bkh_inl, bkh_inr, Nat.reduceEqDiff, ↓bnd_h, ↓lt_h, ↓ite_h, bh_some, lh_eq, ih_T, ih_F, ne_eq, not_false_eq_true, not_true_eq_false, eq_self, and_true, true_and, io_def, K0_gv, ru_ne, se_ne, e2, succ_ne]
  refine Wp.seqh (c_fill (K0_g1 hg) (Nat.le_trans knN_le (by omega))) (fun _ M1 ⟨a1, a2⟩ => Wp.ret ⟨?_, ?_, ?_⟩)
  · refine GvI.keep (M := sR (sR M g 0 r) g 1 p) hg hr hp ⟨⟨e2, e3, e4⟩, e0, e1, ?_, ?_, ?_⟩ (a2.in3 (by omega) (by omega))
    · simpa only [PR, er] using hPR
    · exact hC
    · exact hS
  · intro sp s t hs ht hlt
    left
    rw [a1 _ hlt]
  · have hF : Fg [(g + 1, g + 1)] [(g, g)] M (sR (sR M g 0 r) g 1 p) := (Fg.refl.sR (by simp [ob])).sR (by simp [ob])
    exact hF.trans (a2.sub (fun _ h => h) (fun _ _ => rfl))
