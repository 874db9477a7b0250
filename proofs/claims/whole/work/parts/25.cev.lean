/-! ===== LEVEL 2: the class's giver ===== -/
theorem m1_io {a : Nat} (h : a < 2147483648) : (io a = m1) = False := io_m1 h
theorem m1_io2 {a : Nat} (h : a < 2147483648) : (m1 = io a) = False := by
  rw [eq_comm]
  exact io_m1 h
theorem m1_toInt : m1.toInt = -1 := by decide
theorem m1_lt {a : Nat} (h : a < 2147483648) : (m1 < io a) = True := by
  rw [Int32.lt_iff_toInt_lt, io_toInt h, m1_toInt]
  exact propext ⟨fun _ => trivial, fun _ => by omega⟩
theorem m1_le {a : Nat} (h : a < 2147483648) : (io a ≤ m1) = False := by
  rw [Int32.le_iff_toInt_le, io_toInt h, m1_toInt]
  exact propext ⟨fun _ => by omega, fun h => h.elim⟩
theorem neg_1 : -(io 1) = m1 := rfl
theorem gI_m1 {x : Nat} (h : x < 2147483648) : (gI x = m1) = (x = 0) := by
  unfold gI
  by_cases e : x = 0
  · simp only [e, if_true]
  · simp only [e, if_false]
    rw [m1_io (by omega)]
theorem succ_ne (n k : Nat) : (n + (k + 1) = 0) = False := by
  exact propext ⟨fun h => by omega, fun h => h.elim⟩
def ob : List (Nat × Nat) → Nat → Bool
  | [], _ => true
  | q :: l, o => (decide (o < q.1) || decide (q.2 < o)) && ob l o
/-- ints and longs outside of p (and longs of 72) and references outside of q are as they were -/
def Fg (p q : List (Nat × Nat)) (M M' : Mem) : Prop := (∀ o, ob p o = true → ∀ k, mI M' o k = mI M o k) ∧ (∀ o, ob p o = true → o ≠ 72 → ∀ k, mL M' o k = mL M o k) ∧ (∀ o, ob q o = true → ∀ k, mR M' o k = mR M o k)
theorem Fg.refl {p q : List (Nat × Nat)} {M : Mem} : Fg p q M M := ⟨fun _ _ _ => rfl, fun _ _ _ _ => rfl, fun _ _ _ => rfl⟩
theorem Fg.I {p q : List (Nat × Nat)} {M M' : Mem} (h : Fg p q M M') {o k : Nat} (ho : ob p o = true) : mI M' o k = mI M o k := h.1 o ho k
theorem Fg.L {p q : List (Nat × Nat)} {M M' : Mem} (h : Fg p q M M') {o k : Nat} (ho : ob p o = true) (h2 : o ≠ 72) : mL M' o k = mL M o k := h.2.1 o ho h2 k
theorem Fg.R {p q : List (Nat × Nat)} {M M' : Mem} (h : Fg p q M M') {o k : Nat} (ho : ob q o = true) : mR M' o k = mR M o k := h.2.2 o ho k
theorem Fg.trans {p q : List (Nat × Nat)} {M M1 M2 : Mem} (h : Fg p q M M1) (h' : Fg p q M1 M2) : Fg p q M M2 :=
  ⟨fun o ho k => (h'.1 o ho k).trans (h.1 o ho k), fun o ho h2 k => (h'.2.1 o ho h2 k).trans (h.2.1 o ho h2 k), fun o ho k => (h'.2.2 o ho k).trans (h.2.2 o ho k)⟩
theorem Fg.sub {p q p' q' : List (Nat × Nat)} {M M' : Mem} (h : Fg p q M M') (hp : ∀ o, ob p' o = true → ob p o = true) (hq : ∀ o, ob q' o = true → ob q o = true) : Fg p' q' M M' :=
  ⟨fun o ho => h.1 o (hp o ho), fun o ho => h.2.1 o (hp o ho), fun o ho => h.2.2 o (hq o ho)⟩
theorem Fg.sI {p q : List (Nat × Nat)} {M M' : Mem} {o k : Nat} {v : Int32} (h : Fg p q M M') (ho : ob p o = false) : Fg p q M (sI M' o k v) :=
  ⟨fun a ha j => by rw [mI_sI, if_neg (fun e : a = o ∧ j = k => by rw [e.1, ho] at ha; cases ha)]; exact h.1 a ha j, h.2.1, h.2.2⟩
theorem Fg.sL {p q : List (Nat × Nat)} {M M' : Mem} {o k : Nat} {v : Int64} (h : Fg p q M M') (ho : ob p o = false ∨ o = 72) : Fg p q M (sL M' o k v) :=
  ⟨h.1, fun a ha h2 j => by rw [mL_sL, if_neg (fun e : a = o ∧ j = k => by rcases ho with ho | ho; rw [e.1, ho] at ha; cases ha; exact h2 (e.1.trans ho))]; exact h.2.1 a ha h2 j, h.2.2⟩
theorem Fg.sR {p q : List (Nat × Nat)} {M M' : Mem} {o k v : Nat} (h : Fg p q M M') (ho : ob q o = false) : Fg p q M (sR M' o k v) :=
  ⟨h.1, h.2.1, fun a ha j => by rw [mR_sR, if_neg (fun e : a = o ∧ j = k => by rw [e.1, ho] at ha; cases ha)]; exact h.2.2 a ha j⟩
theorem at_io {o n a : Nat} {M : Mem} (hK : K0 o = (1, n)) (ha : a < n) (hn : n ≤ 100000) : zX11_at o (io a) M = some (mI M o a, M) := by
  unfold zX11_at
  simp (disch := first | assumption | omega) only [hK, lit_0, ↓reduceIte, ne_eq, not_false_eq_true, not_true_eq_false, eq_self, and_true, true_and, bnd_some, lt_eq, io_def, io_add, io_mul, io_sub, io_lt, io_le, io_eq, io_clamp, io_inb, io_div, io_mod, io_m1, m1_io, m1_lt, m1_le, neg_1, gI_m1]
  simp (disch := first | assumption | omega) only [↓reduceIte, show ¬ (a < 0) from by omega, show ¬ (n ≤ a) from by omega, ha]
theorem put_io {o n a : Nat} {x : Int32} {M : Mem} (hK : K0 o = (1, n)) (ha : a < n) (hn : n ≤ 100000) : zX11_put o (io a) x M = some ((), sI M o a x) := by
  unfold zX11_put
  simp (disch := first | assumption | omega) only [hK, lit_0, ↓reduceIte, ne_eq, not_false_eq_true, not_true_eq_false, eq_self, and_true, true_and, bnd_some, lt_eq, io_def, io_add, io_mul, io_sub, io_lt, io_le, io_eq, io_clamp, io_inb, io_div, io_mod, io_m1, m1_io, m1_lt, m1_le, neg_1, gI_m1]
  simp (disch := first | assumption | omega) only [↓reduceIte, show ¬ (a < 0) from by omega, show ¬ (n ≤ a) from by omega, ha]
theorem c_fill {o n : Nat} {x : Int32} {M : Mem} (hK : K0 o = (1, n)) (hn : n ≤ 100000) : Wp (zJ7_fill_53178 o x M) (fun _ M' => (∀ k, k < n → mI M' o k = x) ∧ Fg [(o, o)] [] M M') := by
  unfold zJ7_fill_53178
  simp (disch := first | assumption | omega) only [hK, ↓reduceIte, ne_eq, not_false_eq_true, not_true_eq_false, eq_self, and_true, true_and, bnd_some, lt_eq, io_def]
  refine loopW (L := fun f (i : Nat) M => zJ7_fill_53178_L5 f o x (io i) (io n) M) (J := fun i M1 => i ≤ n ∧ (∀ k, k < i → mI M1 o k = x) ∧ Fg [(o, o)] [] M M1) (fun i _ => n - i) ?_ FU 0 M ⟨Nat.zero_le _, fun k hk => absurd hk (Nat.not_lt_zero _), Fg.refl⟩ (by rw [FU_val]; omega)
  intro f i M1 ⟨hi, hall, hF⟩ rec
  show Wp (zJ7_fill_53178_B5 _ _ _ _ _ _) _
  unfold zJ7_fill_53178_B5
  simp (disch := first | assumption | omega) only [hK, ↓reduceIte, ne_eq, not_false_eq_true, not_true_eq_false, eq_self, and_true, true_and, bnd_some, lt_eq, io_def, io_add, io_mul, io_sub, io_lt, io_le, io_eq, io_clamp, io_inb, io_div, io_mod, io_m1, m1_io, m1_lt, m1_le, neg_1, gI_m1]
  refine Wp.cs (fun c => ?_) (fun c => ?_)
  · exact Wp.ret ⟨fun k hk => hall k (by omega), hF⟩
  · simp (disch := first | assumption | omega) only [lit_1, ↓reduceIte, ne_eq, not_false_eq_true, not_true_eq_false, eq_self, and_true, true_and, bnd_some, lt_eq, io_def, io_add, io_mul, io_sub, io_lt, io_le, io_eq, io_clamp, io_inb, io_div, io_mod, io_m1, m1_io, m1_lt, m1_le, neg_1, gI_m1, show i < n from by omega]
    refine rec (i + 1) _ ⟨by omega, fun k hk => ?_, hF.sI (by simp [ob])⟩ (by omega)
    rw [mI_sI]
    by_cases e : k = i
    · rw [if_pos ⟨rfl, e⟩]
    · rw [if_neg (fun q => e q.2)]
      exact hall k (by omega)
def isGv (g : Nat) : Prop := g = 41 ∨ g = 59
def isRu (r : Nat) : Prop := r = 4 ∨ r = 12 ∨ r = 26
def isSe (p : Nat) : Prop := p = 10 ∨ p = 18 ∨ p = 32 ∨ p = 71
def knN (g : Nat) : Nat := if g = 41 then 800 else 8000
theorem K0_r {r : Nat} (h : isRu r) : K0 r = (0, 8) := by rcases h with rfl | rfl | rfl <;> rfl
theorem K0_r1 {r : Nat} (h : isRu r) : K0 (r + 1) = (1, 8) := by rcases h with rfl | rfl | rfl <;> rfl
theorem K0_r2 {r : Nat} (h : isRu r) : K0 (r + 2) = (1, 8) := by rcases h with rfl | rfl | rfl <;> rfl
theorem K0_r3 {r : Nat} (h : isRu r) : K0 (r + 3) = (1, 8) := by rcases h with rfl | rfl | rfl <;> rfl
theorem K0_r4 {r : Nat} (h : isRu r) : K0 (r + 4) = (1, 9) := by rcases h with rfl | rfl | rfl <;> rfl
theorem K0_r5 {r : Nat} (h : isRu r) : K0 (r + 5) = (1, 700) := by rcases h with rfl | rfl | rfl <;> rfl
theorem K0_r6 {r : Nat} (h : isRu r) : K0 (r + 6) = (0, 9) := by rcases h with rfl | rfl | rfl <;> rfl
theorem ru_ne {r : Nat} (h : isRu r) : (r = 0) = False := by rcases h with rfl | rfl | rfl <;> simp
theorem K0_gv {g : Nat} (h : isGv g) : K0 g = (0, 5) := by rcases h with rfl | rfl <;> rfl
theorem K0_g1 {g : Nat} (h : isGv g) : K0 (g + 1) = (1, knN g) := by rcases h with rfl | rfl <;> rfl
theorem K0_g2 {g : Nat} (h : isGv g) : K0 (g + 2) = (1, 9) := by rcases h with rfl | rfl <;> rfl
theorem K0_g3 {g : Nat} (h : isGv g) : K0 (g + 3) = (1, 64) := by rcases h with rfl | rfl <;> rfl
theorem gv_ne {g : Nat} (h : isGv g) : (g = 0) = False := by rcases h with rfl | rfl <;> simp
theorem K0_se {p : Nat} (h : isSe p) : K0 p = (0, 9) := by rcases h with rfl | rfl | rfl | rfl <;> rfl
theorem se_ne {p : Nat} (h : isSe p) : (p = 0) = False := by rcases h with rfl | rfl | rfl | rfl <;> simp
theorem knN_le {g : Nat} : knN g ≤ 8000 := by unfold knN; split <;> omega
theorem at_r1 {r a : Nat} {M : Mem} (h : isRu r) (ha : a < 8) : zX11_at (r + 1) (io a) M = some (mI M (r + 1) a, M) := at_io (K0_r1 h) ha (by omega)
theorem at_r2 {r a : Nat} {M : Mem} (h : isRu r) (ha : a < 8) : zX11_at (r + 2) (io a) M = some (mI M (r + 2) a, M) := at_io (K0_r2 h) ha (by omega)
theorem at_r3 {r a : Nat} {M : Mem} (h : isRu r) (ha : a < 8) : zX11_at (r + 3) (io a) M = some (mI M (r + 3) a, M) := at_io (K0_r3 h) ha (by omega)
theorem at_r4 {r a : Nat} {M : Mem} (h : isRu r) (ha : a < 9) : zX11_at (r + 4) (io a) M = some (mI M (r + 4) a, M) := at_io (K0_r4 h) ha (by omega)
theorem at_r5 {r a : Nat} {M : Mem} (h : isRu r) (ha : a < 700) : zX11_at (r + 5) (io a) M = some (mI M (r + 5) a, M) := at_io (K0_r5 h) ha (by omega)
theorem at_g1 {g a : Nat} {M : Mem} (h : isGv g) (ha : a < knN g) : zX11_at (g + 1) (io a) M = some (mI M (g + 1) a, M) := at_io (K0_g1 h) ha (Nat.le_trans knN_le (by omega))
theorem at_g2 {g a : Nat} {M : Mem} (h : isGv g) (ha : a < 9) : zX11_at (g + 2) (io a) M = some (mI M (g + 2) a, M) := at_io (K0_g2 h) ha (by omega)
theorem at_g3 {g a : Nat} {M : Mem} (h : isGv g) (ha : a < 64) : zX11_at (g + 3) (io a) M = some (mI M (g + 3) a, M) := at_io (K0_g3 h) ha (by omega)
theorem put_g1 {g a : Nat} {x : Int32} {M : Mem} (h : isGv g) (ha : a < knN g) : zX11_put (g + 1) (io a) x M = some ((), sI M (g + 1) a x) := put_io (K0_g1 h) ha (Nat.le_trans knN_le (by omega))
theorem put_g2 {g a : Nat} {x : Int32} {M : Mem} (h : isGv g) (ha : a < 9) : zX11_put (g + 2) (io a) x M = some ((), sI M (g + 2) a x) := put_io (K0_g2 h) ha (by omega)
theorem put_g3 {g a : Nat} {x : Int32} {M : Mem} (h : isGv g) (ha : a < 64) : zX11_put (g + 3) (io a) x M = some ((), sI M (g + 3) a x) := put_io (K0_g3 h) ha (by omega)
def PR (M : Mem) (r : Nat) : Prop := mR M r 7 = r + 1 ∧ mR M r 8 = r + 2 ∧ mR M r 9 = r + 3 ∧ mR M r 10 = r + 4 ∧ mR M r 11 = r + 5 ∧ mR M r 12 = r + 6
theorem PR.p7 {M : Mem} {r : Nat} (h : PR M r) : mR M r 7 = r + 1 := h.1
theorem PR.p8 {M : Mem} {r : Nat} (h : PR M r) : mR M r 8 = r + 2 := h.2.1
theorem PR.p9 {M : Mem} {r : Nat} (h : PR M r) : mR M r 9 = r + 3 := h.2.2.1
theorem PR.p10 {M : Mem} {r : Nat} (h : PR M r) : mR M r 10 = r + 4 := h.2.2.2.1
theorem PR.p11 {M : Mem} {r : Nat} (h : PR M r) : mR M r 11 = r + 5 := h.2.2.2.2.1
theorem PR.p12 {M : Mem} {r : Nat} (h : PR M r) : mR M r 12 = r + 6 := h.2.2.2.2.2
def PG (M : Mem) (g : Nat) : Prop := mR M g 2 = g + 1 ∧ mR M g 3 = g + 2 ∧ mR M g 4 = g + 3
theorem PG.p2 {M : Mem} {g : Nat} (h : PG M g) : mR M g 2 = g + 1 := h.1
theorem PG.p3 {M : Mem} {g : Nat} (h : PG M g) : mR M g 3 = g + 2 := h.2.1
theorem PG.p4 {M : Mem} {g : Nat} (h : PG M g) : mR M g 4 = g + 3 := h.2.2
/-- the Rules object r holds the view v -/
def CG (M : Mem) (r : Nat) (v : GV) : Prop := mI M r 0 = io (gN v) ∧ mI M r 1 = io (allO v) ∧ mI M r 2 = io (gSi v) ∧ mI M r 3 = io (gCh v) ∧ mI M r 4 = io (gBo v) ∧ mI M r 6 = io (gL v)
  ∧ (∀ s, s < gN v → mI M (r + 1) s = io (gOd v s) ∧ mI M (r + 2) s = io (gWo v s) ∧ mI M (r + 3) s = io (gPu v s) ∧ mI M (r + 4) s = io (gB v s) ∧ mI M (r + 4) (s + 1) = io (gE v s))
  ∧ (∀ k, k < gL v → mI M (r + 5) k = io (gC v k))
  ∧ ∃ a, a < 512 ∧ mI M r 5 = io a ∧ ∀ k, k < gL v → 1000 ≤ gC v k → gC v k < 1009 → a.testBit (gC v k - 1000) = true
def CS (M : Mem) (p : Nat) (s : SV) : Prop := mI M p 0 = gI (sCa s) ∧ mI M p 1 = io (sKe s) ∧ mI M p 2 = io (sGl s) ∧ mI M p 3 = io (sLe s)
theorem c_joined {t : Nat} {x y : Int32} {M : Mem} (h : okTok t = true) (h2 : 2000 ≤ t) (h3 : t ≠ 2033) : zX5_joined (io t) x y M = some (opS t x y, M) := by
  unfold zX5_joined zX5_joined_B184
  simp only [okTok, Bool.or_eq_true, decide_eq_true_eq, beq_iff_eq] at h
  have h9 : t = 2043 ∨ t = 2045 ∨ t = 2042 ∨ t = 2047 ∨ t = 2060 ∨ t = 2061 ∨ t = 2038 ∨ t = 2124 := by omega
  rcases h9 with rfl | rfl | rfl | rfl | rfl | rfl | rfl | rfl <;> sorry
def stk (M : Mem) (o : Nat) : List Int32 → Prop
  | [] => True
  | x :: r => mI M o r.length = x ∧ stk M o r
theorem stk.put {M : Mem} {o k : Nat} {x : Int32} {st : List Int32} (h : stk M o st) (hk : st.length ≤ k) : stk (sI M o k x) o st := by
  induction st with
  | nil => trivial
  | cons y r ih =>
    simp only [List.length_cons] at hk
    refine ⟨?_, ih h.2 (by omega)⟩
    rw [mI_sI, if_neg (by omega)]
    exact h.1
theorem okTok_lt {t : Nat} (h : okTok t = true) : t < 2125 := by
  simp only [okTok, Bool.or_eq_true, decide_eq_true_eq, beq_iff_eq] at h
  omega
theorem okTok_val {t : Nat} (h : okTok t = true) (h1 : t < 2000) : t < 1009 := by
  simp only [okTok, Bool.or_eq_true, decide_eq_true_eq, beq_iff_eq] at h
  omega
/-- what worked needs of the memory -/
def PW (M : Mem) (g r : Nat) (v : GV) (vals : Nat → Int32) : Prop := PG M g ∧ mR M g 0 = r ∧ PR M r ∧ (∀ k, k < gL v → mI M (r + 5) k = io (gC v k)) ∧ (∀ w, w < 9 → mI M (g + 2) w = vals w)
theorem PW.keep {M M' : Mem} {g r : Nat} {v : GV} {vals : Nat → Int32} (hg : isGv g) (hr : isRu r) (h : PW M g r v vals) (hF : Fg [(g + 3, g + 3)] [] M M') : PW M' g r v vals := by
  obtain ⟨h1, h2, h3, h4, h5⟩ := h
  have hR : ∀ o k, mR M' o k = mR M o k := fun o k => hF.2.2 o rfl k
  refine ⟨?_, ?_, ?_, fun k hk => ?_, fun w hw => ?_⟩
  · simpa only [PG, hR] using h1
  · simpa only [hR] using h2
  · simpa only [PR, hR] using h3
  · rw [hF.I (by rcases hg with rfl | rfl <;> rcases hr with rfl | rfl | rfl <;> rfl)]
    exact h4 k hk
  · rw [hF.I (by rcases hg with rfl | rfl <;> rfl)]
    exact h5 w hw
theorem c_worked_L {g r : Nat} {v : GV} {vals : Nat → Int32} (hg : isGv g) (hr : isRu r) (hL : gL v ≤ 700) : ∀ (m k : Nat) (st : List Int32) (M : Mem) (fu : Nat), m < fu → hgt (gC v) k m st.length = true → k + m ≤ gL v → st.length ≤ 60 → stk M (g + 3) st → PW M g r v vals →
    Wp (zX5_worked_L5 fu g (io (k + m)) (io st.length) (io k) M) (fun x M' => x = (evalS vals (gC v) k m st).headD 0 ∧ Fg [(g + 3, g + 3)] [] M M') := by
  intro m
  induction m with
  | zero =>
    intro k st M fu hfu hh hk hst hs hW
    obtain ⟨f, rfl⟩ : ∃ f, fu = f + 1 := ⟨fu - 1, by omega⟩
    obtain ⟨h1, h2, h3, h4, h5⟩ := hW
    show Wp (zX5_worked_B5 _ _ _ _ _ _) _
    unfold zX5_worked_B5
    simp only [hgt, beq_iff_eq] at hh
    simp (disch := first | assumption | omega) only [lit_0, ↓reduceIte, ne_eq, not_false_eq_true, not_true_eq_false, eq_self, and_true, true_and, bnd_some, lt_eq, io_def, io_add, io_mul, io_sub, io_lt, io_le, io_eq, io_clamp, io_inb, io_div, io_mod, io_m1, m1_io, m1_lt, m1_le, neg_1, gI_m1, K0_gv, gv_ne, PG.p2, PG.p3, PG.p4, at_g2, at_g3, put_g2, put_g3, succ_ne, Nat.add_zero, Nat.le_refl]
    refine Wp.ret ⟨?_, Fg.refl⟩
    match st, hh, hs with
    | [x], _, hs => exact hs.1
  | succ m ih =>
    intro k st M fu hfu hh hk hst hs hW
    obtain ⟨f, rfl⟩ : ∃ f, fu = f + 1 := ⟨fu - 1, by omega⟩
    have hW' := hW
    obtain ⟨h1, h2, h3, h4, h5⟩ := hW
    show Wp (zX5_worked_B5 _ _ _ _ _ _) _
    unfold zX5_worked_B5
    have hc := h4 k (by omega)
    simp only [hgt, Bool.and_eq_true] at hh
    obtain ⟨hok, hh⟩ := hh
    have hlt := okTok_lt hok
    have hnk : ¬ (k + (m + 1) ≤ k) := by omega
    have hstl : st.length ≤ 60 := hst
    simp (disch := first | assumption | omega) only [lit_0, lit_2000, lit_2033, lit_1000, ↓reduceIte, ne_eq, not_false_eq_true, not_true_eq_false, eq_self, and_true, true_and, bnd_some, lt_eq, io_def, io_add, io_mul, io_sub, io_lt, io_le, io_eq, io_clamp, io_inb, io_div, io_mod, io_m1, m1_io, m1_lt, m1_le, neg_1, gI_m1, K0_gv, gv_ne, PG.p2, PG.p3, PG.p4, at_g2, at_g3, put_g2, put_g3, succ_ne, K0_r, K0_r1, K0_r2, K0_r3, K0_r4, K0_r5, K0_r6, ru_ne, PR.p7, PR.p8, PR.p9, PR.p10, PR.p11, PR.p12, at_r1, at_r2, at_r3, at_r4, at_r5, succ_ne, h2, hc, hnk]
    refine Wp.cs (fun c1 => ?_) (fun c1 => ?_)
    · refine Wp.cs (fun c2 => ?_) (fun c2 => ?_)
      · rw [if_neg (by omega), if_pos c2, Bool.and_eq_true, decide_eq_true_eq] at hh
        match st, hh, hs, hst with
        | x :: q, hh, hs, hst =>
          simp only [List.length_cons] at hst hh
          have e1 : io (q.length + 1) - 1 = io q.length := by rw [lit_1, io_sub (by omega)]; rfl
          sorry
        | [], hh, _, _ => simp at hh
      · sorry
    · sorry
