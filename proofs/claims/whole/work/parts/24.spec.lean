/-! ===== LEVEL 2: the specification ===== -/
/-- what a TEXT told: sorts, sight, chance, bound; odds, worth, purse; begin, end; code (the class's tokens), its length; what is asked (bits) -/
abbrev GV : Type := Nat × Nat × Nat × Nat × (Nat → Nat) × (Nat → Nat) × (Nat → Nat) × (Nat → Nat) × (Nat → Nat) × (Nat → Nat) × Nat
def gN (v : GV) : Nat := v.1
def gSi (v : GV) : Nat := v.2.1
def gCh (v : GV) : Nat := v.2.2.1
def gBo (v : GV) : Nat := v.2.2.2.1
def gOd (v : GV) : Nat → Nat := v.2.2.2.2.1
def gWo (v : GV) : Nat → Nat := v.2.2.2.2.2.1
def gPu (v : GV) : Nat → Nat := v.2.2.2.2.2.2.1
def gB (v : GV) : Nat → Nat := v.2.2.2.2.2.2.2.1
def gE (v : GV) : Nat → Nat := v.2.2.2.2.2.2.2.2.1
def gC (v : GV) : Nat → Nat := v.2.2.2.2.2.2.2.2.2.1
def gL (v : GV) : Nat := v.2.2.2.2.2.2.2.2.2.2
/-- a setting: the card and 1 (0 none), keeper, glass, least -/
abbrev SV : Type := Nat × Nat × Nat × Nat
def sCa (s : SV) : Nat := s.1
def sKe (s : SV) : Nat := s.2.1
def sGl (s : SV) : Nat := s.2.2.1
def sLe (s : SV) : Nat := s.2.2.2
/-- a number and 1, as an int: 0 stands for -1 -/
def m1 : Int32 := -1
def gI (x : Nat) : Int32 := if x = 0 then m1 else io (x - 1)
theorem gI_zero : gI 0 = m1 := rfl
theorem gI_succ (x : Nat) : gI (x + 1) = io x := rfl
def sumN : Nat → (Nat → Nat) → Nat
  | 0, _ => 0
  | n + 1, f => sumN n f + f n
theorem sumN_congr {n : Nat} {f g : Nat → Nat} (h : ∀ i, i < n → f i = g i) : sumN n f = sumN n g := by
  induction n with
  | zero => rfl
  | succ n ih => simp only [sumN]; rw [ih (fun i hi => h i (by omega)), h n (by omega)]
theorem sumN_zero {n : Nat} {f : Nat → Nat} (h : ∀ i, i < n → f i = 0) : sumN n f = 0 := by
  induction n with
  | zero => rfl
  | succ n ih => simp only [sumN]; rw [ih (fun i hi => h i (by omega)), h n (by omega)]
theorem sumN_add (n : Nat) (f g : Nat → Nat) : sumN n (fun i => f i + g i) = sumN n f + sumN n g := by
  induction n with
  | zero => rfl
  | succ n ih => simp only [sumN]; omega
theorem sumN_swap (n m : Nat) (f : Nat → Nat → Nat) : sumN n (fun i => sumN m (f i)) = sumN m (fun j => sumN n (fun i => f i j)) := by
  induction n with
  | zero => simp only [sumN]; exact (sumN_zero (fun _ _ => rfl)).symm
  | succ n ih => simp only [sumN]; rw [ih, ← sumN_add]
theorem sumN_le {n : Nat} {f g : Nat → Nat} (h : ∀ i, i < n → f i ≤ g i) : sumN n f ≤ sumN n g := by
  induction n with
  | zero => exact Nat.le_refl _
  | succ n ih => simp only [sumN]; exact Nat.add_le_add (ih (fun i hi => h i (by omega))) (h n (by omega))
theorem sumN_mul (n c : Nat) (f : Nat → Nat) : sumN n (fun i => f i * c) = sumN n f * c := by
  induction n with
  | zero => simp [sumN]
  | succ n ih => simp only [sumN]; rw [ih, Nat.add_mul]
theorem sumN_one {n j : Nat} {f : Nat → Nat} (hj : j < n) (h : ∀ i, i < n → i ≠ j → f i = 0) : sumN n f = f j := by
  induction n with
  | zero => omega
  | succ n ih =>
    simp only [sumN]
    by_cases e : j = n
    · subst e; rw [sumN_zero (fun i hi => h i (by omega) (by omega)), Nat.zero_add]
    · rw [ih (by omega) (fun i hi hne => h i (by omega) hne), h n (by omega) (by omega), Nat.add_zero]
theorem sumN_mem {n j : Nat} {f : Nat → Nat} (hj : j < n) : f j ≤ sumN n f := by
  induction n with
  | zero => omega
  | succ n ih =>
    simp only [sumN]
    by_cases e : j = n
    · subst e; omega
    · have := ih (by omega); omega
def allO (v : GV) : Nat := sumN (gN v) (gOd v)
def stN (si : Nat) : Nat := if si = 0 then 1 else if si = 1 then 10 else 100
def behS (si st g : Nat) : Nat := if si = 0 then 0 else if si = 1 then g else g + 10 * (st % 10)
/-- what a value of an EXPR is -/
def valS (v : GV) (sv : SV) (s st money w : Nat) : Int32 :=
  if w = 0 then io (gWo v s) else if w = 1 then io money
  else if w = 2 then io (if sGl sv = 1 then st % 10 else 0)
  else if w = 3 then io (if sGl sv = 1 then (if gSi v = 2 then (st / 10 + st % 10) / 2 else st) else 0)
  else if w = 4 then io (sCa sv - 1) else if w = 5 then io (if sCa sv = 0 then 0 else 1)
  else if w = 6 then io (sKe sv) else if w = 7 then io (sGl sv) else io (sLe sv)
def opS (t : Nat) (x y : Int32) : Int32 :=
  if t = 2043 then x + y else if t = 2045 then x - y else if t = 2042 then x * y
  else if t = 2047 then (if y = 0 then 0 else x / y) else if t = 2060 then (if x < y then 1 else 0)
  else if t = 2061 then (if x = y then 1 else 0) else if t = 2038 then (if x = 0 then 0 else if y = 0 then 0 else 1)
  else (if x = 0 then (if y = 0 then 0 else 1) else 1)
def stepS (vals : Nat → Int32) (t : Nat) (st : List Int32) : List Int32 :=
  if t < 1000 then io t :: st else if t < 2000 then vals (t - 1000) :: st
  else if t = 2033 then (match st with | x :: r => (if x = 0 then 1 else 0) :: r | [] => [])
  else (match st with | y :: x :: r => opS t x y :: r | _ => [])
def evalS (vals : Nat → Int32) (c : Nat → Nat) : Nat → Nat → List Int32 → List Int32
  | _, 0, st => st
  | k, m + 1, st => evalS vals c (k + 1) m (stepS vals (c k) st)
def okTok (t : Nat) : Bool := t < 1009 || t == 2033 || t == 2043 || t == 2045 || t == 2042 || t == 2047 || t == 2060 || t == 2061 || t == 2038 || t == 2124
/-- from the height h the code from k on goes m steps, to the height 1, never above 60 -/
def hgt (c : Nat → Nat) : Nat → Nat → Nat → Bool
  | _, 0, h => h == 1
  | k, m + 1, h => okTok (c k) && (if c k < 2000 then decide (h < 60) && hgt c (k + 1) m (h + 1) else if c k = 2033 then decide (1 ≤ h) && hgt c (k + 1) m h else decide (2 ≤ h) && hgt c (k + 1) m (h - 1))
def wishS (v : GV) (sv : SV) (s st money : Nat) : Int32 := (evalS (valS v sv s st money) (gC v) (gB v s) (gE v s - gB v s) []).headD (io 0)
/-- what a SORT GIVES (and 1; 0: it is KEPT AWAY) of whose PURSE something is spent -/
def giftS (v : GV) (sv : SV) (s st spent : Nat) : Nat :=
  let money := gPu v s - spent
  let g := min money (wishS v sv s st money).toNatClampNeg
  if sLe sv ≤ g then g + 1 else if sLe sv ≤ gWo v s ∧ sLe sv ≤ money then sLe sv + 1 else 0
/-- a GATE's view is well made -/
def okG (v : GV) : Prop := gN v ≤ 8 ∧ gSi v ≤ 2 ∧ gCh v ≤ 100 ∧ 1 ≤ gBo v ∧ gBo v ≤ 999 ∧ gL v ≤ 700 ∧ ∀ s, s < gN v → 1 ≤ gOd v s ∧ gOd v s ≤ 99 ∧ gWo v s ≤ 99 ∧ gPu v s ≤ 9 ∧ gB v s ≤ gE v s ∧ gE v s ≤ gL v ∧ hgt (gC v) (gB v s) (gE v s - gB v s) 0 = true
def okS (s : SV) : Prop := sCa s ≤ 10 ∧ sKe s ≤ 1 ∧ sGl s ≤ 1 ∧ sLe s ≤ 9
/-- the part of a SORT -/
def ptS (n : Nat) (od : Nat → Nat) (all a s : Nat) : Nat := if s + 1 = n then a - sumN s (fun i => od i * a / all) else od s * a / all
/-- the STATE behind (0: KEPT AWAY) -/
def goS (si st x : Nat) : Nat := if x = 0 then st else behS si st (x - 1)
def stepC (n : Nat) (od : Nat → Nat) (all si : Nat) (gf : Nat → Nat → Nat) (cs : Nat → Nat) : Nat → Nat := fun u =>
  sumN 100 (fun t => sumN n (fun s => if goS si t (gf s t) = u then ptS n od all (cs t) s else 0))
def stepG (n : Nat) (od : Nat → Nat) (all : Nat) (gf : Nat → Nat → Nat) (cs : Nat → Nat) : Nat :=
  sumN 100 (fun t => sumN n (fun s => ptS n od all (cs t) s * (gf s t - 1)))
def stepA (n : Nat) (od : Nat → Nat) (all : Nat) (gf : Nat → Nat → Nat) (cs : Nat → Nat) : Nat :=
  sumN 100 (fun t => sumN n (fun s => if gf s t = 0 then ptS n od all (cs t) s else 0))
def casesS (n : Nat) (od : Nat → Nat) (all si : Nat) (gf : Nat → Nat → Nat) (seed : Nat) : Nat → Nat → Nat
  | 0 => fun t => if t = seed then 1000000000 else 0
  | k + 1 => stepC n od all si gf (casesS n od all si gf seed k)
def givenS (n : Nat) (od : Nat → Nat) (all si : Nat) (gf : Nat → Nat → Nat) (seed k : Nat) : Nat := sumN k (fun j => stepG n od all gf (casesS n od all si gf seed j))
def awayS (n : Nat) (od : Nat → Nat) (all si : Nat) (gf : Nat → Nat → Nat) (seed k : Nat) : Nat := sumN k (fun j => stepA n od all gf (casesS n od all si gf seed j))
