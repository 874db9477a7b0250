/-! ===== the abstract memory: ids from 1 on, in the order in which the objects are made; ids from 1000 on are String constants ===== -/
abbrev Mem : Type := (Nat → Nat → Int32) × (Nat → Nat → Int64) × (Nat → Nat → Nat)
def mI (M : Mem) (o k : Nat) : Int32 := M.1 o k
def mL (M : Mem) (o k : Nat) : Int64 := M.2.1 o k
def mR (M : Mem) (o k : Nat) : Nat := M.2.2 o k
def up2 {α : Type} (f : Nat → Nat → α) (o k : Nat) (v : α) : Nat → Nat → α := fun a b => if a = o ∧ b = k then v else f a b
def sI (M : Mem) (o k : Nat) (v : Int32) : Mem := (up2 M.1 o k v, M.2.1, M.2.2)
def sL (M : Mem) (o k : Nat) (v : Int64) : Mem := (M.1, up2 M.2.1 o k v, M.2.2)
def sR (M : Mem) (o k : Nat) (v : Nat) : Mem := (M.1, M.2.1, up2 M.2.2 o k v)
/-- kinds: (0, c) an object of class c, (1, n) n ints, (2, n) longs, (3, n) booleans, (4, n) Strings -/
def KL : List (Nat × Nat) := [(9, 9), (0, 11), (0, 6), (1, 700), (0, 8), (1, 8), (1, 8), (1, 8), (1, 9), (1, 700), (0, 9), (0, 4), (0, 8), (1, 8), (1, 8), (1, 8), (1, 9), (1, 700), (0, 9), (0, 0), (1, 200), (1, 32), (0, 0), (1, 200), (1, 32), (0, 4), (0, 8), (1, 8), (1, 8), (1, 8), (1, 9), (1, 700), (0, 9), (0, 0), (1, 200), (1, 32), (0, 0), (1, 200), (1, 32), (1, 3), (1, 3), (0, 5), (1, 800), (1, 9), (1, 64), (0, 10), (0, 1), (1, 100), (1, 100), (0, 1), (1, 100), (1, 100), (0, 3), (0, 1), (1, 10000), (1, 10000), (0, 1), (1, 10000), (1, 10000), (0, 5), (1, 8000), (1, 9), (1, 64), (0, 7), (2, 100), (2, 100), (0, 2), (1, 200), (1, 200), (1, 4), (1, 4), (0, 9), (0, 12), (4, 7), (4, 9), (1, 3), (1, 21), (1, 24), (1, 24), (1, 24), (1, 24), (1, 24), (1, 2100), (1, 2), (1, 2), (1, 2), (1, 400), (1, 2), (1, 2), (1, 64), (1, 3), (1, 700), (1, 60), (2, 100), (2, 100), (1, 800), (3, 10000), (1, 7), (2, 10000), (2, 10000), (1, 8000), (1, 200), (2, 4), (1, 2), (1, 2), (1, 2), (1, 400), (1, 2), (1, 2), (1, 64), (1, 3), (2, 1)]
def K0 (o : Nat) : Nat × Nat := KL.getD o (9, 9)
def clsL : List vw_C := [(RX0, TX0, 7), (RX1, TX1, 3), (RX2, TX2, 6), (RX3, TX3, 7), (RX4, TX4, 4), (RX5, TX5, 5), (RX6, TX6, 12), (RX7, TX7, 5), (RX8, TX8, 13), (RX9, TX9, 4), (RX10, TX10, 5), (RX11, TX11, 15), (RX12, TX12, 58)]
/-- fields' types: 0 int, 1 long, 2 a reference, 3 boolean -/
def FTL : List (List Nat) := [[0, 0, 0, 0, 0, 2, 2], [2, 2, 0], [2, 2, 2, 0, 2, 2], [2, 2, 2, 2, 1, 1, 1], [2, 2, 2, 0], [2, 2, 2, 2, 2], [2, 0, 0, 2, 0, 0, 0, 0, 0, 0, 0, 0], [2, 2, 2, 0, 0], [0, 0, 0, 0, 0, 0, 0, 2, 2, 2, 2, 2, 2], [0, 0, 0, 0], [2, 2, 2, 1, 1], [2, 2, 2, 2, 2, 3, 0, 2, 2, 2, 2, 2, 2, 0, 0], [2, 2, 0, 2, 2, 2, 2, 2, 2, 2, 2, 2, 2, 2, 2, 2, 2, 2, 2, 2, 0, 0, 0, 0, 0, 0, 0, 0, 0, 0, 0, 2, 2, 2, 2, 1, 1, 1, 2, 2, 2, 2, 2, 1, 1, 1, 2, 2, 0, 3, 2, 2, 2, 2, 2, 2, 2, 2]]
def FT (c : Nat) : List Nat := FTL.getD c []
abbrev Ev : Type := (Nat → Nat) × (Nat → Nat) × (Nat → ClassId) × (Nat → Nat → Nat) × (Nat → ClassId) × Heap
def eS (E : Ev) : Nat → Nat := E.1
def eV (E : Ev) : Nat → Nat := E.2.1
def eC (E : Ev) : Nat → ClassId := E.2.2.1
def eI (E : Ev) : Nat → Nat → Nat := E.2.2.2.1
def eA (E : Ev) : Nat → ClassId := E.2.2.2.2.1
def eH (E : Ev) : Heap := E.2.2.2.2.2
def ad (E : Ev) (o : Nat) : Nat := if o < 1000 then (eH E).size + (o - 1) else eS E (o - 1000)
def rfv (E : Ev) (r : Nat) : Option Nat := if r = 0 then none else some (ad E r)
def fval (E : Ev) (M : Mem) (o t k : Nat) : Value := if t = 1 then .long (mL M o k) else if t = 2 then va_rf (rfv E (mR M o k)) else .int (mI M o k)
def flds (E : Ev) (M : Mem) (o c : Nat) : List Value := (List.range (FT c).length).map (fun k => fval E M o ((FT c).getD k 0) k)
def entA (E : Ev) (M : Mem) (o : Nat) (t : Nat) : (Nat → Int32) ⊕ (Nat → Int64) ⊕ (Nat → UInt32) ⊕ (Nat → UInt64) ⊕ (Nat → Option Nat) :=
  if t = 2 then .inr (.inl (mL M o)) else if t = 4 then .inr (.inr (.inr (.inr (fun j => rfv E (mR M o j))))) else .inl (mI M o)
def entK (E : Ev) (M : Mem) (o : Nat) (q : Nat × Nat) : va_E := if q.1 = 0 then .inr (q.2, flds E M o q.2) else .inl (eA E q.1, q.2, entA E M o q.1)
def ent (E : Ev) (M : Mem) (o : Nat) : va_E := entK E M o (K0 o)
def wsO (E : Ev) (ct : Nat) (M : Mem) : va_W := (List.range ct).map (fun j => ((eH E).size + j, ent E M (j + 1)))
def AE (E : Ev) : Nat → Prop := fun q => (eH E).size ≤ q
def TB : List Cond := lw_tbl.filter goodWord
def tysL (E : Ev) : List (ClassId × FieldType) := [(eA E 1, .int), (eA E 2, .long), (eA E 3, .boolean), (eA E 4, .object "java/lang/String")]
theorem tb_in (i : Nat) {w : Cond} (h : lw_tbl[i]? = some w) (hg : goodWord w = true) : w ∈ TB := List.mem_filter.mpr ⟨List.mem_of_getElem? h, hg⟩
theorem tb_r (ws : List Cond) (ps : List Nat) (hp : ws = ps.filterMap (fun i => lw_tbl[i]?)) (h : ws.all goodWord = true) : ∀ w ∈ ws, w ∈ TB := by
  intro w hw
  have h1 := List.all_eq_true.mp h w hw
  rw [hp] at hw
  obtain ⟨i, -, hi⟩ := List.mem_filterMap.mp hw
  exact tb_in i hi h1
theorem tb_good : ∀ w ∈ TB, goodWord w = true := fun w h => (List.mem_filter.mp h).2
theorem tb_GoodIn {ws : List Cond} (h : ∀ w ∈ ws, w ∈ TB) : GoodIn TB ws := fun w hw => ⟨h w hw, good_of_word (tb_good w (h w hw))⟩
theorem K0_le {o : Nat} {q : Nat × Nat} (h : K0 o = q) (hq : q.1 ≠ 9) : o ≤ 111 ∧ 1 ≤ o := by
  have hlt : o < KL.length := by
    rcases Nat.lt_or_ge o KL.length with hl | hl
    · exact hl
    · exfalso
      apply hq
      rw [← h]
      simp only [K0, List.getD_eq_getElem?_getD, List.getElem?_eq_none hl]
      rfl
  refine ⟨Nat.lt_succ_iff.mp hlt, ?_⟩
  rcases Nat.eq_zero_or_pos o with h0 | h0
  · subst h0
    exact absurd (show q.1 = 9 by rw [← h]; rfl) hq
  · exact h0
theorem wsO_get {E : Ev} {ct : Nat} {M : Mem} {o : Nat} (h1 : 1 ≤ o) (h2 : o ≤ ct) : (wsO E ct M)[o - 1]? = some ((eH E).size + (o - 1), ent E M o) := by
  obtain ⟨j, rfl⟩ : ∃ j, o = j + 1 := ⟨o - 1, by omega⟩
  simp only [wsO, List.getElem?_map, Nat.add_sub_cancel]
  rw [List.getElem?_range (by omega)]
  rfl
theorem wsO_len {E : Ev} {ct : Nat} {M : Mem} : (wsO E ct M).length = ct := by simp [wsO]
theorem wsO_set {E : Ev} {ct : Nat} {M M' : Mem} {o : Nat} (h1 : 1 ≤ o) (h2 : o ≤ ct) {e : va_E} (he : e = ent E M' o) (hk : ∀ j, j ≠ o → ent E M' j = ent E M j) : (wsO E ct M).set (o - 1) ((eH E).size + (o - 1), e) = wsO E ct M' := by
  subst he
  apply List.ext_getElem?
  intro j
  by_cases hj : j = o - 1
  · subst hj
    rw [List.getElem?_set_self (by rw [wsO_len]; omega), wsO_get h1 h2]
  · rw [List.getElem?_set_ne (Ne.symm hj)]
    simp only [wsO, List.getElem?_map]
    by_cases hl : j < ct
    · rw [List.getElem?_range hl]
      simp only [Option.map_some]
      rw [hk (j + 1) (by omega)]
    · rw [List.getElem?_eq_none (by simpa using hl)]
      rfl
theorem ad_lt {E : Ev} {o : Nat} (h : o < 1000) : ad E o = (eH E).size + (o - 1) := by simp only [ad, if_pos h]
theorem wsO_D {E : Ev} {ct : Nat} {M : Mem} : va_D (AE E) (wsO E ct M) := by
  have key : ∀ (k : Nat) (q : Nat × va_E), (wsO E ct M)[k]? = some q → q.1 = (eH E).size + k := by
    intro k q hk
    simp only [wsO, List.getElem?_map] at hk
    by_cases hl : k < ct
    · rw [List.getElem?_range hl] at hk
      cases hk
      rfl
    · rw [List.getElem?_eq_none (by simpa using hl)] at hk
      cases hk
  refine ⟨fun i j p q hi hj h => ?_, fun k q hk => ?_⟩
  · rw [key i p hi, key j q hj] at h
    omega
  · rw [key k q hk]
    exact Nat.le_add_right _ _
/-! what the updates leave -/
theorem ent_sI {E : Ev} {M : Mem} {o k : Nat} {v : Int32} {j : Nat} (h : j ≠ o) : ent E (sI M o k v) j = ent E M j := by
  have e : mI (sI M o k v) j = mI M j := by
    funext a
    simp only [mI, sI, up2]
    rw [if_neg (fun q => h q.1)]
  have e2 : ∀ a, mI (sI M o k v) j a = mI M j a := fun a => congrFun e a
  simp only [ent, entK, entA, flds, fval, e]
  rfl
theorem ent_sL {E : Ev} {M : Mem} {o k : Nat} {v : Int64} {j : Nat} (h : j ≠ o) : ent E (sL M o k v) j = ent E M j := by
  have e : mL (sL M o k v) j = mL M j := by
    funext a
    simp only [mL, sL, up2]
    rw [if_neg (fun q => h q.1)]
  simp only [ent, entK, entA, flds, fval, e]
  rfl
theorem ent_sR {E : Ev} {M : Mem} {o k : Nat} {v : Nat} {j : Nat} (h : j ≠ o) : ent E (sR M o k v) j = ent E M j := by
  have e : mR (sR M o k v) j = mR M j := by
    funext a
    simp only [mR, sR, up2]
    rw [if_neg (fun q => h q.1)]
  simp only [ent, entK, entA, flds, fval, e]
  rfl
theorem flds_get {E : Ev} {M : Mem} {o c k t : Nat} (h : (FT c)[k]? = some t) : (flds E M o c)[k]? = some (fval E M o t k) := by
  have hl : k < (FT c).length := (List.getElem?_eq_some_iff.mp h).1
  simp only [flds, List.getElem?_map]
  rw [List.getElem?_range hl]
  simp only [Option.map_some, List.getD_eq_getElem?_getD, h, Option.getD_some]
theorem flds_len {E : Ev} {M : Mem} {o c : Nat} : (flds E M o c).length = (FT c).length := by simp [flds]
theorem flds_ext {E : Ev} {M M' : Mem} {o c k : Nat} {v : Value} (hk : k < (FT c).length) (hv : fval E M' o ((FT c).getD k 0) k = v) (ho : ∀ j, j < (FT c).length → j ≠ k → fval E M' o ((FT c).getD j 0) j = fval E M o ((FT c).getD j 0) j) : (flds E M o c).set k v = flds E M' o c := by
  apply List.ext_getElem?
  intro j
  by_cases hj : j = k
  · subst hj
    rw [List.getElem?_set_self (by rw [flds_len]; exact hk)]
    simp only [flds, List.getElem?_map]
    rw [List.getElem?_range hk]
    simp only [Option.map_some]
    rw [hv]
  · rw [List.getElem?_set_ne (Ne.symm hj)]
    simp only [flds, List.getElem?_map]
    by_cases hl : j < (FT c).length
    · rw [List.getElem?_range hl]
      simp only [Option.map_some]
      rw [ho j hl hj]
    · rw [List.getElem?_eq_none (by simpa using hl)]
      rfl
theorem up2_s {α : Type} {f : Nat → Nat → α} {o k : Nat} {v : α} : up2 f o k v o k = v := by simp [up2]
theorem up2_k {α : Type} {f : Nat → Nat → α} {o k j : Nat} {v : α} (h : j ≠ k) : up2 f o k v o j = f o j := by simp [up2, h]
theorem up2_o {α : Type} {f : Nat → Nat → α} {o k p j : Nat} {v : α} (h : p ≠ o) : up2 f o k v p j = f p j := by simp [up2, h]
theorem flds_sI {E : Ev} {M : Mem} {o c k t : Nat} {v : Int32} (h : (FT c)[k]? = some t) (ht : t = 0 ∨ t = 3) : (flds E M o c).set k (.int v) = flds E (sI M o k v) o c := by
  have hl : k < (FT c).length := (List.getElem?_eq_some_iff.mp h).1
  have hg : (FT c).getD k 0 = t := by simp [List.getD_eq_getElem?_getD, h]
  refine flds_ext hl ?_ (fun j hj hjk => ?_)
  · rw [hg]
    rcases ht with rfl | rfl <;> simp [fval, mI, sI, up2_s]
  · simp only [fval, mI, mL, mR, sI, up2_k hjk]
theorem flds_sL {E : Ev} {M : Mem} {o c k : Nat} {v : Int64} (h : (FT c)[k]? = some 1) : (flds E M o c).set k (.long v) = flds E (sL M o k v) o c := by
  have hl : k < (FT c).length := (List.getElem?_eq_some_iff.mp h).1
  have hg : (FT c).getD k 0 = 1 := by simp [List.getD_eq_getElem?_getD, h]
  refine flds_ext hl ?_ (fun j hj hjk => ?_)
  · rw [hg]; simp [fval, mL, sL, up2_s]
  · simp only [fval, mI, mL, mR, sL, up2_k hjk]
theorem flds_sR {E : Ev} {M : Mem} {o c k v : Nat} (h : (FT c)[k]? = some 2) (hv : v ≠ 0) : (flds E M o c).set k (.ref (ad E v)) = flds E (sR M o k v) o c := by
  have hl : k < (FT c).length := (List.getElem?_eq_some_iff.mp h).1
  have hg : (FT c).getD k 0 = 2 := by simp [List.getD_eq_getElem?_getD, h]
  refine flds_ext hl ?_ (fun j hj hjk => ?_)
  · rw [hg]; simp [fval, mR, sR, up2_s, rfv, hv, va_rf]
  · simp only [fval, mI, mL, mR, sR, up2_k hjk]
theorem ent_obj {E : Ev} {M : Mem} {o c : Nat} (h : K0 o = (0, c)) : ent E M o = .inr (c, flds E M o c) := by simp only [ent, entK, h]; rfl
theorem ent_int {E : Ev} {M : Mem} {o n : Nat} (h : K0 o = (1, n)) : ent E M o = .inl (eA E 1, n, .inl (mI M o)) := by simp only [ent, entK, h, entA]; rfl
theorem ent_long {E : Ev} {M : Mem} {o n : Nat} (h : K0 o = (2, n)) : ent E M o = .inl (eA E 2, n, .inr (.inl (mL M o))) := by simp only [ent, entK, h, entA]; rfl
theorem ent_bool {E : Ev} {M : Mem} {o n : Nat} (h : K0 o = (3, n)) : ent E M o = .inl (eA E 3, n, .inl (mI M o)) := by simp only [ent, entK, h, entA]; rfl
theorem ent_str {E : Ev} {M : Mem} {o n : Nat} (h : K0 o = (4, n)) : ent E M o = .inl (eA E 4, n, .inr (.inr (.inr (.inr (fun j => rfv E (mR M o j)))))) := by simp only [ent, entK, h, entA]; rfl
theorem mI_upd {M : Mem} {o j : Nat} {x : Int32} : upd (mI M o) j x = mI (sI M o j x) o := by
  funext k
  by_cases h : k = j
  · subst h; simp [upd, mI, sI, up2_s]
  · simp [upd, mI, sI, up2_k h, h]
theorem mL_upd {M : Mem} {o j : Nat} {x : Int64} : vp_updL (mL M o) j x = mL (sL M o j x) o := by
  funext k
  by_cases h : k = j
  · subst h; simp [vp_updL, mL, sL, up2_s]
  · simp [vp_updL, mL, sL, up2_k h, h]
/-! the classes -/
def cls_ok (c : Nat) (q : vw_C) : Prop := (∀ w ∈ u_ws q.1 q.2.1 q.2.2, w ∈ TB) ∧ (∃ ty : Nat → FieldType, ∀ k, k < q.2.2 → parseFieldDescriptor (q.2.1 k).2.2.1 = some (ty k)) ∧ (∀ a, a < q.2.2 → ∀ b, b < q.2.2 → a ≠ b → (q.2.1 a).2.1 ≠ (q.2.1 b).2.1) ∧ (FT c).length = q.2.2 ∧ ∀ k, k < q.2.2 → (parseFieldDescriptor (q.2.1 k).2.2.1 = some .int ∧ (FT c).getD k 0 = 0) ∨ (parseFieldDescriptor (q.2.1 k).2.2.1 = some .long ∧ (FT c).getD k 0 = 1) ∨ (parseFieldDescriptor (q.2.1 k).2.2.1 = some .boolean ∧ (FT c).getD k 0 = 3) ∨ ((parseFieldDescriptor (q.2.1 k).2.2.1).any FieldType.isReference = true ∧ (FT c).getD k 0 = 2)
set_option maxRecDepth 100000 in
set_option maxHeartbeats 4000000 in
theorem cok_0 : cls_ok 0 (RX0, TX0, 7) := ⟨tb_r _ [323, 325, 327, 329, 331, 333, 335] (by decide +kernel) (by decide +kernel), ⟨tyX0, tyX0_ok⟩, nmX0, rfl, by decide +kernel⟩
set_option maxRecDepth 100000 in
set_option maxHeartbeats 4000000 in
theorem cok_1 : cls_ok 1 (RX1, TX1, 3) := ⟨tb_r _ [398, 400, 402] (by decide +kernel) (by decide +kernel), ⟨tyX1, tyX1_ok⟩, nmX1, rfl, by decide +kernel⟩
set_option maxRecDepth 100000 in
set_option maxHeartbeats 4000000 in
theorem cok_2 : cls_ok 2 (RX2, TX2, 6) := ⟨tb_r _ [495, 497, 499, 501, 503, 505] (by decide +kernel) (by decide +kernel), ⟨tyX2, tyX2_ok⟩, nmX2, rfl, by decide +kernel⟩
set_option maxRecDepth 100000 in
set_option maxHeartbeats 4000000 in
theorem cok_3 : cls_ok 3 (RX3, TX3, 7) := ⟨tb_r _ [443, 445, 447, 449, 451, 453, 455] (by decide +kernel) (by decide +kernel), ⟨tyX3, tyX3_ok⟩, nmX3, rfl, by decide +kernel⟩
set_option maxRecDepth 100000 in
set_option maxHeartbeats 4000000 in
theorem cok_4 : cls_ok 4 (RX4, TX4, 4) := ⟨tb_r _ [346, 348, 350, 352] (by decide +kernel) (by decide +kernel), ⟨tyX4, tyX4_ok⟩, nmX4, rfl, by decide +kernel⟩
set_option maxRecDepth 100000 in
set_option maxHeartbeats 4000000 in
theorem cok_5 : cls_ok 5 (RX5, TX5, 5) := ⟨tb_r _ [370, 372, 374, 376, 378] (by decide +kernel) (by decide +kernel), ⟨tyX5, tyX5_ok⟩, nmX5, rfl, by decide +kernel⟩
set_option maxRecDepth 100000 in
set_option maxHeartbeats 4000000 in
theorem cok_6 : cls_ok 6 (RX6, TX6, 12) := ⟨tb_r _ [266, 268, 270, 272, 274, 276, 278, 280, 282, 284, 286, 288] (by decide +kernel) (by decide +kernel), ⟨tyX6, tyX6_ok⟩, nmX6, rfl, by decide +kernel⟩
set_option maxRecDepth 100000 in
set_option maxHeartbeats 4000000 in
theorem cok_7 : cls_ok 7 (RX7, TX7, 5) := ⟨tb_r _ [469, 471, 473, 475, 477] (by decide +kernel) (by decide +kernel), ⟨tyX7, tyX7_ok⟩, nmX7, rfl, by decide +kernel⟩
set_option maxRecDepth 100000 in
set_option maxHeartbeats 4000000 in
theorem cok_8 : cls_ok 8 (RX8, TX8, 13) := ⟨tb_r _ [224, 226, 228, 230, 232, 234, 236, 238, 240, 242, 244, 246, 248] (by decide +kernel) (by decide +kernel), ⟨tyX8, tyX8_ok⟩, nmX8, rfl, by decide +kernel⟩
set_option maxRecDepth 100000 in
set_option maxHeartbeats 4000000 in
theorem cok_9 : cls_ok 9 (RX9, TX9, 4) := ⟨tb_r _ [172, 174, 176, 178] (by decide +kernel) (by decide +kernel), ⟨tyX9, tyX9_ok⟩, nmX9, rfl, by decide +kernel⟩
set_option maxRecDepth 100000 in
set_option maxHeartbeats 4000000 in
theorem cok_10 : cls_ok 10 (RX10, TX10, 5) := ⟨tb_r _ [412, 414, 416, 418, 420] (by decide +kernel) (by decide +kernel), ⟨tyX10, tyX10_ok⟩, nmX10, rfl, by decide +kernel⟩
set_option maxRecDepth 100000 in
set_option maxHeartbeats 4000000 in
theorem cok_11 : cls_ok 11 (RX11, TX11, 15) := ⟨tb_r _ [525, 527, 529, 531, 533, 535, 537, 539, 541, 543, 545, 547, 549, 551, 553] (by decide +kernel) (by decide +kernel), ⟨tyX11, tyX11_ok⟩, nmX11, rfl, by decide +kernel⟩
set_option maxRecDepth 100000 in
set_option maxHeartbeats 4000000 in
theorem cok_12 : cls_ok 12 (RX12, TX12, 58) := ⟨tb_r _ [1514, 1516, 1518, 1520, 1522, 1524, 1526, 1528, 1530, 1532, 1534, 1536, 1538, 1540, 1542, 1544, 1546, 1548, 1550, 1552, 1554, 1556, 1558, 1560, 1562, 1564, 1566, 1568, 1570, 1572, 1574, 1576, 1578, 1580, 1582, 1584, 1586, 1588, 1590, 1592, 1594, 1596, 1598, 1600, 1602, 1604, 1606, 1608, 1610, 1612, 1614, 1616, 1618, 1620, 1622, 1624, 1626, 1628] (by decide +kernel) (by decide +kernel), ⟨tyX12, tyX12_ok⟩, nmX12, rfl, by decide +kernel⟩
theorem cls_all : ∀ (c : Nat) (q : vw_C), clsL[c]? = some q → cls_ok c q := by
  intro c q h
  match c, h with
  | 0, h => cases h; exact cok_0
  | 1, h => cases h; exact cok_1
  | 2, h => cases h; exact cok_2
  | 3, h => cases h; exact cok_3
  | 4, h => cases h; exact cok_4
  | 5, h => cases h; exact cok_5
  | 6, h => cases h; exact cok_6
  | 7, h => cases h; exact cok_7
  | 8, h => cases h; exact cok_8
  | 9, h => cases h; exact cok_9
  | 10, h => cases h; exact cok_10
  | 11, h => cases h; exact cok_11
  | 12, h => cases h; exact cok_12
  | k + 13, h => simp [clsL] at h
theorem cls_ws {c : Nat} {q : vw_C} (h : clsL[c]? = some q) : ∀ w ∈ u_ws q.1 q.2.1 q.2.2, w ∈ TB := (cls_all c q h).1
