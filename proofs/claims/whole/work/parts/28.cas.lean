/-! ===== LEVEL 2: the class's Cases ===== -/
def isCa (c N : Nat) : Prop := ((c = 46 ∨ c = 49) ∧ N = 100) ∨ ((c = 53 ∨ c = 56) ∧ N = 10000)
theorem K0_ca {c N : Nat} (h : isCa c N) : K0 c = (0, 1) := by rcases h with ⟨rfl | rfl, rfl⟩ | ⟨rfl | rfl, rfl⟩ <;> rfl
theorem K0_ca1 {c N : Nat} (h : isCa c N) : K0 (c + 1) = (1, N) := by rcases h with ⟨rfl | rfl, rfl⟩ | ⟨rfl | rfl, rfl⟩ <;> rfl
theorem K0_ca2 {c N : Nat} (h : isCa c N) : K0 (c + 2) = (1, N) := by rcases h with ⟨rfl | rfl, rfl⟩ | ⟨rfl | rfl, rfl⟩ <;> rfl
theorem ca_N {c N : Nat} (h : isCa c N) : N ≤ 10000 := by rcases h with ⟨_, rfl⟩ | ⟨_, rfl⟩ <;> omega
theorem at_ca1 {c N a : Nat} {M : Mem} (h : isCa c N) (ha : a < N) : zX11_at (c + 1) (io a) M = some (mI M (c + 1) a, M) := at_io (K0_ca1 h) ha (Nat.le_trans (ca_N h) (by omega))
theorem at_ca2 {c N a : Nat} {M : Mem} (h : isCa c N) (ha : a < N) : zX11_at (c + 2) (io a) M = some (mI M (c + 2) a, M) := at_io (K0_ca2 h) ha (Nat.le_trans (ca_N h) (by omega))
theorem put_ca1 {c N a : Nat} {x : Int32} {M : Mem} (h : isCa c N) (ha : a < N) : zX11_put (c + 1) (io a) x M = some ((), sI M (c + 1) a x) := put_io (K0_ca1 h) ha (Nat.le_trans (ca_N h) (by omega))
theorem put_ca2 {c N a : Nat} {x : Int32} {M : Mem} (h : isCa c N) (ha : a < N) : zX11_put (c + 2) (io a) x M = some ((), sI M (c + 2) a x) := put_io (K0_ca2 h) ha (Nat.le_trans (ca_N h) (by omega))
def PCa (M : Mem) (c : Nat) : Prop := mR M c 0 = c + 1 ∧ mR M c 1 = c + 2
/-- a list of different numbers below n is no longer than n -/
theorem nodup_len {n : Nat} : ∀ {pl : List Nat}, pl.Nodup → (∀ t ∈ pl, t < n) → pl.length ≤ n := by
  intro pl h1 h2
  have e := sumL_N (n := n) (f := fun t => if t ∈ pl then 1 else 0) h1 h2 (fun t _ ht => by simp [ht])
  have e1 : ∀ l : List Nat, (∀ t ∈ l, t ∈ pl) → sumL l (fun t => if t ∈ pl then 1 else 0) = l.length := by
    intro l
    induction l with
    | nil => intro _; rfl
    | cons a l ih =>
      intro h
      simp only [sumL, List.length_cons]
      rw [ih (fun t ht => h t (List.mem_cons_of_mem _ ht)), if_pos (h a (List.mem_cons_self ..))]
      omega
  rw [e1 pl (fun _ h => h)] at e
  rw [e]
  have : sumN n (fun t => if t ∈ pl then 1 else 0) ≤ sumN n (fun _ => 1) := sumN_le (fun t _ => by split <;> omega)
  have e2 : ∀ m, sumN m (fun _ => 1) = m := by
    intro m
    induction m with
    | zero => rfl
    | succ m ih => simp only [sumN]; rw [ih]
  rw [e2 n] at this
  exact this
theorem c_clear {c N : Nat} {cs : Nat → Nat} {M : Mem} (hc : isCa c N) (hP : PCa M c) (h : CaI M c N cs) : Wp (zX1_clear c M) (fun _ M' => CaI M' c N (fun _ => 0) ∧ Fg [(c, c + 1)] [] M M') := by
  obtain ⟨pl, hn, hm, hlt, hsz, hpl, ham⟩ := h
  have hlen : pl.length ≤ N := nodup_len hn (fun t ht => hlt t ((hm t).mp ht))
  have hN := ca_N hc
  obtain ⟨hp0, hp1⟩ := hP
  unfold zX1_clear
  simp -dsimp (disch := first | assumption | omega) only [K0_ca hc, ↓bndX_h, ↓bndK_h, bxh_inl, bxh_inr, bkh_inl, bkh_inr, Nat.reduceEqDiff, ↓bnd_h, ↓lt_h, ↓ite_h, bh_some, lh_eq, ih_T, ih_F, ne_eq, not_false_eq_true, not_true_eq_false, eq_self, and_true, true_and, io_def]
  refine loopW (L := fun f (i : Nat) M => zX1_clear_L2 f c (io i) M) (J := fun i M1 => i ≤ pl.length ∧ (∀ t, t < N → mI M1 (c + 1) t = io (cs t) ∨ mI M1 (c + 1) t = io 0) ∧ (∀ j, (h : j < pl.length) → j < i → mI M1 (c + 1) pl[j] = io 0) ∧ Fg [(c + 1, c + 1)] [] M M1) (fun i _ => pl.length - i) ?_ FU 0 M ⟨Nat.zero_le _, fun t ht => Or.inl (ham t ht), fun j _ hj => absurd hj (Nat.not_lt_zero _), Fg.refl⟩ (by rw [FU_val]; omega)
  intro f i M1 ⟨hi, h1, h2, hF⟩ rec
  show Wp (zX1_clear_B2 _ _ _ _) _
  unfold zX1_clear_B2
  have f0 : ∀ k, mI M1 c k = mI M c k := fun k => hF.I (by simp [ob])
  have f2 : ∀ k, mI M1 (c + 2) k = mI M (c + 2) k := fun k => hF.I (by simp [ob])
  have fR : ∀ o k, mR M1 o k = mR M o k := fun o k => hF.2.2 o rfl k
  simp -dsimp (disch := first | assumption | omega) only [↓bndX_h, ↓bndK_h, bxh_inl, bxh_inr, bkh_inl, bkh_inr, Nat.reduceEqDiff, ↓bnd_h, ↓lt_h, ↓ite_h, bh_some, lh_eq, ih_T, ih_F, ne_eq, not_false_eq_true, not_true_eq_false, eq_self, and_true, true_and, io_def, io_add, io_mul, io_sub, io_lt, io_le, io_eq, io_clamp, io_inbT, io_div, io_mod, io_m1, m1_io, m1_lt, m1_le, neg_1, gI_m1, f0, hsz, fR, hp0, hp1, succ_ne, lit_0]
  refine Wp.csh (fun cc => ?_) (fun cc => ?_)
  · refine Wp.ret ⟨⟨[], List.nodup_nil, fun t => by simp, fun t ht => absurd rfl ht, ?_, fun i h => absurd h (Nat.not_lt_zero _), fun t ht => ?_⟩, (hF.sub (fun o ho => ?_) (fun _ h => h)).sI ?_⟩
    · rw [mI_sI, if_pos ⟨rfl, rfl⟩]; rfl
    · rw [mI_sI, if_neg (by omega)]
      by_cases hz : t ∈ pl
      · obtain ⟨j, hj, rfl⟩ := List.getElem_of_mem hz
        exact h2 j hj (by omega)
      · rcases h1 t ht with e | e
        · rw [e]
          congr 1
          exact Classical.byContradiction (fun q => hz ((hm t).mpr q))
        · exact e
    · simp only [ob, Bool.and_true, Bool.or_eq_true, decide_eq_true_eq] at ho ⊢
      omega
    · simp [ob]
  · have hi2 : i < pl.length := by omega
    have hpi := hlt pl[i] ((hm _).mp (List.getElem_mem hi2))
    have e3 := at_ca2 (M := M1) hc (show i < N by omega)
    rw [f2, hpl i hi2] at e3
    have e4 := put_ca1 (M := M1) (x := io 0) hc hpi
    simp -dsimp (disch := first | assumption | omega) only [e3, e4, ↓bndX_h, ↓bndK_h, bxh_inl, bxh_inr, bkh_inl, bkh_inr, Nat.reduceEqDiff, ↓bnd_h, ↓lt_h, ↓ite_h, bh_some, lh_eq, ih_T, ih_F, ne_eq, not_false_eq_true, not_true_eq_false, eq_self, and_true, true_and, io_def, lit_0, lit_1, io_add, fR, hp0, hp1, succ_ne]
    refine rec (i + 1) (sI M1 (c + 1) pl[i] (io 0)) ⟨by omega, fun t ht => ?_, fun j hj hji => ?_, hF.sI (by simp [ob])⟩ (by omega)
    · rw [mI_sI]
      by_cases e : t = pl[i]
      · rw [if_pos ⟨rfl, e⟩]; exact Or.inr rfl
      · rw [if_neg (fun q => e q.2)]; exact h1 t ht
    · rw [mI_sI]
      by_cases e : pl[j] = pl[i]
      · rw [if_pos ⟨rfl, e⟩]
      · rw [if_neg (fun q => e q.2)]
        refine h2 j hj ?_
        rcases Nat.lt_or_ge j i with q | q
        · exact q
        · have : j = i := by omega
          subst this
          exact absurd rfl e
theorem c_add {c N t a : Nat} {cs : Nat → Nat} {M : Mem} (hc : isCa c N) (hP : PCa M c) (h : CaI M c N cs) (ht : t < N) (ha : cs t + a < 2147483648) : Wp (zX1_add c (io t) (io a) M) (fun _ M' => CaI M' c N (fun u => if u = t then cs t + a else cs u) ∧ Fg [(c, c + 2)] [] M M') := by
  obtain ⟨pl, hn, hm, hlt, hsz, hpl, ham⟩ := h
  have hlen : pl.length ≤ N := nodup_len hn (fun t ht => hlt t ((hm t).mp ht))
  have hN := ca_N hc
  obtain ⟨hp0, hp1⟩ := hP
  unfold zX1_add zX1_add_B40
  have e1 := at_ca1 (M := M) hc ht
  rw [ham t ht] at e1
  by_cases h0 : a = 0
  · subst h0
    simp -dsimp (disch := first | assumption | omega) only [K0_ca hc, lit_0, ↓bndX_h, ↓bndK_h, bxh_inl, bxh_inr, bkh_inl, bkh_inr, Nat.reduceEqDiff, ↓bnd_h, ↓lt_h, ↓ite_h, bh_some, lh_eq, ih_T, ih_F, ne_eq, not_false_eq_true, not_true_eq_false, eq_self, and_true, true_and, io_def, io_add, io_mul, io_sub, io_lt, io_le, io_eq, io_clamp, io_inbT, io_div, io_mod, io_m1, m1_io, m1_lt, m1_le, neg_1, gI_m1]
    refine Wp.ret ⟨⟨pl, hn, fun u => ?_, fun u hu => ?_, hsz, hpl, fun u hu => ?_⟩, Fg.refl⟩
    · rw [hm u]
      by_cases e : u = t
      · subst e; simp
      · simp [e]
    · by_cases e : u = t
      · exact e ▸ ht
      · exact hlt u (by simpa [e] using hu)
    · rw [ham u hu]
      by_cases e : u = t
      · subst e; simp
      · simp [e]
  · by_cases h1 : cs t = 0
    · have hnt : t ∉ pl := fun q => (hm t).mp q h1
      have hlen2 : pl.length + 1 ≤ N := by
        have := nodup_len (n := N) (pl := t :: pl) (List.nodup_cons.mpr ⟨hnt, hn⟩) (fun u hu => by
          rcases List.mem_cons.mp hu with e | e
          · exact e ▸ ht
          · exact hlt u ((hm u).mp e))
        simpa using this
      have e2 := put_ca2 (M := M) (x := io t) hc (show pl.length < N by omega)
      have e3 : ∀ M x, zX11_put (c + 1) (io t) x M = some ((), sI M (c + 1) t x) := fun M x => put_ca1 hc ht
      simp -dsimp (disch := first | assumption | omega) only [K0_ca hc, lit_0, lit_1, ↓bndX_h, ↓bndK_h, bxh_inl, bxh_inr, bkh_inl, bkh_inr, Nat.reduceEqDiff, ↓bnd_h, ↓lt_h, ↓ite_h, bh_some, lh_eq, ih_T, ih_F, ne_eq, not_false_eq_true, not_true_eq_false, eq_self, and_true, true_and, io_def, io_add, io_mul, io_sub, io_lt, io_le, io_eq, io_clamp, io_inbT, io_div, io_mod, io_m1, m1_io, m1_lt, m1_le, neg_1, gI_m1, hp0, hp1, e1, h0, h1, e2, e3, hsz, succ_ne, false_and, and_false, if_false, if_true, and_self, mI_sI, mI_sL, mL_sI, mL_sL, mR_sI, mR_sL]
      refine Wp.ret ⟨⟨pl ++ [t], ?_, fun u => ?_, fun u hu => ?_, ?_, fun i hi => ?_, fun u hu => ?_⟩, ?_⟩
      · refine List.nodup_append.mpr ⟨hn, by simp, fun u hu w hw => ?_⟩
        simp only [List.mem_singleton] at hw
        subst hw
        exact fun e => hnt (e ▸ hu)
      · rw [List.mem_append, hm u]
        by_cases e : u = t
        · subst e; simp [h1, h0]
        · simp [e]
      · by_cases e : u = t
        · exact e ▸ ht
        · exact hlt u (by simpa [e] using hu)
      · simp [mI_sI, hsz, io_add]
      · simp [mI_sI]
        by_cases e : i = pl.length
        · subst e; simp
        · rw [if_neg e]
          have hi' : i < pl.length := by simp at hi; omega
          rw [List.getElem_append_left hi']
          exact hpl i hi'
      · simp [mI_sI]
        by_cases e : u = t
        · subst e; simp [h1]
        · simp [e, ham u hu]
      · refine Fg.sI (Fg.sI (Fg.sI Fg.refl ?_) ?_) ?_ <;> simp [ob]
    · have e3 : ∀ M x, zX11_put (c + 1) (io t) x M = some ((), sI M (c + 1) t x) := fun M x => put_ca1 hc ht
      simp -dsimp (disch := first | assumption | omega) only [K0_ca hc, lit_0, lit_1, ↓bndX_h, ↓bndK_h, bxh_inl, bxh_inr, bkh_inl, bkh_inr, Nat.reduceEqDiff, ↓bnd_h, ↓lt_h, ↓ite_h, bh_some, lh_eq, ih_T, ih_F, ne_eq, not_false_eq_true, not_true_eq_false, eq_self, and_true, true_and, io_def, io_add, io_mul, io_sub, io_lt, io_le, io_eq, io_clamp, io_inbT, io_div, io_mod, io_m1, m1_io, m1_lt, m1_le, neg_1, gI_m1, hp0, hp1, e1, h0, h1, e3, hsz, succ_ne, false_and, and_false, if_false, if_true, and_self, mI_sI, mI_sL, mL_sI, mL_sL, mR_sI, mR_sL]
      refine Wp.ret ⟨⟨pl, hn, fun u => ?_, fun u hu => ?_, ?_, fun i hi => ?_, fun u hu => ?_⟩, ?_⟩
      · rw [hm u]
        by_cases e : u = t
        · subst e; simp [h1]
        · simp [e]
      · by_cases e : u = t
        · exact e ▸ ht
        · exact hlt u (by simpa [e] using hu)
      · simp [mI_sI, hsz]
      · simp [mI_sI, hpl i hi]
      · simp [mI_sI]
        by_cases e : u = t
        · subst e; simp
        · simp [e, ham u hu]
      · exact Fg.sI Fg.refl (by simp [ob])
