/-! ===== functions over the memory and their contracts: printed by wip/whole/lay.py ===== -/
-- GateBoxLaw.gate(LGateBox;II[J)I
def zL_gate (x0 : Nat) (x1 : Int32) (x2 : Int32) (x3 : Nat) (M : Mem) : Option (Int32 × Mem) :=
  if K0 x0 = (0, 11) then
  bndK (zX11_gate x0 x1 x2 M) (fun k5 M4 => if k5 = 0 then some (1, M4) else if k5 = 1 then some (2, M4) else none) fun v1 M2 =>
  if (K0 x3).1 = 2 ∧ inb 0 (K0 x3).2 = true then
  lt (sL M2 x3 (Int32.toNatClampNeg 0) (Int32.toInt64 v1)) fun M10 =>
  some (0, M10)
  else none
  else none
set_option maxRecDepth 20000 in
set_option maxHeartbeats 4000000 in
theorem kL_gate (l : Launch) (E : Ev) (hst : l.stackTraces = false) (n : Nat) (hn : 104 ≤ n) (ct : Nat) (hct : 111 ≤ ct) (x0 : Nat) (x1 : Int32) (x2 : Int32) (x3 : Nat) (M : Mem) : AMW l E n ct yL_gate fL_gate enI [.ref (ad E x0), .int x1, .int x2, .ref (ad E x3)] M (zL_gate x0 x1 x2 x3 M) := by
  unfold zL_gate
  refine AMW.of (by decide +kernel) ⟨rfl, rfl⟩ (Nat.le_of_ble_eq_true rfl) ?_
  refine AW.aload_n (pc := 0) dL_gate_0 rfl 3 rfl ?_
  refine AW.iconst (pc := 1) dL_gate_1 ci_0 ?_
  refine AW.aload_n (pc := 2) dL_gate_2 rfl 0 rfl ?_
  refine AW.iload_n (pc := 3) dL_gate_3 rfl 1 rfl ?_
  refine AW.iload_n (pc := 4) dL_gate_4 rfl 2 rfl ?_
  refine AW.chk (fun g3 => ?_)
  refine AW.callC [.int x1, .int x2] [.int 0, .ref (ad E x3)] (pc := 5) (by decide) dL_gate_5 mlL_7 mbX11_gate rfl g3 (kct g3 rfl hct) (fun _ => okR_M (by omega) (Nat.le_of_ble_eq_true rfl) (Nat.le_of_ble_eq_true rfl)) (kX11_gate l E hst (n - 1) (by omega) ct hct false x0 x1 x2 M) rfl (Nat.le_of_ble_eq_true rfl) (fun k5 M4 h6 => ?_) (fun v1 M2 => ?_)
  · by_cases h7 : k5 = 0
    · subst h7
      refine ⟨by decide, 13, ⟨[], ⟨0, 10, 13, 13⟩, [⟨0, 10, 17, 15⟩], rfl, by decide, by decide, rfl, clL_13, (fun z hz => absurd hz List.not_mem_nil)⟩, fun q => ?_⟩
      refine AW.eqF (F' := some (1, M4)) rfl ?_
      refine AW.astore (pc := 13) [] [] dL_gate_13 (by decide) rfl ?_
      refine AW.iconst (pc := 15) dL_gate_15 ci_1 ?_
      exact AW.iret (pc := 16) dL_gate_16 rfl (fun _ _ _ => rfl) (Nat.le_of_ble_eq_true rfl) (Nat.le_of_ble_eq_true rfl)
    by_cases h8 : k5 = 1
    · subst h8
      refine ⟨by decide, 17, ⟨[⟨0, 10, 13, 13⟩], ⟨0, 10, 17, 15⟩, [], rfl, by decide, by decide, rfl, clL_15, (fun z hz => by rw [List.mem_singleton.mp hz]; exact ⟨by decide, rfl, clL_13⟩)⟩, fun q => ?_⟩
      refine AW.eqF (F' := some (2, M4)) rfl ?_
      refine AW.astore (pc := 17) [] [] dL_gate_17 (by decide) rfl ?_
      refine AW.iconst (pc := 19) dL_gate_19 ci_2 ?_
      exact AW.iret (pc := 20) dL_gate_20 rfl (fun _ _ _ => rfl) (Nat.le_of_ble_eq_true rfl) (Nat.le_of_ble_eq_true rfl)
    exact absurd (by simp only [if_neg h7, if_neg h8]) h6
  refine AW.i2l (pc := 8) dL_gate_8 ?_
  refine AW.chk (fun g9 => ?_)
  refine AW.last (pc := 9) dL_gate_9 (k0e g9.1) (kct (k0e g9.1) rfl hct) g9.2 ?_
  refine AW.genM (fun M10 => ?_)
  refine AW.goto (pc := 10) 21 dL_gate_10 (by decide) ?_
  refine AW.iconst (pc := 21) dL_gate_21 ci_0 ?_
  exact AW.iret (pc := 22) dL_gate_22 rfl (fun _ _ _ => rfl) (Nat.le_of_ble_eq_true rfl) (Nat.le_of_ble_eq_true rfl)
-- GateBoxLaw.count(LGateBox;I[J)I
def zL_count (x0 : Nat) (x1 : Int32) (x2 : Nat) (M : Mem) : Option (Int32 × Mem) :=
  if K0 x0 = (0, 11) then
  bndK (zX11_count x0 x1 M) (fun k5 M4 => if k5 = 0 then some (1, M4) else none) fun v1 M2 =>
  if (K0 x2).1 = 2 ∧ inb 0 (K0 x2).2 = true then
  lt (sL M2 x2 (Int32.toNatClampNeg 0) (Int32.toInt64 v1)) fun M9 =>
  some (0, M9)
  else none
  else none
set_option maxRecDepth 20000 in
set_option maxHeartbeats 4000000 in
theorem kL_count (l : Launch) (E : Ev) (hst : l.stackTraces = false) (n : Nat) (hn : 13 ≤ n) (ct : Nat) (hct : 111 ≤ ct) (x0 : Nat) (x1 : Int32) (x2 : Nat) (M : Mem) : AMW l E n ct yL_count fL_count enI [.ref (ad E x0), .int x1, .ref (ad E x2)] M (zL_count x0 x1 x2 M) := by
  unfold zL_count
  refine AMW.of (by decide +kernel) ⟨rfl, rfl⟩ (Nat.le_of_ble_eq_true rfl) ?_
  refine AW.aload_n (pc := 0) dL_count_0 rfl 2 rfl ?_
  refine AW.iconst (pc := 1) dL_count_1 ci_0 ?_
  refine AW.aload_n (pc := 2) dL_count_2 rfl 0 rfl ?_
  refine AW.iload_n (pc := 3) dL_count_3 rfl 1 rfl ?_
  refine AW.chk (fun g3 => ?_)
  refine AW.callC [.int x1] [.int 0, .ref (ad E x2)] (pc := 4) (by decide) dL_count_4 mlL_17 mbX11_count rfl g3 (kct g3 rfl hct) (fun _ => okR_M (by omega) (Nat.le_of_ble_eq_true rfl) (Nat.le_of_ble_eq_true rfl)) (kX11_count l E hst (n - 1) (by omega) ct hct false x0 x1 M) rfl (Nat.le_of_ble_eq_true rfl) (fun k5 M4 h6 => ?_) (fun v1 M2 => ?_)
  · by_cases h7 : k5 = 0
    · subst h7
      refine ⟨by decide, 12, ⟨[], ⟨0, 9, 12, 13⟩, [], rfl, by decide, by decide, rfl, clL_13, (fun z hz => absurd hz List.not_mem_nil)⟩, fun q => ?_⟩
      refine AW.eqF (F' := some (1, M4)) rfl ?_
      refine AW.astore_n (pc := 12) [] [] dL_count_12 rfl (by decide) rfl ?_
      refine AW.iconst (pc := 13) dL_count_13 ci_1 ?_
      exact AW.iret (pc := 14) dL_count_14 rfl (fun _ _ _ => rfl) (Nat.le_of_ble_eq_true rfl) (Nat.le_of_ble_eq_true rfl)
    exact absurd (by simp only [if_neg h7]) h6
  refine AW.i2l (pc := 7) dL_count_7 ?_
  refine AW.chk (fun g8 => ?_)
  refine AW.last (pc := 8) dL_count_8 (k0e g8.1) (kct (k0e g8.1) rfl hct) g8.2 ?_
  refine AW.genM (fun M9 => ?_)
  refine AW.goto (pc := 9) 15 dL_count_9 (by decide) ?_
  refine AW.iconst (pc := 15) dL_count_15 ci_0 ?_
  exact AW.iret (pc := 16) dL_count_16 rfl (fun _ _ _ => rfl) (Nat.le_of_ble_eq_true rfl) (Nat.le_of_ble_eq_true rfl)
-- GateBoxLaw.about(LGateBox;II[J)I
def zL_about (x0 : Nat) (x1 : Int32) (x2 : Int32) (x3 : Nat) (M : Mem) : Option (Int32 × Mem) :=
  if K0 x0 = (0, 11) then
  bndK (zX11_about x0 x1 x2 M) (fun k5 M4 => if k5 = 0 then some (1, M4) else none) fun v1 M2 =>
  if (K0 x3).1 = 2 ∧ inb 0 (K0 x3).2 = true then
  lt (sL M2 x3 (Int32.toNatClampNeg 0) (Int32.toInt64 v1)) fun M9 =>
  some (0, M9)
  else none
  else none
set_option maxRecDepth 20000 in
set_option maxHeartbeats 4000000 in
theorem kL_about (l : Launch) (E : Ev) (hst : l.stackTraces = false) (n : Nat) (hn : 14 ≤ n) (ct : Nat) (hct : 111 ≤ ct) (x0 : Nat) (x1 : Int32) (x2 : Int32) (x3 : Nat) (M : Mem) : AMW l E n ct yL_about fL_about enI [.ref (ad E x0), .int x1, .int x2, .ref (ad E x3)] M (zL_about x0 x1 x2 x3 M) := by
  unfold zL_about
  refine AMW.of (by decide +kernel) ⟨rfl, rfl⟩ (Nat.le_of_ble_eq_true rfl) ?_
  refine AW.aload_n (pc := 0) dL_about_0 rfl 3 rfl ?_
  refine AW.iconst (pc := 1) dL_about_1 ci_0 ?_
  refine AW.aload_n (pc := 2) dL_about_2 rfl 0 rfl ?_
  refine AW.iload_n (pc := 3) dL_about_3 rfl 1 rfl ?_
  refine AW.iload_n (pc := 4) dL_about_4 rfl 2 rfl ?_
  refine AW.chk (fun g3 => ?_)
  refine AW.callC [.int x1, .int x2] [.int 0, .ref (ad E x3)] (pc := 5) (by decide) dL_about_5 mlL_21 mbX11_about rfl g3 (kct g3 rfl hct) (fun _ => okR_M (by omega) (Nat.le_of_ble_eq_true rfl) (Nat.le_of_ble_eq_true rfl)) (kX11_about l E hst (n - 1) (by omega) ct hct false x0 x1 x2 M) rfl (Nat.le_of_ble_eq_true rfl) (fun k5 M4 h6 => ?_) (fun v1 M2 => ?_)
  · by_cases h7 : k5 = 0
    · subst h7
      refine ⟨by decide, 13, ⟨[], ⟨0, 10, 13, 13⟩, [], rfl, by decide, by decide, rfl, clL_13, (fun z hz => absurd hz List.not_mem_nil)⟩, fun q => ?_⟩
      refine AW.eqF (F' := some (1, M4)) rfl ?_
      refine AW.astore (pc := 13) [] [] dL_about_13 (by decide) rfl ?_
      refine AW.iconst (pc := 15) dL_about_15 ci_1 ?_
      exact AW.iret (pc := 16) dL_about_16 rfl (fun _ _ _ => rfl) (Nat.le_of_ble_eq_true rfl) (Nat.le_of_ble_eq_true rfl)
    exact absurd (by simp only [if_neg h7]) h6
  refine AW.i2l (pc := 8) dL_about_8 ?_
  refine AW.chk (fun g8 => ?_)
  refine AW.last (pc := 9) dL_about_9 (k0e g8.1) (kct (k0e g8.1) rfl hct) g8.2 ?_
  refine AW.genM (fun M9 => ?_)
  refine AW.goto (pc := 10) 17 dL_about_10 (by decide) ?_
  refine AW.iconst (pc := 17) dL_about_17 ci_0 ?_
  exact AW.iret (pc := 18) dL_about_18 rfl (fun _ _ _ => rfl) (Nat.le_of_ble_eq_true rfl) (Nat.le_of_ble_eq_true rfl)
-- GateBoxLaw.sort(LGateBox;III[J)I
def zL_sort (x0 : Nat) (x1 : Int32) (x2 : Int32) (x3 : Int32) (x4 : Nat) (M : Mem) : Option (Int32 × Mem) :=
  if K0 x0 = (0, 11) then
  bndK (zX11_sort x0 x1 x2 x3 M) (fun k5 M4 => if k5 = 0 then some (1, M4) else none) fun v1 M2 =>
  if (K0 x4).1 = 2 ∧ inb 0 (K0 x4).2 = true then
  lt (sL M2 x4 (Int32.toNatClampNeg 0) (Int32.toInt64 v1)) fun M9 =>
  some (0, M9)
  else none
  else none
set_option maxRecDepth 20000 in
set_option maxHeartbeats 4000000 in
theorem kL_sort (l : Launch) (E : Ev) (hst : l.stackTraces = false) (n : Nat) (hn : 14 ≤ n) (ct : Nat) (hct : 111 ≤ ct) (x0 : Nat) (x1 : Int32) (x2 : Int32) (x3 : Int32) (x4 : Nat) (M : Mem) : AMW l E n ct yL_sort fL_sort enI [.ref (ad E x0), .int x1, .int x2, .int x3, .ref (ad E x4)] M (zL_sort x0 x1 x2 x3 x4 M) := by
  unfold zL_sort
  refine AMW.of (by decide +kernel) ⟨rfl, rfl⟩ (Nat.le_of_ble_eq_true rfl) ?_
  refine AW.aload (pc := 0) dL_sort_0 4 rfl ?_
  refine AW.iconst (pc := 2) dL_sort_2 ci_0 ?_
  refine AW.aload_n (pc := 3) dL_sort_3 rfl 0 rfl ?_
  refine AW.iload_n (pc := 4) dL_sort_4 rfl 1 rfl ?_
  refine AW.iload_n (pc := 5) dL_sort_5 rfl 2 rfl ?_
  refine AW.iload_n (pc := 6) dL_sort_6 rfl 3 rfl ?_
  refine AW.chk (fun g3 => ?_)
  refine AW.callC [.int x1, .int x2, .int x3] [.int 0, .ref (ad E x4)] (pc := 7) (by decide) dL_sort_7 mlL_24 mbX11_sort rfl g3 (kct g3 rfl hct) (fun _ => okR_M (by omega) (Nat.le_of_ble_eq_true rfl) (Nat.le_of_ble_eq_true rfl)) (kX11_sort l E hst (n - 1) (by omega) ct hct false x0 x1 x2 x3 M) rfl (Nat.le_of_ble_eq_true rfl) (fun k5 M4 h6 => ?_) (fun v1 M2 => ?_)
  · by_cases h7 : k5 = 0
    · subst h7
      refine ⟨by decide, 15, ⟨[], ⟨0, 12, 15, 13⟩, [], rfl, by decide, by decide, rfl, clL_13, (fun z hz => absurd hz List.not_mem_nil)⟩, fun q => ?_⟩
      refine AW.eqF (F' := some (1, M4)) rfl ?_
      refine AW.astore (pc := 15) [] [] dL_sort_15 (by decide) rfl ?_
      refine AW.iconst (pc := 17) dL_sort_17 ci_1 ?_
      exact AW.iret (pc := 18) dL_sort_18 rfl (fun _ _ _ => rfl) (Nat.le_of_ble_eq_true rfl) (Nat.le_of_ble_eq_true rfl)
    exact absurd (by simp only [if_neg h7]) h6
  refine AW.i2l (pc := 10) dL_sort_10 ?_
  refine AW.chk (fun g8 => ?_)
  refine AW.last (pc := 11) dL_sort_11 (k0e g8.1) (kct (k0e g8.1) rfl hct) g8.2 ?_
  refine AW.genM (fun M9 => ?_)
  refine AW.goto (pc := 12) 19 dL_sort_12 (by decide) ?_
  refine AW.iconst (pc := 19) dL_sort_19 ci_0 ?_
  exact AW.iret (pc := 20) dL_sort_20 rfl (fun _ _ _ => rfl) (Nat.le_of_ble_eq_true rfl) (Nat.le_of_ble_eq_true rfl)
-- GateBoxLaw.gives(LGateBox;III[J)I
def zL_gives (x0 : Nat) (x1 : Int32) (x2 : Int32) (x3 : Int32) (x4 : Nat) (M : Mem) : Option (Int32 × Mem) :=
  if K0 x0 = (0, 11) then
  bndK (zX11_gives x0 x1 x2 x3 M) (fun k5 M4 => if k5 = 0 then some (1, M4) else none) fun v1 M2 =>
  if (K0 x4).1 = 2 ∧ inb 0 (K0 x4).2 = true then
  lt (sL M2 x4 (Int32.toNatClampNeg 0) (Int32.toInt64 v1)) fun M9 =>
  some (0, M9)
  else none
  else none
set_option maxRecDepth 20000 in
set_option maxHeartbeats 4000000 in
theorem kL_gives (l : Launch) (E : Ev) (hst : l.stackTraces = false) (n : Nat) (hn : 14 ≤ n) (ct : Nat) (hct : 111 ≤ ct) (x0 : Nat) (x1 : Int32) (x2 : Int32) (x3 : Int32) (x4 : Nat) (M : Mem) : AMW l E n ct yL_gives fL_gives enI [.ref (ad E x0), .int x1, .int x2, .int x3, .ref (ad E x4)] M (zL_gives x0 x1 x2 x3 x4 M) := by
  unfold zL_gives
  refine AMW.of (by decide +kernel) ⟨rfl, rfl⟩ (Nat.le_of_ble_eq_true rfl) ?_
  refine AW.aload (pc := 0) dL_gives_0 4 rfl ?_
  refine AW.iconst (pc := 2) dL_gives_2 ci_0 ?_
  refine AW.aload_n (pc := 3) dL_gives_3 rfl 0 rfl ?_
  refine AW.iload_n (pc := 4) dL_gives_4 rfl 1 rfl ?_
  refine AW.iload_n (pc := 5) dL_gives_5 rfl 2 rfl ?_
  refine AW.iload_n (pc := 6) dL_gives_6 rfl 3 rfl ?_
  refine AW.chk (fun g3 => ?_)
  refine AW.callC [.int x1, .int x2, .int x3] [.int 0, .ref (ad E x4)] (pc := 7) (by decide) dL_gives_7 mlL_28 mbX11_gives rfl g3 (kct g3 rfl hct) (fun _ => okR_M (by omega) (Nat.le_of_ble_eq_true rfl) (Nat.le_of_ble_eq_true rfl)) (kX11_gives l E hst (n - 1) (by omega) ct hct false x0 x1 x2 x3 M) rfl (Nat.le_of_ble_eq_true rfl) (fun k5 M4 h6 => ?_) (fun v1 M2 => ?_)
  · by_cases h7 : k5 = 0
    · subst h7
      refine ⟨by decide, 15, ⟨[], ⟨0, 12, 15, 13⟩, [], rfl, by decide, by decide, rfl, clL_13, (fun z hz => absurd hz List.not_mem_nil)⟩, fun q => ?_⟩
      refine AW.eqF (F' := some (1, M4)) rfl ?_
      refine AW.astore (pc := 15) [] [] dL_gives_15 (by decide) rfl ?_
      refine AW.iconst (pc := 17) dL_gives_17 ci_1 ?_
      exact AW.iret (pc := 18) dL_gives_18 rfl (fun _ _ _ => rfl) (Nat.le_of_ble_eq_true rfl) (Nat.le_of_ble_eq_true rfl)
    exact absurd (by simp only [if_neg h7]) h6
  refine AW.i2l (pc := 10) dL_gives_10 ?_
  refine AW.chk (fun g8 => ?_)
  refine AW.last (pc := 11) dL_gives_11 (k0e g8.1) (kct (k0e g8.1) rfl hct) g8.2 ?_
  refine AW.genM (fun M9 => ?_)
  refine AW.goto (pc := 12) 19 dL_gives_12 (by decide) ?_
  refine AW.iconst (pc := 19) dL_gives_19 ci_0 ?_
  exact AW.iret (pc := 20) dL_gives_20 rfl (fun _ _ _ => rfl) (Nat.le_of_ble_eq_true rfl) (Nat.le_of_ble_eq_true rfl)
-- GateBoxLaw.next(LGateBox;III[J)I
def zL_next (x0 : Nat) (x1 : Int32) (x2 : Int32) (x3 : Int32) (x4 : Nat) (M : Mem) : Option (Int32 × Mem) :=
  if K0 x0 = (0, 11) then
  bndK (zX11_next x0 x1 x2 x3 M) (fun k5 M4 => if k5 = 0 then some (1, M4) else none) fun v1 M2 =>
  if (K0 x4).1 = 2 ∧ inb 0 (K0 x4).2 = true then
  lt (sL M2 x4 (Int32.toNatClampNeg 0) (Int32.toInt64 v1)) fun M9 =>
  some (0, M9)
  else none
  else none
set_option maxRecDepth 20000 in
set_option maxHeartbeats 4000000 in
theorem kL_next (l : Launch) (E : Ev) (hst : l.stackTraces = false) (n : Nat) (hn : 14 ≤ n) (ct : Nat) (hct : 111 ≤ ct) (x0 : Nat) (x1 : Int32) (x2 : Int32) (x3 : Int32) (x4 : Nat) (M : Mem) : AMW l E n ct yL_next fL_next enI [.ref (ad E x0), .int x1, .int x2, .int x3, .ref (ad E x4)] M (zL_next x0 x1 x2 x3 x4 M) := by
  unfold zL_next
  refine AMW.of (by decide +kernel) ⟨rfl, rfl⟩ (Nat.le_of_ble_eq_true rfl) ?_
  refine AW.aload (pc := 0) dL_next_0 4 rfl ?_
  refine AW.iconst (pc := 2) dL_next_2 ci_0 ?_
  refine AW.aload_n (pc := 3) dL_next_3 rfl 0 rfl ?_
  refine AW.iload_n (pc := 4) dL_next_4 rfl 1 rfl ?_
  refine AW.iload_n (pc := 5) dL_next_5 rfl 2 rfl ?_
  refine AW.iload_n (pc := 6) dL_next_6 rfl 3 rfl ?_
  refine AW.chk (fun g3 => ?_)
  refine AW.callC [.int x1, .int x2, .int x3] [.int 0, .ref (ad E x4)] (pc := 7) (by decide) dL_next_7 mlL_31 mbX11_next rfl g3 (kct g3 rfl hct) (fun _ => okR_M (by omega) (Nat.le_of_ble_eq_true rfl) (Nat.le_of_ble_eq_true rfl)) (kX11_next l E hst (n - 1) (by omega) ct hct false x0 x1 x2 x3 M) rfl (Nat.le_of_ble_eq_true rfl) (fun k5 M4 h6 => ?_) (fun v1 M2 => ?_)
  · by_cases h7 : k5 = 0
    · subst h7
      refine ⟨by decide, 15, ⟨[], ⟨0, 12, 15, 13⟩, [], rfl, by decide, by decide, rfl, clL_13, (fun z hz => absurd hz List.not_mem_nil)⟩, fun q => ?_⟩
      refine AW.eqF (F' := some (1, M4)) rfl ?_
      refine AW.astore (pc := 15) [] [] dL_next_15 (by decide) rfl ?_
      refine AW.iconst (pc := 17) dL_next_17 ci_1 ?_
      exact AW.iret (pc := 18) dL_next_18 rfl (fun _ _ _ => rfl) (Nat.le_of_ble_eq_true rfl) (Nat.le_of_ble_eq_true rfl)
    exact absurd (by simp only [if_neg h7]) h6
  refine AW.i2l (pc := 10) dL_next_10 ?_
  refine AW.chk (fun g8 => ?_)
  refine AW.last (pc := 11) dL_next_11 (k0e g8.1) (kct (k0e g8.1) rfl hct) g8.2 ?_
  refine AW.genM (fun M9 => ?_)
  refine AW.goto (pc := 12) 19 dL_next_12 (by decide) ?_
  refine AW.iconst (pc := 19) dL_next_19 ci_0 ?_
  exact AW.iret (pc := 20) dL_next_20 rfl (fun _ _ _ => rfl) (Nat.le_of_ble_eq_true rfl) (Nat.le_of_ble_eq_true rfl)
-- GateBoxLaw.seed(LGateBox;II)I
def zL_seed (x0 : Nat) (x1 : Int32) (x2 : Int32) (M : Mem) : Option (Int32 × Mem) :=
  if K0 x0 = (0, 11) then
  bndK (zX11_seed x0 x1 x2 M) (fun k4 M3 => if k4 = 0 then some (1, M3) else none) fun _ M1 =>
  some (0, M1)
  else none
set_option maxRecDepth 20000 in
set_option maxHeartbeats 4000000 in
theorem kL_seed (l : Launch) (E : Ev) (hst : l.stackTraces = false) (n : Nat) (hn : 14 ≤ n) (ct : Nat) (hct : 111 ≤ ct) (x0 : Nat) (x1 : Int32) (x2 : Int32) (M : Mem) : AMW l E n ct yL_seed fL_seed enI [.ref (ad E x0), .int x1, .int x2] M (zL_seed x0 x1 x2 M) := by
  unfold zL_seed
  refine AMW.of (by decide +kernel) ⟨rfl, rfl⟩ (Nat.le_of_ble_eq_true rfl) ?_
  refine AW.aload_n (pc := 0) dL_seed_0 rfl 0 rfl ?_
  refine AW.iload_n (pc := 1) dL_seed_1 rfl 1 rfl ?_
  refine AW.iload_n (pc := 2) dL_seed_2 rfl 2 rfl ?_
  refine AW.chk (fun g2 => ?_)
  refine AW.callC [.int x1, .int x2] [] (pc := 3) (by decide) dL_seed_3 mlL_34 mbX11_seed rfl g2 (kct g2 rfl hct) (fun _ => okR_M (by omega) (Nat.le_of_ble_eq_true rfl) (Nat.le_of_ble_eq_true rfl)) (kX11_seed l E hst (n - 1) (by omega) ct hct false x0 x1 x2 M) rfl (Nat.le_of_ble_eq_true rfl) (fun k4 M3 h5 => ?_) (fun _ M1 => ?_)
  · by_cases h6 : k4 = 0
    · subst h6
      refine ⟨by decide, 9, ⟨[], ⟨0, 6, 9, 13⟩, [], rfl, by decide, by decide, rfl, clL_13, (fun z hz => absurd hz List.not_mem_nil)⟩, fun q => ?_⟩
      refine AW.eqF (F' := some (1, M3)) rfl ?_
      refine AW.astore_n (pc := 9) [] [] dL_seed_9 rfl (by decide) rfl ?_
      refine AW.iconst (pc := 10) dL_seed_10 ci_1 ?_
      exact AW.iret (pc := 11) dL_seed_11 rfl (fun _ _ _ => rfl) (Nat.le_of_ble_eq_true rfl) (Nat.le_of_ble_eq_true rfl)
    exact absurd (by simp only [if_neg h6]) h5
  refine AW.goto (pc := 6) 12 dL_seed_6 (by decide) ?_
  refine AW.iconst (pc := 12) dL_seed_12 ci_0 ?_
  exact AW.iret (pc := 13) dL_seed_13 rfl (fun _ _ _ => rfl) (Nat.le_of_ble_eq_true rfl) (Nat.le_of_ble_eq_true rfl)
-- GateBoxLaw.set(LGateBox;II[J)I
def zL_set (x0 : Nat) (x1 : Int32) (x2 : Int32) (x3 : Nat) (M : Mem) : Option (Int32 × Mem) :=
  if K0 x0 = (0, 11) then
  bndK (zX11_set x0 x1 x2 M) (fun k5 M4 => if k5 = 0 then some (1, M4) else none) fun v1 M2 =>
  if v1 = 0 then
    if (K0 x3).1 = 2 ∧ inb 0 (K0 x3).2 = true then
    lt (sL M2 x3 (Int32.toNatClampNeg 0) 0) fun M10 =>
    some (0, M10)
    else none
  else
    if (K0 x3).1 = 2 ∧ inb 0 (K0 x3).2 = true then
    lt (sL M2 x3 (Int32.toNatClampNeg 0) 1) fun M12 =>
    some (0, M12)
    else none
  else none
set_option maxRecDepth 20000 in
set_option maxHeartbeats 4000000 in
theorem kL_set (l : Launch) (E : Ev) (hst : l.stackTraces = false) (n : Nat) (hn : 14 ≤ n) (ct : Nat) (hct : 111 ≤ ct) (x0 : Nat) (x1 : Int32) (x2 : Int32) (x3 : Nat) (M : Mem) : AMW l E n ct yL_set fL_set enI [.ref (ad E x0), .int x1, .int x2, .ref (ad E x3)] M (zL_set x0 x1 x2 x3 M) := by
  unfold zL_set
  refine AMW.of (by decide +kernel) ⟨rfl, rfl⟩ (Nat.le_of_ble_eq_true rfl) ?_
  refine AW.aload_n (pc := 0) dL_set_0 rfl 3 rfl ?_
  refine AW.iconst (pc := 1) dL_set_1 ci_0 ?_
  refine AW.aload_n (pc := 2) dL_set_2 rfl 0 rfl ?_
  refine AW.iload_n (pc := 3) dL_set_3 rfl 1 rfl ?_
  refine AW.iload_n (pc := 4) dL_set_4 rfl 2 rfl ?_
  refine AW.chk (fun g3 => ?_)
  refine AW.callC [.int x1, .int x2] [.int 0, .ref (ad E x3)] (pc := 5) (by decide) dL_set_5 mlL_38 mbX11_set rfl g3 (kct g3 rfl hct) (fun _ => okR_M (by omega) (Nat.le_of_ble_eq_true rfl) (Nat.le_of_ble_eq_true rfl)) (kX11_set l E hst (n - 1) (by omega) ct hct false x0 x1 x2 M) rfl (Nat.le_of_ble_eq_true rfl) (fun k5 M4 h6 => ?_) (fun v1 M2 => ?_)
  · by_cases h7 : k5 = 0
    · subst h7
      refine ⟨by decide, 20, ⟨[], ⟨0, 17, 20, 13⟩, [], rfl, by decide, by decide, rfl, clL_13, (fun z hz => absurd hz List.not_mem_nil)⟩, fun q => ?_⟩
      refine AW.eqF (F' := some (1, M4)) rfl ?_
      refine AW.astore (pc := 20) [] [] dL_set_20 (by decide) rfl ?_
      refine AW.iconst (pc := 22) dL_set_22 ci_1 ?_
      exact AW.iret (pc := 23) dL_set_23 rfl (fun _ _ _ => rfl) (Nat.le_of_ble_eq_true rfl) (Nat.le_of_ble_eq_true rfl)
    exact absurd (by simp only [if_neg h7]) h6
  refine AW.if_eq (pc := 8) 15 dL_set_8 (by decide) (fun h8 => ?_) (fun h8 => ?_)
  · refine AW.lconst (pc := 15) dL_set_15 cl_0 ?_
    refine AW.chk (fun g9 => ?_)
    refine AW.last (pc := 16) dL_set_16 (k0e g9.1) (kct (k0e g9.1) rfl hct) g9.2 ?_
    refine AW.genM (fun M10 => ?_)
    refine AW.goto (pc := 17) 24 dL_set_17 (by decide) ?_
    refine AW.iconst (pc := 24) dL_set_24 ci_0 ?_
    exact AW.iret (pc := 25) dL_set_25 rfl (fun _ _ _ => rfl) (Nat.le_of_ble_eq_true rfl) (Nat.le_of_ble_eq_true rfl)
  · refine AW.lconst (pc := 11) dL_set_11 cl_1 ?_
    refine AW.goto (pc := 12) 16 dL_set_12 (by decide) ?_
    refine AW.chk (fun g11 => ?_)
    refine AW.last (pc := 16) dL_set_16 (k0e g11.1) (kct (k0e g11.1) rfl hct) g11.2 ?_
    refine AW.genM (fun M12 => ?_)
    refine AW.goto (pc := 17) 24 dL_set_17 (by decide) ?_
    refine AW.iconst (pc := 24) dL_set_24 ci_0 ?_
    exact AW.iret (pc := 25) dL_set_25 rfl (fun _ _ _ => rfl) (Nat.le_of_ble_eq_true rfl) (Nat.le_of_ble_eq_true rfl)
-- GateBoxLaw.coin(LGateBox;III[J)I
def zL_coin (x0 : Nat) (x1 : Int32) (x2 : Int32) (x3 : Int32) (x4 : Nat) (M : Mem) : Option (Int32 × Mem) :=
  if K0 x0 = (0, 11) then
  bndK (zX11_coin x0 x1 x2 x3 M) (fun k5 M4 => if k5 = 0 then some (1, M4) else if k5 = 1 then some (2, M4) else none) fun v1 M2 =>
  if (K0 x4).1 = 2 ∧ inb 0 (K0 x4).2 = true then
  lt (sL M2 x4 (Int32.toNatClampNeg 0) (Int32.toInt64 v1)) fun M10 =>
  some (0, M10)
  else none
  else none
set_option maxRecDepth 20000 in
set_option maxHeartbeats 4000000 in
theorem kL_coin (l : Launch) (E : Ev) (hst : l.stackTraces = false) (n : Nat) (hn : 14 ≤ n) (ct : Nat) (hct : 111 ≤ ct) (x0 : Nat) (x1 : Int32) (x2 : Int32) (x3 : Int32) (x4 : Nat) (M : Mem) : AMW l E n ct yL_coin fL_coin enI [.ref (ad E x0), .int x1, .int x2, .int x3, .ref (ad E x4)] M (zL_coin x0 x1 x2 x3 x4 M) := by
  unfold zL_coin
  refine AMW.of (by decide +kernel) ⟨rfl, rfl⟩ (Nat.le_of_ble_eq_true rfl) ?_
  refine AW.aload (pc := 0) dL_coin_0 4 rfl ?_
  refine AW.iconst (pc := 2) dL_coin_2 ci_0 ?_
  refine AW.aload_n (pc := 3) dL_coin_3 rfl 0 rfl ?_
  refine AW.iload_n (pc := 4) dL_coin_4 rfl 1 rfl ?_
  refine AW.iload_n (pc := 5) dL_coin_5 rfl 2 rfl ?_
  refine AW.iload_n (pc := 6) dL_coin_6 rfl 3 rfl ?_
  refine AW.chk (fun g3 => ?_)
  refine AW.callC [.int x1, .int x2, .int x3] [.int 0, .ref (ad E x4)] (pc := 7) (by decide) dL_coin_7 mlL_42 mbX11_coin rfl g3 (kct g3 rfl hct) (fun _ => okR_M (by omega) (Nat.le_of_ble_eq_true rfl) (Nat.le_of_ble_eq_true rfl)) (kX11_coin l E hst (n - 1) (by omega) ct hct false x0 x1 x2 x3 M) rfl (Nat.le_of_ble_eq_true rfl) (fun k5 M4 h6 => ?_) (fun v1 M2 => ?_)
  · by_cases h7 : k5 = 0
    · subst h7
      refine ⟨by decide, 15, ⟨[], ⟨0, 12, 15, 13⟩, [⟨0, 12, 19, 15⟩], rfl, by decide, by decide, rfl, clL_13, (fun z hz => absurd hz List.not_mem_nil)⟩, fun q => ?_⟩
      refine AW.eqF (F' := some (1, M4)) rfl ?_
      refine AW.astore (pc := 15) [] [] dL_coin_15 (by decide) rfl ?_
      refine AW.iconst (pc := 17) dL_coin_17 ci_1 ?_
      exact AW.iret (pc := 18) dL_coin_18 rfl (fun _ _ _ => rfl) (Nat.le_of_ble_eq_true rfl) (Nat.le_of_ble_eq_true rfl)
    by_cases h8 : k5 = 1
    · subst h8
      refine ⟨by decide, 19, ⟨[⟨0, 12, 15, 13⟩], ⟨0, 12, 19, 15⟩, [], rfl, by decide, by decide, rfl, clL_15, (fun z hz => by rw [List.mem_singleton.mp hz]; exact ⟨by decide, rfl, clL_13⟩)⟩, fun q => ?_⟩
      refine AW.eqF (F' := some (2, M4)) rfl ?_
      refine AW.astore (pc := 19) [] [] dL_coin_19 (by decide) rfl ?_
      refine AW.iconst (pc := 21) dL_coin_21 ci_2 ?_
      exact AW.iret (pc := 22) dL_coin_22 rfl (fun _ _ _ => rfl) (Nat.le_of_ble_eq_true rfl) (Nat.le_of_ble_eq_true rfl)
    exact absurd (by simp only [if_neg h7, if_neg h8]) h6
  refine AW.i2l (pc := 10) dL_coin_10 ?_
  refine AW.chk (fun g9 => ?_)
  refine AW.last (pc := 11) dL_coin_11 (k0e g9.1) (kct (k0e g9.1) rfl hct) g9.2 ?_
  refine AW.genM (fun M10 => ?_)
  refine AW.goto (pc := 12) 23 dL_coin_12 (by decide) ?_
  refine AW.iconst (pc := 23) dL_coin_23 ci_0 ?_
  exact AW.iret (pc := 24) dL_coin_24 rfl (fun _ _ _ => rfl) (Nat.le_of_ble_eq_true rfl) (Nat.le_of_ble_eq_true rfl)
-- GateBoxLaw.cases(LGateBox;III[J)I
def zL_cases (x0 : Nat) (x1 : Int32) (x2 : Int32) (x3 : Int32) (x4 : Nat) (M : Mem) : Option (Int32 × Mem) :=
  if K0 x0 = (0, 11) then
  bndK (zX11_cases x0 x1 x2 x3 M) (fun k5 M4 => if k5 = 0 then some (1, M4) else if k5 = 1 then some (2, M4) else none) fun v1 M2 =>
  if (K0 x4).1 = 2 ∧ inb 0 (K0 x4).2 = true then
  lt (sL M2 x4 (Int32.toNatClampNeg 0) (Int32.toInt64 v1)) fun M10 =>
  some (0, M10)
  else none
  else none
set_option maxRecDepth 20000 in
set_option maxHeartbeats 4000000 in
theorem kL_cases (l : Launch) (E : Ev) (hst : l.stackTraces = false) (n : Nat) (hn : 14 ≤ n) (ct : Nat) (hct : 111 ≤ ct) (x0 : Nat) (x1 : Int32) (x2 : Int32) (x3 : Int32) (x4 : Nat) (M : Mem) : AMW l E n ct yL_cases fL_cases enI [.ref (ad E x0), .int x1, .int x2, .int x3, .ref (ad E x4)] M (zL_cases x0 x1 x2 x3 x4 M) := by
  unfold zL_cases
  refine AMW.of (by decide +kernel) ⟨rfl, rfl⟩ (Nat.le_of_ble_eq_true rfl) ?_
  refine AW.aload (pc := 0) dL_cases_0 4 rfl ?_
  refine AW.iconst (pc := 2) dL_cases_2 ci_0 ?_
  refine AW.aload_n (pc := 3) dL_cases_3 rfl 0 rfl ?_
  refine AW.iload_n (pc := 4) dL_cases_4 rfl 1 rfl ?_
  refine AW.iload_n (pc := 5) dL_cases_5 rfl 2 rfl ?_
  refine AW.iload_n (pc := 6) dL_cases_6 rfl 3 rfl ?_
  refine AW.chk (fun g3 => ?_)
  refine AW.callC [.int x1, .int x2, .int x3] [.int 0, .ref (ad E x4)] (pc := 7) (by decide) dL_cases_7 mlL_45 mbX11_cases rfl g3 (kct g3 rfl hct) (fun _ => okR_M (by omega) (Nat.le_of_ble_eq_true rfl) (Nat.le_of_ble_eq_true rfl)) (kX11_cases l E hst (n - 1) (by omega) ct hct false x0 x1 x2 x3 M) rfl (Nat.le_of_ble_eq_true rfl) (fun k5 M4 h6 => ?_) (fun v1 M2 => ?_)
  · by_cases h7 : k5 = 0
    · subst h7
      refine ⟨by decide, 15, ⟨[], ⟨0, 12, 15, 13⟩, [⟨0, 12, 19, 15⟩], rfl, by decide, by decide, rfl, clL_13, (fun z hz => absurd hz List.not_mem_nil)⟩, fun q => ?_⟩
      refine AW.eqF (F' := some (1, M4)) rfl ?_
      refine AW.astore (pc := 15) [] [] dL_cases_15 (by decide) rfl ?_
      refine AW.iconst (pc := 17) dL_cases_17 ci_1 ?_
      exact AW.iret (pc := 18) dL_cases_18 rfl (fun _ _ _ => rfl) (Nat.le_of_ble_eq_true rfl) (Nat.le_of_ble_eq_true rfl)
    by_cases h8 : k5 = 1
    · subst h8
      refine ⟨by decide, 19, ⟨[⟨0, 12, 15, 13⟩], ⟨0, 12, 19, 15⟩, [], rfl, by decide, by decide, rfl, clL_15, (fun z hz => by rw [List.mem_singleton.mp hz]; exact ⟨by decide, rfl, clL_13⟩)⟩, fun q => ?_⟩
      refine AW.eqF (F' := some (2, M4)) rfl ?_
      refine AW.astore (pc := 19) [] [] dL_cases_19 (by decide) rfl ?_
      refine AW.iconst (pc := 21) dL_cases_21 ci_2 ?_
      exact AW.iret (pc := 22) dL_cases_22 rfl (fun _ _ _ => rfl) (Nat.le_of_ble_eq_true rfl) (Nat.le_of_ble_eq_true rfl)
    exact absurd (by simp only [if_neg h7, if_neg h8]) h6
  refine AW.i2l (pc := 10) dL_cases_10 ?_
  refine AW.chk (fun g9 => ?_)
  refine AW.last (pc := 11) dL_cases_11 (k0e g9.1) (kct (k0e g9.1) rfl hct) g9.2 ?_
  refine AW.genM (fun M10 => ?_)
  refine AW.goto (pc := 12) 23 dL_cases_12 (by decide) ?_
  refine AW.iconst (pc := 23) dL_cases_23 ci_0 ?_
  exact AW.iret (pc := 24) dL_cases_24 rfl (fun _ _ _ => rfl) (Nat.le_of_ble_eq_true rfl) (Nat.le_of_ble_eq_true rfl)
-- GateBoxLaw.drift(LGateBox;II[J)I
def zL_drift (x0 : Nat) (x1 : Int32) (x2 : Int32) (x3 : Nat) (M : Mem) : Option (Int32 × Mem) :=
  if K0 x0 = (0, 11) then
  bndK (zX11_drift x0 x1 x2 M) (fun k5 M4 => if k5 = 0 then some (1, M4) else if k5 = 1 then some (2, M4) else none) fun v1 M2 =>
  if (K0 x3).1 = 2 ∧ inb 0 (K0 x3).2 = true then
  lt (sL M2 x3 (Int32.toNatClampNeg 0) (Int32.toInt64 v1)) fun M10 =>
  some (0, M10)
  else none
  else none
set_option maxRecDepth 20000 in
set_option maxHeartbeats 4000000 in
theorem kL_drift (l : Launch) (E : Ev) (hst : l.stackTraces = false) (n : Nat) (hn : 14 ≤ n) (ct : Nat) (hct : 111 ≤ ct) (x0 : Nat) (x1 : Int32) (x2 : Int32) (x3 : Nat) (M : Mem) : AMW l E n ct yL_drift fL_drift enI [.ref (ad E x0), .int x1, .int x2, .ref (ad E x3)] M (zL_drift x0 x1 x2 x3 M) := by
  unfold zL_drift
  refine AMW.of (by decide +kernel) ⟨rfl, rfl⟩ (Nat.le_of_ble_eq_true rfl) ?_
  refine AW.aload_n (pc := 0) dL_drift_0 rfl 3 rfl ?_
  refine AW.iconst (pc := 1) dL_drift_1 ci_0 ?_
  refine AW.aload_n (pc := 2) dL_drift_2 rfl 0 rfl ?_
  refine AW.iload_n (pc := 3) dL_drift_3 rfl 1 rfl ?_
  refine AW.iload_n (pc := 4) dL_drift_4 rfl 2 rfl ?_
  refine AW.chk (fun g3 => ?_)
  refine AW.callC [.int x1, .int x2] [.int 0, .ref (ad E x3)] (pc := 5) (by decide) dL_drift_5 mlL_48 mbX11_drift rfl g3 (kct g3 rfl hct) (fun _ => okR_M (by omega) (Nat.le_of_ble_eq_true rfl) (Nat.le_of_ble_eq_true rfl)) (kX11_drift l E hst (n - 1) (by omega) ct hct false x0 x1 x2 M) rfl (Nat.le_of_ble_eq_true rfl) (fun k5 M4 h6 => ?_) (fun v1 M2 => ?_)
  · by_cases h7 : k5 = 0
    · subst h7
      refine ⟨by decide, 13, ⟨[], ⟨0, 10, 13, 13⟩, [⟨0, 10, 17, 15⟩], rfl, by decide, by decide, rfl, clL_13, (fun z hz => absurd hz List.not_mem_nil)⟩, fun q => ?_⟩
      refine AW.eqF (F' := some (1, M4)) rfl ?_
      refine AW.astore (pc := 13) [] [] dL_drift_13 (by decide) rfl ?_
      refine AW.iconst (pc := 15) dL_drift_15 ci_1 ?_
      exact AW.iret (pc := 16) dL_drift_16 rfl (fun _ _ _ => rfl) (Nat.le_of_ble_eq_true rfl) (Nat.le_of_ble_eq_true rfl)
    by_cases h8 : k5 = 1
    · subst h8
      refine ⟨by decide, 17, ⟨[⟨0, 10, 13, 13⟩], ⟨0, 10, 17, 15⟩, [], rfl, by decide, by decide, rfl, clL_15, (fun z hz => by rw [List.mem_singleton.mp hz]; exact ⟨by decide, rfl, clL_13⟩)⟩, fun q => ?_⟩
      refine AW.eqF (F' := some (2, M4)) rfl ?_
      refine AW.astore (pc := 17) [] [] dL_drift_17 (by decide) rfl ?_
      refine AW.iconst (pc := 19) dL_drift_19 ci_2 ?_
      exact AW.iret (pc := 20) dL_drift_20 rfl (fun _ _ _ => rfl) (Nat.le_of_ble_eq_true rfl) (Nat.le_of_ble_eq_true rfl)
    exact absurd (by simp only [if_neg h7, if_neg h8]) h6
  refine AW.i2l (pc := 8) dL_drift_8 ?_
  refine AW.chk (fun g9 => ?_)
  refine AW.last (pc := 9) dL_drift_9 (k0e g9.1) (kct (k0e g9.1) rfl hct) g9.2 ?_
  refine AW.genM (fun M10 => ?_)
  refine AW.goto (pc := 10) 21 dL_drift_10 (by decide) ?_
  refine AW.iconst (pc := 21) dL_drift_21 ci_0 ?_
  exact AW.iret (pc := 22) dL_drift_22 rfl (fun _ _ _ => rfl) (Nat.le_of_ble_eq_true rfl) (Nat.le_of_ble_eq_true rfl)
-- GateBoxLaw.turn(LGateBox;II[J)I
def zL_turn (x0 : Nat) (x1 : Int32) (x2 : Int32) (x3 : Nat) (M : Mem) : Option (Int32 × Mem) :=
  if K0 x0 = (0, 11) then
  bndK (zX11_turn x0 x1 x2 M) (fun k5 M4 => if k5 = 0 then some (1, M4) else none) fun v1 M2 =>
  if (K0 x3).1 = 2 ∧ inb 0 (K0 x3).2 = true then
  lt (sL M2 x3 (Int32.toNatClampNeg 0) (Int32.toInt64 v1)) fun M9 =>
  some (0, M9)
  else none
  else none
set_option maxRecDepth 20000 in
set_option maxHeartbeats 4000000 in
theorem kL_turn (l : Launch) (E : Ev) (hst : l.stackTraces = false) (n : Nat) (hn : 14 ≤ n) (ct : Nat) (hct : 111 ≤ ct) (x0 : Nat) (x1 : Int32) (x2 : Int32) (x3 : Nat) (M : Mem) : AMW l E n ct yL_turn fL_turn enI [.ref (ad E x0), .int x1, .int x2, .ref (ad E x3)] M (zL_turn x0 x1 x2 x3 M) := by
  unfold zL_turn
  refine AMW.of (by decide +kernel) ⟨rfl, rfl⟩ (Nat.le_of_ble_eq_true rfl) ?_
  refine AW.aload_n (pc := 0) dL_turn_0 rfl 3 rfl ?_
  refine AW.iconst (pc := 1) dL_turn_1 ci_0 ?_
  refine AW.aload_n (pc := 2) dL_turn_2 rfl 0 rfl ?_
  refine AW.iload_n (pc := 3) dL_turn_3 rfl 1 rfl ?_
  refine AW.iload_n (pc := 4) dL_turn_4 rfl 2 rfl ?_
  refine AW.chk (fun g3 => ?_)
  refine AW.callC [.int x1, .int x2] [.int 0, .ref (ad E x3)] (pc := 5) (by decide) dL_turn_5 mlL_51 mbX11_turn rfl g3 (kct g3 rfl hct) (fun _ => okR_M (by omega) (Nat.le_of_ble_eq_true rfl) (Nat.le_of_ble_eq_true rfl)) (kX11_turn l E hst (n - 1) (by omega) ct hct false x0 x1 x2 M) rfl (Nat.le_of_ble_eq_true rfl) (fun k5 M4 h6 => ?_) (fun v1 M2 => ?_)
  · by_cases h7 : k5 = 0
    · subst h7
      refine ⟨by decide, 13, ⟨[], ⟨0, 10, 13, 13⟩, [], rfl, by decide, by decide, rfl, clL_13, (fun z hz => absurd hz List.not_mem_nil)⟩, fun q => ?_⟩
      refine AW.eqF (F' := some (1, M4)) rfl ?_
      refine AW.astore (pc := 13) [] [] dL_turn_13 (by decide) rfl ?_
      refine AW.iconst (pc := 15) dL_turn_15 ci_1 ?_
      exact AW.iret (pc := 16) dL_turn_16 rfl (fun _ _ _ => rfl) (Nat.le_of_ble_eq_true rfl) (Nat.le_of_ble_eq_true rfl)
    exact absurd (by simp only [if_neg h7]) h6
  refine AW.i2l (pc := 8) dL_turn_8 ?_
  refine AW.chk (fun g8 => ?_)
  refine AW.last (pc := 9) dL_turn_9 (k0e g8.1) (kct (k0e g8.1) rfl hct) g8.2 ?_
  refine AW.genM (fun M9 => ?_)
  refine AW.goto (pc := 10) 17 dL_turn_10 (by decide) ?_
  refine AW.iconst (pc := 17) dL_turn_17 ci_0 ?_
  exact AW.iret (pc := 18) dL_turn_18 rfl (fun _ _ _ => rfl) (Nat.le_of_ble_eq_true rfl) (Nat.le_of_ble_eq_true rfl)
-- GateBoxLaw.rest(LGateBox;III[J)I
def zL_rest (x0 : Nat) (x1 : Int32) (x2 : Int32) (x3 : Int32) (x4 : Nat) (M : Mem) : Option (Int32 × Mem) :=
  if K0 x0 = (0, 11) then
  bndK (zX11_rest x0 x1 x2 x3 M) (fun k5 M4 => if k5 = 0 then some (1, M4) else none) fun v1 M2 =>
  if (K0 x4).1 = 2 ∧ inb 0 (K0 x4).2 = true then
  lt (sL M2 x4 (Int32.toNatClampNeg 0) (Int32.toInt64 v1)) fun M9 =>
  some (0, M9)
  else none
  else none
set_option maxRecDepth 20000 in
set_option maxHeartbeats 4000000 in
theorem kL_rest (l : Launch) (E : Ev) (hst : l.stackTraces = false) (n : Nat) (hn : 14 ≤ n) (ct : Nat) (hct : 111 ≤ ct) (x0 : Nat) (x1 : Int32) (x2 : Int32) (x3 : Int32) (x4 : Nat) (M : Mem) : AMW l E n ct yL_rest fL_rest enI [.ref (ad E x0), .int x1, .int x2, .int x3, .ref (ad E x4)] M (zL_rest x0 x1 x2 x3 x4 M) := by
  unfold zL_rest
  refine AMW.of (by decide +kernel) ⟨rfl, rfl⟩ (Nat.le_of_ble_eq_true rfl) ?_
  refine AW.aload (pc := 0) dL_rest_0 4 rfl ?_
  refine AW.iconst (pc := 2) dL_rest_2 ci_0 ?_
  refine AW.aload_n (pc := 3) dL_rest_3 rfl 0 rfl ?_
  refine AW.iload_n (pc := 4) dL_rest_4 rfl 1 rfl ?_
  refine AW.iload_n (pc := 5) dL_rest_5 rfl 2 rfl ?_
  refine AW.iload_n (pc := 6) dL_rest_6 rfl 3 rfl ?_
  refine AW.chk (fun g3 => ?_)
  refine AW.callC [.int x1, .int x2, .int x3] [.int 0, .ref (ad E x4)] (pc := 7) (by decide) dL_rest_7 mlL_54 mbX11_rest rfl g3 (kct g3 rfl hct) (fun _ => okR_M (by omega) (Nat.le_of_ble_eq_true rfl) (Nat.le_of_ble_eq_true rfl)) (kX11_rest l E hst (n - 1) (by omega) ct hct false x0 x1 x2 x3 M) rfl (Nat.le_of_ble_eq_true rfl) (fun k5 M4 h6 => ?_) (fun v1 M2 => ?_)
  · by_cases h7 : k5 = 0
    · subst h7
      refine ⟨by decide, 15, ⟨[], ⟨0, 12, 15, 13⟩, [], rfl, by decide, by decide, rfl, clL_13, (fun z hz => absurd hz List.not_mem_nil)⟩, fun q => ?_⟩
      refine AW.eqF (F' := some (1, M4)) rfl ?_
      refine AW.astore (pc := 15) [] [] dL_rest_15 (by decide) rfl ?_
      refine AW.iconst (pc := 17) dL_rest_17 ci_1 ?_
      exact AW.iret (pc := 18) dL_rest_18 rfl (fun _ _ _ => rfl) (Nat.le_of_ble_eq_true rfl) (Nat.le_of_ble_eq_true rfl)
    exact absurd (by simp only [if_neg h7]) h6
  refine AW.i2l (pc := 10) dL_rest_10 ?_
  refine AW.chk (fun g8 => ?_)
  refine AW.last (pc := 11) dL_rest_11 (k0e g8.1) (kct (k0e g8.1) rfl hct) g8.2 ?_
  refine AW.genM (fun M9 => ?_)
  refine AW.goto (pc := 12) 19 dL_rest_12 (by decide) ?_
  refine AW.iconst (pc := 19) dL_rest_19 ci_0 ?_
  exact AW.iret (pc := 20) dL_rest_20 rfl (fun _ _ _ => rfl) (Nat.le_of_ble_eq_true rfl) (Nat.le_of_ble_eq_true rfl)
-- GateBoxLaw.best(LGateBox;IIII[J)I
def zL_best (x0 : Nat) (x1 : Int32) (x2 : Int32) (x3 : Int32) (x4 : Int32) (x5 : Nat) (M : Mem) : Option (Int32 × Mem) :=
  if K0 x0 = (0, 11) then
  bndK (zX11_best x0 x1 x2 x3 x4 M) (fun k5 M4 => if k5 = 0 then some (1, M4) else if k5 = 1 then some (2, M4) else none) fun v1 M2 =>
  if (K0 x5).1 = 2 ∧ inb 0 (K0 x5).2 = true then
  lt (sL M2 x5 (Int32.toNatClampNeg 0) (Int32.toInt64 v1)) fun M10 =>
  some (0, M10)
  else none
  else none
set_option maxRecDepth 20000 in
set_option maxHeartbeats 4000000 in
theorem kL_best (l : Launch) (E : Ev) (hst : l.stackTraces = false) (n : Nat) (hn : 14 ≤ n) (ct : Nat) (hct : 111 ≤ ct) (x0 : Nat) (x1 : Int32) (x2 : Int32) (x3 : Int32) (x4 : Int32) (x5 : Nat) (M : Mem) : AMW l E n ct yL_best fL_best enI [.ref (ad E x0), .int x1, .int x2, .int x3, .int x4, .ref (ad E x5)] M (zL_best x0 x1 x2 x3 x4 x5 M) := by
  unfold zL_best
  refine AMW.of (by decide +kernel) ⟨rfl, rfl⟩ (Nat.le_of_ble_eq_true rfl) ?_
  refine AW.aload (pc := 0) dL_best_0 5 rfl ?_
  refine AW.iconst (pc := 2) dL_best_2 ci_0 ?_
  refine AW.aload_n (pc := 3) dL_best_3 rfl 0 rfl ?_
  refine AW.iload_n (pc := 4) dL_best_4 rfl 1 rfl ?_
  refine AW.iload_n (pc := 5) dL_best_5 rfl 2 rfl ?_
  refine AW.iload_n (pc := 6) dL_best_6 rfl 3 rfl ?_
  refine AW.iload (pc := 7) dL_best_7 4 rfl ?_
  refine AW.chk (fun g3 => ?_)
  refine AW.callC [.int x1, .int x2, .int x3, .int x4] [.int 0, .ref (ad E x5)] (pc := 9) (by decide) dL_best_9 mlL_57 mbX11_best rfl g3 (kct g3 rfl hct) (fun _ => okR_M (by omega) (Nat.le_of_ble_eq_true rfl) (Nat.le_of_ble_eq_true rfl)) (kX11_best l E hst (n - 1) (by omega) ct hct false x0 x1 x2 x3 x4 M) rfl (Nat.le_of_ble_eq_true rfl) (fun k5 M4 h6 => ?_) (fun v1 M2 => ?_)
  · by_cases h7 : k5 = 0
    · subst h7
      refine ⟨by decide, 17, ⟨[], ⟨0, 14, 17, 13⟩, [⟨0, 14, 21, 15⟩], rfl, by decide, by decide, rfl, clL_13, (fun z hz => absurd hz List.not_mem_nil)⟩, fun q => ?_⟩
      refine AW.eqF (F' := some (1, M4)) rfl ?_
      refine AW.astore (pc := 17) [] [] dL_best_17 (by decide) rfl ?_
      refine AW.iconst (pc := 19) dL_best_19 ci_1 ?_
      exact AW.iret (pc := 20) dL_best_20 rfl (fun _ _ _ => rfl) (Nat.le_of_ble_eq_true rfl) (Nat.le_of_ble_eq_true rfl)
    by_cases h8 : k5 = 1
    · subst h8
      refine ⟨by decide, 21, ⟨[⟨0, 14, 17, 13⟩], ⟨0, 14, 21, 15⟩, [], rfl, by decide, by decide, rfl, clL_15, (fun z hz => by rw [List.mem_singleton.mp hz]; exact ⟨by decide, rfl, clL_13⟩)⟩, fun q => ?_⟩
      refine AW.eqF (F' := some (2, M4)) rfl ?_
      refine AW.astore (pc := 21) [] [] dL_best_21 (by decide) rfl ?_
      refine AW.iconst (pc := 23) dL_best_23 ci_2 ?_
      exact AW.iret (pc := 24) dL_best_24 rfl (fun _ _ _ => rfl) (Nat.le_of_ble_eq_true rfl) (Nat.le_of_ble_eq_true rfl)
    exact absurd (by simp only [if_neg h7, if_neg h8]) h6
  refine AW.i2l (pc := 12) dL_best_12 ?_
  refine AW.chk (fun g9 => ?_)
  refine AW.last (pc := 13) dL_best_13 (k0e g9.1) (kct (k0e g9.1) rfl hct) g9.2 ?_
  refine AW.genM (fun M10 => ?_)
  refine AW.goto (pc := 14) 25 dL_best_14 (by decide) ?_
  refine AW.iconst (pc := 25) dL_best_25 ci_0 ?_
  exact AW.iret (pc := 26) dL_best_26 rfl (fun _ _ _ => rfl) (Nat.le_of_ble_eq_true rfl) (Nat.le_of_ble_eq_true rfl)
-- GateBoxLaw.would(LGateBox;III[J)I
def zL_would (x0 : Nat) (x1 : Int32) (x2 : Int32) (x3 : Int32) (x4 : Nat) (M : Mem) : Option (Int32 × Mem) :=
  if K0 x0 = (0, 11) then
  bndK (zX11_would x0 x1 x2 x3 M) (fun k5 M4 => if k5 = 0 then some (1, M4) else if k5 = 1 then some (2, M4) else none) fun v1 M2 =>
  if (K0 x4).1 = 2 ∧ inb 0 (K0 x4).2 = true then
  lt (sL M2 x4 (Int32.toNatClampNeg 0) (Int32.toInt64 v1)) fun M10 =>
  some (0, M10)
  else none
  else none
set_option maxRecDepth 20000 in
set_option maxHeartbeats 4000000 in
theorem kL_would (l : Launch) (E : Ev) (hst : l.stackTraces = false) (n : Nat) (hn : 14 ≤ n) (ct : Nat) (hct : 111 ≤ ct) (x0 : Nat) (x1 : Int32) (x2 : Int32) (x3 : Int32) (x4 : Nat) (M : Mem) : AMW l E n ct yL_would fL_would enI [.ref (ad E x0), .int x1, .int x2, .int x3, .ref (ad E x4)] M (zL_would x0 x1 x2 x3 x4 M) := by
  unfold zL_would
  refine AMW.of (by decide +kernel) ⟨rfl, rfl⟩ (Nat.le_of_ble_eq_true rfl) ?_
  refine AW.aload (pc := 0) dL_would_0 4 rfl ?_
  refine AW.iconst (pc := 2) dL_would_2 ci_0 ?_
  refine AW.aload_n (pc := 3) dL_would_3 rfl 0 rfl ?_
  refine AW.iload_n (pc := 4) dL_would_4 rfl 1 rfl ?_
  refine AW.iload_n (pc := 5) dL_would_5 rfl 2 rfl ?_
  refine AW.iload_n (pc := 6) dL_would_6 rfl 3 rfl ?_
  refine AW.chk (fun g3 => ?_)
  refine AW.callC [.int x1, .int x2, .int x3] [.int 0, .ref (ad E x4)] (pc := 7) (by decide) dL_would_7 mlL_61 mbX11_would rfl g3 (kct g3 rfl hct) (fun _ => okR_M (by omega) (Nat.le_of_ble_eq_true rfl) (Nat.le_of_ble_eq_true rfl)) (kX11_would l E hst (n - 1) (by omega) ct hct false x0 x1 x2 x3 M) rfl (Nat.le_of_ble_eq_true rfl) (fun k5 M4 h6 => ?_) (fun v1 M2 => ?_)
  · by_cases h7 : k5 = 0
    · subst h7
      refine ⟨by decide, 15, ⟨[], ⟨0, 12, 15, 13⟩, [⟨0, 12, 19, 15⟩], rfl, by decide, by decide, rfl, clL_13, (fun z hz => absurd hz List.not_mem_nil)⟩, fun q => ?_⟩
      refine AW.eqF (F' := some (1, M4)) rfl ?_
      refine AW.astore (pc := 15) [] [] dL_would_15 (by decide) rfl ?_
      refine AW.iconst (pc := 17) dL_would_17 ci_1 ?_
      exact AW.iret (pc := 18) dL_would_18 rfl (fun _ _ _ => rfl) (Nat.le_of_ble_eq_true rfl) (Nat.le_of_ble_eq_true rfl)
    by_cases h8 : k5 = 1
    · subst h8
      refine ⟨by decide, 19, ⟨[⟨0, 12, 15, 13⟩], ⟨0, 12, 19, 15⟩, [], rfl, by decide, by decide, rfl, clL_15, (fun z hz => by rw [List.mem_singleton.mp hz]; exact ⟨by decide, rfl, clL_13⟩)⟩, fun q => ?_⟩
      refine AW.eqF (F' := some (2, M4)) rfl ?_
      refine AW.astore (pc := 19) [] [] dL_would_19 (by decide) rfl ?_
      refine AW.iconst (pc := 21) dL_would_21 ci_2 ?_
      exact AW.iret (pc := 22) dL_would_22 rfl (fun _ _ _ => rfl) (Nat.le_of_ble_eq_true rfl) (Nat.le_of_ble_eq_true rfl)
    exact absurd (by simp only [if_neg h7, if_neg h8]) h6
  refine AW.i2l (pc := 10) dL_would_10 ?_
  refine AW.chk (fun g9 => ?_)
  refine AW.last (pc := 11) dL_would_11 (k0e g9.1) (kct (k0e g9.1) rfl hct) g9.2 ?_
  refine AW.genM (fun M10 => ?_)
  refine AW.goto (pc := 12) 23 dL_would_12 (by decide) ?_
  refine AW.iconst (pc := 23) dL_would_23 ci_0 ?_
  exact AW.iret (pc := 24) dL_would_24 rfl (fun _ _ _ => rfl) (Nat.le_of_ble_eq_true rfl) (Nat.le_of_ble_eq_true rfl)
-- GateBoxLaw.card(LGateBox;II[J)I
def zL_card (x0 : Nat) (x1 : Int32) (x2 : Int32) (x3 : Nat) (M : Mem) : Option (Int32 × Mem) :=
  if K0 x0 = (0, 11) then
  bndK (zX11_card x0 x1 x2 M) (fun k5 M4 => if k5 = 0 then some (1, M4) else if k5 = 1 then some (2, M4) else none) fun v1 M2 =>
  if (K0 x3).1 = 2 ∧ inb 0 (K0 x3).2 = true then
  lt (sL M2 x3 (Int32.toNatClampNeg 0) (Int32.toInt64 v1)) fun M10 =>
  some (0, M10)
  else none
  else none
set_option maxRecDepth 20000 in
set_option maxHeartbeats 4000000 in
theorem kL_card (l : Launch) (E : Ev) (hst : l.stackTraces = false) (n : Nat) (hn : 14 ≤ n) (ct : Nat) (hct : 111 ≤ ct) (x0 : Nat) (x1 : Int32) (x2 : Int32) (x3 : Nat) (M : Mem) : AMW l E n ct yL_card fL_card enI [.ref (ad E x0), .int x1, .int x2, .ref (ad E x3)] M (zL_card x0 x1 x2 x3 M) := by
  unfold zL_card
  refine AMW.of (by decide +kernel) ⟨rfl, rfl⟩ (Nat.le_of_ble_eq_true rfl) ?_
  refine AW.aload_n (pc := 0) dL_card_0 rfl 3 rfl ?_
  refine AW.iconst (pc := 1) dL_card_1 ci_0 ?_
  refine AW.aload_n (pc := 2) dL_card_2 rfl 0 rfl ?_
  refine AW.iload_n (pc := 3) dL_card_3 rfl 1 rfl ?_
  refine AW.iload_n (pc := 4) dL_card_4 rfl 2 rfl ?_
  refine AW.chk (fun g3 => ?_)
  refine AW.callC [.int x1, .int x2] [.int 0, .ref (ad E x3)] (pc := 5) (by decide) dL_card_5 mlL_64 mbX11_card rfl g3 (kct g3 rfl hct) (fun _ => okR_M (by omega) (Nat.le_of_ble_eq_true rfl) (Nat.le_of_ble_eq_true rfl)) (kX11_card l E hst (n - 1) (by omega) ct hct false x0 x1 x2 M) rfl (Nat.le_of_ble_eq_true rfl) (fun k5 M4 h6 => ?_) (fun v1 M2 => ?_)
  · by_cases h7 : k5 = 0
    · subst h7
      refine ⟨by decide, 13, ⟨[], ⟨0, 10, 13, 13⟩, [⟨0, 10, 17, 15⟩], rfl, by decide, by decide, rfl, clL_13, (fun z hz => absurd hz List.not_mem_nil)⟩, fun q => ?_⟩
      refine AW.eqF (F' := some (1, M4)) rfl ?_
      refine AW.astore (pc := 13) [] [] dL_card_13 (by decide) rfl ?_
      refine AW.iconst (pc := 15) dL_card_15 ci_1 ?_
      exact AW.iret (pc := 16) dL_card_16 rfl (fun _ _ _ => rfl) (Nat.le_of_ble_eq_true rfl) (Nat.le_of_ble_eq_true rfl)
    by_cases h8 : k5 = 1
    · subst h8
      refine ⟨by decide, 17, ⟨[⟨0, 10, 13, 13⟩], ⟨0, 10, 17, 15⟩, [], rfl, by decide, by decide, rfl, clL_15, (fun z hz => by rw [List.mem_singleton.mp hz]; exact ⟨by decide, rfl, clL_13⟩)⟩, fun q => ?_⟩
      refine AW.eqF (F' := some (2, M4)) rfl ?_
      refine AW.astore (pc := 17) [] [] dL_card_17 (by decide) rfl ?_
      refine AW.iconst (pc := 19) dL_card_19 ci_2 ?_
      exact AW.iret (pc := 20) dL_card_20 rfl (fun _ _ _ => rfl) (Nat.le_of_ble_eq_true rfl) (Nat.le_of_ble_eq_true rfl)
    exact absurd (by simp only [if_neg h7, if_neg h8]) h6
  refine AW.i2l (pc := 8) dL_card_8 ?_
  refine AW.chk (fun g9 => ?_)
  refine AW.last (pc := 9) dL_card_9 (k0e g9.1) (kct (k0e g9.1) rfl hct) g9.2 ?_
  refine AW.genM (fun M10 => ?_)
  refine AW.goto (pc := 10) 21 dL_card_10 (by decide) ?_
  refine AW.iconst (pc := 21) dL_card_21 ci_0 ?_
  exact AW.iret (pc := 22) dL_card_22 rfl (fun _ _ _ => rfl) (Nat.le_of_ble_eq_true rfl) (Nat.le_of_ble_eq_true rfl)
-- GateBoxLaw.seeded(LGateBox;II[J)I
def zL_seeded (x0 : Nat) (x1 : Int32) (x2 : Int32) (x3 : Nat) (M : Mem) : Option (Int32 × Mem) :=
  if K0 x0 = (0, 11) then
  bndK (zX11_seeded x0 x1 x2 M) (fun k5 M4 => if k5 = 0 then some (1, M4) else if k5 = 1 then some (2, M4) else none) fun v1 M2 =>
  if (K0 x3).1 = 2 ∧ inb 0 (K0 x3).2 = true then
  lt (sL M2 x3 (Int32.toNatClampNeg 0) (Int32.toInt64 v1)) fun M10 =>
  some (0, M10)
  else none
  else none
set_option maxRecDepth 20000 in
set_option maxHeartbeats 4000000 in
theorem kL_seeded (l : Launch) (E : Ev) (hst : l.stackTraces = false) (n : Nat) (hn : 14 ≤ n) (ct : Nat) (hct : 111 ≤ ct) (x0 : Nat) (x1 : Int32) (x2 : Int32) (x3 : Nat) (M : Mem) : AMW l E n ct yL_seeded fL_seeded enI [.ref (ad E x0), .int x1, .int x2, .ref (ad E x3)] M (zL_seeded x0 x1 x2 x3 M) := by
  unfold zL_seeded
  refine AMW.of (by decide +kernel) ⟨rfl, rfl⟩ (Nat.le_of_ble_eq_true rfl) ?_
  refine AW.aload_n (pc := 0) dL_seeded_0 rfl 3 rfl ?_
  refine AW.iconst (pc := 1) dL_seeded_1 ci_0 ?_
  refine AW.aload_n (pc := 2) dL_seeded_2 rfl 0 rfl ?_
  refine AW.iload_n (pc := 3) dL_seeded_3 rfl 1 rfl ?_
  refine AW.iload_n (pc := 4) dL_seeded_4 rfl 2 rfl ?_
  refine AW.chk (fun g3 => ?_)
  refine AW.callC [.int x1, .int x2] [.int 0, .ref (ad E x3)] (pc := 5) (by decide) dL_seeded_5 mlL_67 mbX11_seeded rfl g3 (kct g3 rfl hct) (fun _ => okR_M (by omega) (Nat.le_of_ble_eq_true rfl) (Nat.le_of_ble_eq_true rfl)) (kX11_seeded l E hst (n - 1) (by omega) ct hct false x0 x1 x2 M) rfl (Nat.le_of_ble_eq_true rfl) (fun k5 M4 h6 => ?_) (fun v1 M2 => ?_)
  · by_cases h7 : k5 = 0
    · subst h7
      refine ⟨by decide, 13, ⟨[], ⟨0, 10, 13, 13⟩, [⟨0, 10, 17, 15⟩], rfl, by decide, by decide, rfl, clL_13, (fun z hz => absurd hz List.not_mem_nil)⟩, fun q => ?_⟩
      refine AW.eqF (F' := some (1, M4)) rfl ?_
      refine AW.astore (pc := 13) [] [] dL_seeded_13 (by decide) rfl ?_
      refine AW.iconst (pc := 15) dL_seeded_15 ci_1 ?_
      exact AW.iret (pc := 16) dL_seeded_16 rfl (fun _ _ _ => rfl) (Nat.le_of_ble_eq_true rfl) (Nat.le_of_ble_eq_true rfl)
    by_cases h8 : k5 = 1
    · subst h8
      refine ⟨by decide, 17, ⟨[⟨0, 10, 13, 13⟩], ⟨0, 10, 17, 15⟩, [], rfl, by decide, by decide, rfl, clL_15, (fun z hz => by rw [List.mem_singleton.mp hz]; exact ⟨by decide, rfl, clL_13⟩)⟩, fun q => ?_⟩
      refine AW.eqF (F' := some (2, M4)) rfl ?_
      refine AW.astore (pc := 17) [] [] dL_seeded_17 (by decide) rfl ?_
      refine AW.iconst (pc := 19) dL_seeded_19 ci_2 ?_
      exact AW.iret (pc := 20) dL_seeded_20 rfl (fun _ _ _ => rfl) (Nat.le_of_ble_eq_true rfl) (Nat.le_of_ble_eq_true rfl)
    exact absurd (by simp only [if_neg h7, if_neg h8]) h6
  refine AW.i2l (pc := 8) dL_seeded_8 ?_
  refine AW.chk (fun g9 => ?_)
  refine AW.last (pc := 9) dL_seeded_9 (k0e g9.1) (kct (k0e g9.1) rfl hct) g9.2 ?_
  refine AW.genM (fun M10 => ?_)
  refine AW.goto (pc := 10) 21 dL_seeded_10 (by decide) ?_
  refine AW.iconst (pc := 21) dL_seeded_21 ci_0 ?_
  exact AW.iret (pc := 22) dL_seeded_22 rfl (fun _ _ _ => rfl) (Nat.le_of_ble_eq_true rfl) (Nat.le_of_ble_eq_true rfl)
-- GateBoxLaw.price(LGateBox;III[J)I
def zL_price (x0 : Nat) (x1 : Int32) (x2 : Int32) (x3 : Int32) (x4 : Nat) (M : Mem) : Option (Int32 × Mem) :=
  if K0 x0 = (0, 11) then
  bndK (zX11_price x0 x1 x2 x3 M) (fun k5 M4 => if k5 = 0 then some (1, M4) else none) fun v1 M2 =>
  if (K0 x4).1 = 2 ∧ inb 0 (K0 x4).2 = true then
  lt (sL M2 x4 (Int32.toNatClampNeg 0) (Int32.toInt64 v1)) fun M9 =>
  some (0, M9)
  else none
  else none
set_option maxRecDepth 20000 in
set_option maxHeartbeats 4000000 in
theorem kL_price (l : Launch) (E : Ev) (hst : l.stackTraces = false) (n : Nat) (hn : 14 ≤ n) (ct : Nat) (hct : 111 ≤ ct) (x0 : Nat) (x1 : Int32) (x2 : Int32) (x3 : Int32) (x4 : Nat) (M : Mem) : AMW l E n ct yL_price fL_price enI [.ref (ad E x0), .int x1, .int x2, .int x3, .ref (ad E x4)] M (zL_price x0 x1 x2 x3 x4 M) := by
  unfold zL_price
  refine AMW.of (by decide +kernel) ⟨rfl, rfl⟩ (Nat.le_of_ble_eq_true rfl) ?_
  refine AW.aload (pc := 0) dL_price_0 4 rfl ?_
  refine AW.iconst (pc := 2) dL_price_2 ci_0 ?_
  refine AW.aload_n (pc := 3) dL_price_3 rfl 0 rfl ?_
  refine AW.iload_n (pc := 4) dL_price_4 rfl 1 rfl ?_
  refine AW.iload_n (pc := 5) dL_price_5 rfl 2 rfl ?_
  refine AW.iload_n (pc := 6) dL_price_6 rfl 3 rfl ?_
  refine AW.chk (fun g3 => ?_)
  refine AW.callC [.int x1, .int x2, .int x3] [.int 0, .ref (ad E x4)] (pc := 7) (by decide) dL_price_7 mlL_70 mbX11_price rfl g3 (kct g3 rfl hct) (fun _ => okR_M (by omega) (Nat.le_of_ble_eq_true rfl) (Nat.le_of_ble_eq_true rfl)) (kX11_price l E hst (n - 1) (by omega) ct hct false x0 x1 x2 x3 M) rfl (Nat.le_of_ble_eq_true rfl) (fun k5 M4 h6 => ?_) (fun v1 M2 => ?_)
  · by_cases h7 : k5 = 0
    · subst h7
      refine ⟨by decide, 15, ⟨[], ⟨0, 12, 15, 13⟩, [], rfl, by decide, by decide, rfl, clL_13, (fun z hz => absurd hz List.not_mem_nil)⟩, fun q => ?_⟩
      refine AW.eqF (F' := some (1, M4)) rfl ?_
      refine AW.astore (pc := 15) [] [] dL_price_15 (by decide) rfl ?_
      refine AW.iconst (pc := 17) dL_price_17 ci_1 ?_
      exact AW.iret (pc := 18) dL_price_18 rfl (fun _ _ _ => rfl) (Nat.le_of_ble_eq_true rfl) (Nat.le_of_ble_eq_true rfl)
    exact absurd (by simp only [if_neg h7]) h6
  refine AW.i2l (pc := 10) dL_price_10 ?_
  refine AW.chk (fun g8 => ?_)
  refine AW.last (pc := 11) dL_price_11 (k0e g8.1) (kct (k0e g8.1) rfl hct) g8.2 ?_
  refine AW.genM (fun M9 => ?_)
  refine AW.goto (pc := 12) 19 dL_price_12 (by decide) ?_
  refine AW.iconst (pc := 19) dL_price_19 ci_0 ?_
  exact AW.iret (pc := 20) dL_price_20 rfl (fun _ _ _ => rfl) (Nat.le_of_ble_eq_true rfl) (Nat.le_of_ble_eq_true rfl)
-- GateBoxLaw.priced(LGateBox;I[J)I
def zL_priced (x0 : Nat) (x1 : Int32) (x2 : Nat) (M : Mem) : Option (Int32 × Mem) :=
  if K0 x0 = (0, 11) then
  bndK (zX11_priced x0 x1 M) (fun k5 M4 => if k5 = 0 then some (1, M4) else none) fun v1 M2 =>
  if (K0 x2).1 = 2 ∧ inb 0 (K0 x2).2 = true then
  lt (sL M2 x2 (Int32.toNatClampNeg 0) (Int32.toInt64 v1)) fun M9 =>
  some (0, M9)
  else none
  else none
set_option maxRecDepth 20000 in
set_option maxHeartbeats 4000000 in
theorem kL_priced (l : Launch) (E : Ev) (hst : l.stackTraces = false) (n : Nat) (hn : 14 ≤ n) (ct : Nat) (hct : 111 ≤ ct) (x0 : Nat) (x1 : Int32) (x2 : Nat) (M : Mem) : AMW l E n ct yL_priced fL_priced enI [.ref (ad E x0), .int x1, .ref (ad E x2)] M (zL_priced x0 x1 x2 M) := by
  unfold zL_priced
  refine AMW.of (by decide +kernel) ⟨rfl, rfl⟩ (Nat.le_of_ble_eq_true rfl) ?_
  refine AW.aload_n (pc := 0) dL_priced_0 rfl 2 rfl ?_
  refine AW.iconst (pc := 1) dL_priced_1 ci_0 ?_
  refine AW.aload_n (pc := 2) dL_priced_2 rfl 0 rfl ?_
  refine AW.iload_n (pc := 3) dL_priced_3 rfl 1 rfl ?_
  refine AW.chk (fun g3 => ?_)
  refine AW.callC [.int x1] [.int 0, .ref (ad E x2)] (pc := 4) (by decide) dL_priced_4 mlL_73 mbX11_priced rfl g3 (kct g3 rfl hct) (fun _ => okR_M (by omega) (Nat.le_of_ble_eq_true rfl) (Nat.le_of_ble_eq_true rfl)) (kX11_priced l E hst (n - 1) (by omega) ct hct false x0 x1 M) rfl (Nat.le_of_ble_eq_true rfl) (fun k5 M4 h6 => ?_) (fun v1 M2 => ?_)
  · by_cases h7 : k5 = 0
    · subst h7
      refine ⟨by decide, 12, ⟨[], ⟨0, 9, 12, 13⟩, [], rfl, by decide, by decide, rfl, clL_13, (fun z hz => absurd hz List.not_mem_nil)⟩, fun q => ?_⟩
      refine AW.eqF (F' := some (1, M4)) rfl ?_
      refine AW.astore_n (pc := 12) [] [] dL_priced_12 rfl (by decide) rfl ?_
      refine AW.iconst (pc := 13) dL_priced_13 ci_1 ?_
      exact AW.iret (pc := 14) dL_priced_14 rfl (fun _ _ _ => rfl) (Nat.le_of_ble_eq_true rfl) (Nat.le_of_ble_eq_true rfl)
    exact absurd (by simp only [if_neg h7]) h6
  refine AW.i2l (pc := 7) dL_priced_7 ?_
  refine AW.chk (fun g8 => ?_)
  refine AW.last (pc := 8) dL_priced_8 (k0e g8.1) (kct (k0e g8.1) rfl hct) g8.2 ?_
  refine AW.genM (fun M9 => ?_)
  refine AW.goto (pc := 9) 15 dL_priced_9 (by decide) ?_
  refine AW.iconst (pc := 15) dL_priced_15 ci_0 ?_
  exact AW.iret (pc := 16) dL_priced_16 rfl (fun _ _ _ => rfl) (Nat.le_of_ble_eq_true rfl) (Nat.le_of_ble_eq_true rfl)
-- GateBoxLaw.mixed(LGateBox;IIII[J)I
def zL_mixed (x0 : Nat) (x1 : Int32) (x2 : Int32) (x3 : Int32) (x4 : Int32) (x5 : Nat) (M : Mem) : Option (Int32 × Mem) :=
  if K0 x0 = (0, 11) then
  bndK (zX11_mixed x0 x1 x2 x3 x4 M) (fun k5 M4 => if k5 = 0 then some (1, M4) else if k5 = 1 then some (2, M4) else none) fun v1 M2 =>
  if (K0 x5).1 = 2 ∧ inb 0 (K0 x5).2 = true then
  lt (sL M2 x5 (Int32.toNatClampNeg 0) (Int32.toInt64 v1)) fun M10 =>
  some (0, M10)
  else none
  else none
set_option maxRecDepth 20000 in
set_option maxHeartbeats 4000000 in
theorem kL_mixed (l : Launch) (E : Ev) (hst : l.stackTraces = false) (n : Nat) (hn : 14 ≤ n) (ct : Nat) (hct : 111 ≤ ct) (x0 : Nat) (x1 : Int32) (x2 : Int32) (x3 : Int32) (x4 : Int32) (x5 : Nat) (M : Mem) : AMW l E n ct yL_mixed fL_mixed enI [.ref (ad E x0), .int x1, .int x2, .int x3, .int x4, .ref (ad E x5)] M (zL_mixed x0 x1 x2 x3 x4 x5 M) := by
  unfold zL_mixed
  refine AMW.of (by decide +kernel) ⟨rfl, rfl⟩ (Nat.le_of_ble_eq_true rfl) ?_
  refine AW.aload (pc := 0) dL_mixed_0 5 rfl ?_
  refine AW.iconst (pc := 2) dL_mixed_2 ci_0 ?_
  refine AW.aload_n (pc := 3) dL_mixed_3 rfl 0 rfl ?_
  refine AW.iload_n (pc := 4) dL_mixed_4 rfl 1 rfl ?_
  refine AW.iload_n (pc := 5) dL_mixed_5 rfl 2 rfl ?_
  refine AW.iload_n (pc := 6) dL_mixed_6 rfl 3 rfl ?_
  refine AW.iload (pc := 7) dL_mixed_7 4 rfl ?_
  refine AW.chk (fun g3 => ?_)
  refine AW.callC [.int x1, .int x2, .int x3, .int x4] [.int 0, .ref (ad E x5)] (pc := 9) (by decide) dL_mixed_9 mlL_76 mbX11_mixed rfl g3 (kct g3 rfl hct) (fun _ => okR_M (by omega) (Nat.le_of_ble_eq_true rfl) (Nat.le_of_ble_eq_true rfl)) (kX11_mixed l E hst (n - 1) (by omega) ct hct false x0 x1 x2 x3 x4 M) rfl (Nat.le_of_ble_eq_true rfl) (fun k5 M4 h6 => ?_) (fun v1 M2 => ?_)
  · by_cases h7 : k5 = 0
    · subst h7
      refine ⟨by decide, 17, ⟨[], ⟨0, 14, 17, 13⟩, [⟨0, 14, 21, 15⟩], rfl, by decide, by decide, rfl, clL_13, (fun z hz => absurd hz List.not_mem_nil)⟩, fun q => ?_⟩
      refine AW.eqF (F' := some (1, M4)) rfl ?_
      refine AW.astore (pc := 17) [] [] dL_mixed_17 (by decide) rfl ?_
      refine AW.iconst (pc := 19) dL_mixed_19 ci_1 ?_
      exact AW.iret (pc := 20) dL_mixed_20 rfl (fun _ _ _ => rfl) (Nat.le_of_ble_eq_true rfl) (Nat.le_of_ble_eq_true rfl)
    by_cases h8 : k5 = 1
    · subst h8
      refine ⟨by decide, 21, ⟨[⟨0, 14, 17, 13⟩], ⟨0, 14, 21, 15⟩, [], rfl, by decide, by decide, rfl, clL_15, (fun z hz => by rw [List.mem_singleton.mp hz]; exact ⟨by decide, rfl, clL_13⟩)⟩, fun q => ?_⟩
      refine AW.eqF (F' := some (2, M4)) rfl ?_
      refine AW.astore (pc := 21) [] [] dL_mixed_21 (by decide) rfl ?_
      refine AW.iconst (pc := 23) dL_mixed_23 ci_2 ?_
      exact AW.iret (pc := 24) dL_mixed_24 rfl (fun _ _ _ => rfl) (Nat.le_of_ble_eq_true rfl) (Nat.le_of_ble_eq_true rfl)
    exact absurd (by simp only [if_neg h7, if_neg h8]) h6
  refine AW.i2l (pc := 12) dL_mixed_12 ?_
  refine AW.chk (fun g9 => ?_)
  refine AW.last (pc := 13) dL_mixed_13 (k0e g9.1) (kct (k0e g9.1) rfl hct) g9.2 ?_
  refine AW.genM (fun M10 => ?_)
  refine AW.goto (pc := 14) 25 dL_mixed_14 (by decide) ?_
  refine AW.iconst (pc := 25) dL_mixed_25 ci_0 ?_
  exact AW.iret (pc := 26) dL_mixed_26 rfl (fun _ _ _ => rfl) (Nat.le_of_ble_eq_true rfl) (Nat.le_of_ble_eq_true rfl)
-- GateBoxLaw.near(LGateBox;II[J)I
def zL_near (x0 : Nat) (x1 : Int32) (x2 : Int32) (x3 : Nat) (M : Mem) : Option (Int32 × Mem) :=
  if K0 x0 = (0, 11) then
  bndK (zX11_near x0 x1 x2 M) (fun k5 M4 => if k5 = 0 then some (1, M4) else if k5 = 1 then some (2, M4) else none) fun v1 M2 =>
  if (K0 x3).1 = 2 ∧ inb 0 (K0 x3).2 = true then
  lt (sL M2 x3 (Int32.toNatClampNeg 0) (Int32.toInt64 v1)) fun M10 =>
  some (0, M10)
  else none
  else none
set_option maxRecDepth 20000 in
set_option maxHeartbeats 4000000 in
theorem kL_near (l : Launch) (E : Ev) (hst : l.stackTraces = false) (n : Nat) (hn : 13 ≤ n) (ct : Nat) (hct : 111 ≤ ct) (x0 : Nat) (x1 : Int32) (x2 : Int32) (x3 : Nat) (M : Mem) : AMW l E n ct yL_near fL_near enI [.ref (ad E x0), .int x1, .int x2, .ref (ad E x3)] M (zL_near x0 x1 x2 x3 M) := by
  unfold zL_near
  refine AMW.of (by decide +kernel) ⟨rfl, rfl⟩ (Nat.le_of_ble_eq_true rfl) ?_
  refine AW.aload_n (pc := 0) dL_near_0 rfl 3 rfl ?_
  refine AW.iconst (pc := 1) dL_near_1 ci_0 ?_
  refine AW.aload_n (pc := 2) dL_near_2 rfl 0 rfl ?_
  refine AW.iload_n (pc := 3) dL_near_3 rfl 1 rfl ?_
  refine AW.iload_n (pc := 4) dL_near_4 rfl 2 rfl ?_
  refine AW.chk (fun g3 => ?_)
  refine AW.callC [.int x1, .int x2] [.int 0, .ref (ad E x3)] (pc := 5) (by decide) dL_near_5 mlL_79 mbX11_near rfl g3 (kct g3 rfl hct) (fun _ => okR_M (by omega) (Nat.le_of_ble_eq_true rfl) (Nat.le_of_ble_eq_true rfl)) (kX11_near l E hst (n - 1) (by omega) ct hct false x0 x1 x2 M) rfl (Nat.le_of_ble_eq_true rfl) (fun k5 M4 h6 => ?_) (fun v1 M2 => ?_)
  · by_cases h7 : k5 = 0
    · subst h7
      refine ⟨by decide, 13, ⟨[], ⟨0, 10, 13, 13⟩, [⟨0, 10, 17, 15⟩], rfl, by decide, by decide, rfl, clL_13, (fun z hz => absurd hz List.not_mem_nil)⟩, fun q => ?_⟩
      refine AW.eqF (F' := some (1, M4)) rfl ?_
      refine AW.astore (pc := 13) [] [] dL_near_13 (by decide) rfl ?_
      refine AW.iconst (pc := 15) dL_near_15 ci_1 ?_
      exact AW.iret (pc := 16) dL_near_16 rfl (fun _ _ _ => rfl) (Nat.le_of_ble_eq_true rfl) (Nat.le_of_ble_eq_true rfl)
    by_cases h8 : k5 = 1
    · subst h8
      refine ⟨by decide, 17, ⟨[⟨0, 10, 13, 13⟩], ⟨0, 10, 17, 15⟩, [], rfl, by decide, by decide, rfl, clL_15, (fun z hz => by rw [List.mem_singleton.mp hz]; exact ⟨by decide, rfl, clL_13⟩)⟩, fun q => ?_⟩
      refine AW.eqF (F' := some (2, M4)) rfl ?_
      refine AW.astore (pc := 17) [] [] dL_near_17 (by decide) rfl ?_
      refine AW.iconst (pc := 19) dL_near_19 ci_2 ?_
      exact AW.iret (pc := 20) dL_near_20 rfl (fun _ _ _ => rfl) (Nat.le_of_ble_eq_true rfl) (Nat.le_of_ble_eq_true rfl)
    exact absurd (by simp only [if_neg h7, if_neg h8]) h6
  refine AW.i2l (pc := 8) dL_near_8 ?_
  refine AW.chk (fun g9 => ?_)
  refine AW.last (pc := 9) dL_near_9 (k0e g9.1) (kct (k0e g9.1) rfl hct) g9.2 ?_
  refine AW.genM (fun M10 => ?_)
  refine AW.goto (pc := 10) 21 dL_near_10 (by decide) ?_
  refine AW.iconst (pc := 21) dL_near_21 ci_0 ?_
  exact AW.iret (pc := 22) dL_near_22 rfl (fun _ _ _ => rfl) (Nat.le_of_ble_eq_true rfl) (Nat.le_of_ble_eq_true rfl)
-- GateBoxLaw.give(LGateBox;II[J)I
def zL_give (x0 : Nat) (x1 : Int32) (x2 : Int32) (x3 : Nat) (M : Mem) : Option (Int32 × Mem) :=
  if K0 x0 = (0, 11) then
  bndK (zX11_give x0 x1 x2 M) (fun k5 M4 => if k5 = 0 then some (1, M4) else none) fun v1 M2 =>
  if (K0 x3).1 = 2 ∧ inb 0 (K0 x3).2 = true then
  lt (sL M2 x3 (Int32.toNatClampNeg 0) (Int32.toInt64 v1)) fun M9 =>
  some (0, M9)
  else none
  else none
set_option maxRecDepth 20000 in
set_option maxHeartbeats 4000000 in
theorem kL_give (l : Launch) (E : Ev) (hst : l.stackTraces = false) (n : Nat) (hn : 14 ≤ n) (ct : Nat) (hct : 111 ≤ ct) (x0 : Nat) (x1 : Int32) (x2 : Int32) (x3 : Nat) (M : Mem) : AMW l E n ct yL_give fL_give enI [.ref (ad E x0), .int x1, .int x2, .ref (ad E x3)] M (zL_give x0 x1 x2 x3 M) := by
  unfold zL_give
  refine AMW.of (by decide +kernel) ⟨rfl, rfl⟩ (Nat.le_of_ble_eq_true rfl) ?_
  refine AW.aload_n (pc := 0) dL_give_0 rfl 3 rfl ?_
  refine AW.iconst (pc := 1) dL_give_1 ci_0 ?_
  refine AW.aload_n (pc := 2) dL_give_2 rfl 0 rfl ?_
  refine AW.iload_n (pc := 3) dL_give_3 rfl 1 rfl ?_
  refine AW.iload_n (pc := 4) dL_give_4 rfl 2 rfl ?_
  refine AW.chk (fun g3 => ?_)
  refine AW.callC [.int x1, .int x2] [.int 0, .ref (ad E x3)] (pc := 5) (by decide) dL_give_5 mlL_82 mbX11_give rfl g3 (kct g3 rfl hct) (fun _ => okR_M (by omega) (Nat.le_of_ble_eq_true rfl) (Nat.le_of_ble_eq_true rfl)) (kX11_give l E hst (n - 1) (by omega) ct hct false x0 x1 x2 M) rfl (Nat.le_of_ble_eq_true rfl) (fun k5 M4 h6 => ?_) (fun v1 M2 => ?_)
  · by_cases h7 : k5 = 0
    · subst h7
      refine ⟨by decide, 13, ⟨[], ⟨0, 10, 13, 13⟩, [], rfl, by decide, by decide, rfl, clL_13, (fun z hz => absurd hz List.not_mem_nil)⟩, fun q => ?_⟩
      refine AW.eqF (F' := some (1, M4)) rfl ?_
      refine AW.astore (pc := 13) [] [] dL_give_13 (by decide) rfl ?_
      refine AW.iconst (pc := 15) dL_give_15 ci_1 ?_
      exact AW.iret (pc := 16) dL_give_16 rfl (fun _ _ _ => rfl) (Nat.le_of_ble_eq_true rfl) (Nat.le_of_ble_eq_true rfl)
    exact absurd (by simp only [if_neg h7]) h6
  refine AW.i2l (pc := 8) dL_give_8 ?_
  refine AW.chk (fun g8 => ?_)
  refine AW.last (pc := 9) dL_give_9 (k0e g8.1) (kct (k0e g8.1) rfl hct) g8.2 ?_
  refine AW.genM (fun M9 => ?_)
  refine AW.goto (pc := 10) 17 dL_give_10 (by decide) ?_
  refine AW.iconst (pc := 17) dL_give_17 ci_0 ?_
  exact AW.iret (pc := 18) dL_give_18 rfl (fun _ _ _ => rfl) (Nat.le_of_ble_eq_true rfl) (Nat.le_of_ble_eq_true rfl)
-- GateBoxLaw.given(LGateBox;III[J)I
def zL_given (x0 : Nat) (x1 : Int32) (x2 : Int32) (x3 : Int32) (x4 : Nat) (M : Mem) : Option (Int32 × Mem) :=
  if K0 x0 = (0, 11) then
  bndK (zX11_given x0 x1 x2 x3 M) (fun k5 M4 => if k5 = 0 then some (1, M4) else none) fun v1 M2 =>
  if (K0 x4).1 = 2 ∧ inb 0 (K0 x4).2 = true then
  lt (sL M2 x4 (Int32.toNatClampNeg 0) (Int32.toInt64 v1)) fun M9 =>
  some (0, M9)
  else none
  else none
set_option maxRecDepth 20000 in
set_option maxHeartbeats 4000000 in
theorem kL_given (l : Launch) (E : Ev) (hst : l.stackTraces = false) (n : Nat) (hn : 14 ≤ n) (ct : Nat) (hct : 111 ≤ ct) (x0 : Nat) (x1 : Int32) (x2 : Int32) (x3 : Int32) (x4 : Nat) (M : Mem) : AMW l E n ct yL_given fL_given enI [.ref (ad E x0), .int x1, .int x2, .int x3, .ref (ad E x4)] M (zL_given x0 x1 x2 x3 x4 M) := by
  unfold zL_given
  refine AMW.of (by decide +kernel) ⟨rfl, rfl⟩ (Nat.le_of_ble_eq_true rfl) ?_
  refine AW.aload (pc := 0) dL_given_0 4 rfl ?_
  refine AW.iconst (pc := 2) dL_given_2 ci_0 ?_
  refine AW.aload_n (pc := 3) dL_given_3 rfl 0 rfl ?_
  refine AW.iload_n (pc := 4) dL_given_4 rfl 1 rfl ?_
  refine AW.iload_n (pc := 5) dL_given_5 rfl 2 rfl ?_
  refine AW.iload_n (pc := 6) dL_given_6 rfl 3 rfl ?_
  refine AW.chk (fun g3 => ?_)
  refine AW.callC [.int x1, .int x2, .int x3] [.int 0, .ref (ad E x4)] (pc := 7) (by decide) dL_given_7 mlL_85 mbX11_given rfl g3 (kct g3 rfl hct) (fun _ => okR_M (by omega) (Nat.le_of_ble_eq_true rfl) (Nat.le_of_ble_eq_true rfl)) (kX11_given l E hst (n - 1) (by omega) ct hct false x0 x1 x2 x3 M) rfl (Nat.le_of_ble_eq_true rfl) (fun k5 M4 h6 => ?_) (fun v1 M2 => ?_)
  · by_cases h7 : k5 = 0
    · subst h7
      refine ⟨by decide, 15, ⟨[], ⟨0, 12, 15, 13⟩, [], rfl, by decide, by decide, rfl, clL_13, (fun z hz => absurd hz List.not_mem_nil)⟩, fun q => ?_⟩
      refine AW.eqF (F' := some (1, M4)) rfl ?_
      refine AW.astore (pc := 15) [] [] dL_given_15 (by decide) rfl ?_
      refine AW.iconst (pc := 17) dL_given_17 ci_1 ?_
      exact AW.iret (pc := 18) dL_given_18 rfl (fun _ _ _ => rfl) (Nat.le_of_ble_eq_true rfl) (Nat.le_of_ble_eq_true rfl)
    exact absurd (by simp only [if_neg h7]) h6
  refine AW.i2l (pc := 10) dL_given_10 ?_
  refine AW.chk (fun g8 => ?_)
  refine AW.last (pc := 11) dL_given_11 (k0e g8.1) (kct (k0e g8.1) rfl hct) g8.2 ?_
  refine AW.genM (fun M9 => ?_)
  refine AW.goto (pc := 12) 19 dL_given_12 (by decide) ?_
  refine AW.iconst (pc := 19) dL_given_19 ci_0 ?_
  exact AW.iret (pc := 20) dL_given_20 rfl (fun _ _ _ => rfl) (Nat.le_of_ble_eq_true rfl) (Nat.le_of_ble_eq_true rfl)
-- GateBoxLaw.who(LGateBox;III[J)I
def zL_who (x0 : Nat) (x1 : Int32) (x2 : Int32) (x3 : Int32) (x4 : Nat) (M : Mem) : Option (Int32 × Mem) :=
  if K0 x0 = (0, 11) then
  bndK (zX11_who x0 x1 x2 x3 M) (fun k5 M4 => if k5 = 0 then some (1, M4) else none) fun v1 M2 =>
  if (K0 x4).1 = 2 ∧ inb 0 (K0 x4).2 = true then
  lt (sL M2 x4 (Int32.toNatClampNeg 0) (Int32.toInt64 v1)) fun M9 =>
  some (0, M9)
  else none
  else none
set_option maxRecDepth 20000 in
set_option maxHeartbeats 4000000 in
theorem kL_who (l : Launch) (E : Ev) (hst : l.stackTraces = false) (n : Nat) (hn : 14 ≤ n) (ct : Nat) (hct : 111 ≤ ct) (x0 : Nat) (x1 : Int32) (x2 : Int32) (x3 : Int32) (x4 : Nat) (M : Mem) : AMW l E n ct yL_who fL_who enI [.ref (ad E x0), .int x1, .int x2, .int x3, .ref (ad E x4)] M (zL_who x0 x1 x2 x3 x4 M) := by
  unfold zL_who
  refine AMW.of (by decide +kernel) ⟨rfl, rfl⟩ (Nat.le_of_ble_eq_true rfl) ?_
  refine AW.aload (pc := 0) dL_who_0 4 rfl ?_
  refine AW.iconst (pc := 2) dL_who_2 ci_0 ?_
  refine AW.aload_n (pc := 3) dL_who_3 rfl 0 rfl ?_
  refine AW.iload_n (pc := 4) dL_who_4 rfl 1 rfl ?_
  refine AW.iload_n (pc := 5) dL_who_5 rfl 2 rfl ?_
  refine AW.iload_n (pc := 6) dL_who_6 rfl 3 rfl ?_
  refine AW.chk (fun g3 => ?_)
  refine AW.callC [.int x1, .int x2, .int x3] [.int 0, .ref (ad E x4)] (pc := 7) (by decide) dL_who_7 mlL_88 mbX11_who rfl g3 (kct g3 rfl hct) (fun _ => okR_M (by omega) (Nat.le_of_ble_eq_true rfl) (Nat.le_of_ble_eq_true rfl)) (kX11_who l E hst (n - 1) (by omega) ct hct false x0 x1 x2 x3 M) rfl (Nat.le_of_ble_eq_true rfl) (fun k5 M4 h6 => ?_) (fun v1 M2 => ?_)
  · by_cases h7 : k5 = 0
    · subst h7
      refine ⟨by decide, 15, ⟨[], ⟨0, 12, 15, 13⟩, [], rfl, by decide, by decide, rfl, clL_13, (fun z hz => absurd hz List.not_mem_nil)⟩, fun q => ?_⟩
      refine AW.eqF (F' := some (1, M4)) rfl ?_
      refine AW.astore (pc := 15) [] [] dL_who_15 (by decide) rfl ?_
      refine AW.iconst (pc := 17) dL_who_17 ci_1 ?_
      exact AW.iret (pc := 18) dL_who_18 rfl (fun _ _ _ => rfl) (Nat.le_of_ble_eq_true rfl) (Nat.le_of_ble_eq_true rfl)
    exact absurd (by simp only [if_neg h7]) h6
  refine AW.i2l (pc := 10) dL_who_10 ?_
  refine AW.chk (fun g8 => ?_)
  refine AW.last (pc := 11) dL_who_11 (k0e g8.1) (kct (k0e g8.1) rfl hct) g8.2 ?_
  refine AW.genM (fun M9 => ?_)
  refine AW.goto (pc := 12) 19 dL_who_12 (by decide) ?_
  refine AW.iconst (pc := 19) dL_who_19 ci_0 ?_
  exact AW.iret (pc := 20) dL_who_20 rfl (fun _ _ _ => rfl) (Nat.le_of_ble_eq_true rfl) (Nat.le_of_ble_eq_true rfl)
-- GateBoxLaw.strange(LGateBox;I[J)I
def zL_strange (x0 : Nat) (x1 : Int32) (x2 : Nat) (M : Mem) : Option (Int32 × Mem) :=
  if K0 x0 = (0, 11) then
  bndK (zX11_strange x0 x1 M) (fun k5 M4 => if k5 = 0 then some (1, M4) else none) fun v1 M2 =>
  if (K0 x2).1 = 2 ∧ inb 0 (K0 x2).2 = true then
  lt (sL M2 x2 (Int32.toNatClampNeg 0) (Int32.toInt64 v1)) fun M9 =>
  some (0, M9)
  else none
  else none
set_option maxRecDepth 20000 in
set_option maxHeartbeats 4000000 in
theorem kL_strange (l : Launch) (E : Ev) (hst : l.stackTraces = false) (n : Nat) (hn : 14 ≤ n) (ct : Nat) (hct : 111 ≤ ct) (x0 : Nat) (x1 : Int32) (x2 : Nat) (M : Mem) : AMW l E n ct yL_strange fL_strange enI [.ref (ad E x0), .int x1, .ref (ad E x2)] M (zL_strange x0 x1 x2 M) := by
  unfold zL_strange
  refine AMW.of (by decide +kernel) ⟨rfl, rfl⟩ (Nat.le_of_ble_eq_true rfl) ?_
  refine AW.aload_n (pc := 0) dL_strange_0 rfl 2 rfl ?_
  refine AW.iconst (pc := 1) dL_strange_1 ci_0 ?_
  refine AW.aload_n (pc := 2) dL_strange_2 rfl 0 rfl ?_
  refine AW.iload_n (pc := 3) dL_strange_3 rfl 1 rfl ?_
  refine AW.chk (fun g3 => ?_)
  refine AW.callC [.int x1] [.int 0, .ref (ad E x2)] (pc := 4) (by decide) dL_strange_4 mlL_91 mbX11_strange rfl g3 (kct g3 rfl hct) (fun _ => okR_M (by omega) (Nat.le_of_ble_eq_true rfl) (Nat.le_of_ble_eq_true rfl)) (kX11_strange l E hst (n - 1) (by omega) ct hct false x0 x1 M) rfl (Nat.le_of_ble_eq_true rfl) (fun k5 M4 h6 => ?_) (fun v1 M2 => ?_)
  · by_cases h7 : k5 = 0
    · subst h7
      refine ⟨by decide, 12, ⟨[], ⟨0, 9, 12, 13⟩, [], rfl, by decide, by decide, rfl, clL_13, (fun z hz => absurd hz List.not_mem_nil)⟩, fun q => ?_⟩
      refine AW.eqF (F' := some (1, M4)) rfl ?_
      refine AW.astore_n (pc := 12) [] [] dL_strange_12 rfl (by decide) rfl ?_
      refine AW.iconst (pc := 13) dL_strange_13 ci_1 ?_
      exact AW.iret (pc := 14) dL_strange_14 rfl (fun _ _ _ => rfl) (Nat.le_of_ble_eq_true rfl) (Nat.le_of_ble_eq_true rfl)
    exact absurd (by simp only [if_neg h7]) h6
  refine AW.i2l (pc := 7) dL_strange_7 ?_
  refine AW.chk (fun g8 => ?_)
  refine AW.last (pc := 8) dL_strange_8 (k0e g8.1) (kct (k0e g8.1) rfl hct) g8.2 ?_
  refine AW.genM (fun M9 => ?_)
  refine AW.goto (pc := 9) 15 dL_strange_9 (by decide) ?_
  refine AW.iconst (pc := 15) dL_strange_15 ci_0 ?_
  exact AW.iret (pc := 16) dL_strange_16 rfl (fun _ _ _ => rfl) (Nat.le_of_ble_eq_true rfl) (Nat.le_of_ble_eq_true rfl)
-- GateBoxLaw.fewest(LGateBox;I[J)I
def zL_fewest (x0 : Nat) (x1 : Int32) (x2 : Nat) (M : Mem) : Option (Int32 × Mem) :=
  if K0 x0 = (0, 11) then
  bndK (zX11_fewest x0 x1 M) (fun k5 M4 => if k5 = 0 then some (1, M4) else none) fun v1 M2 =>
  if (K0 x2).1 = 2 ∧ inb 0 (K0 x2).2 = true then
  lt (sL M2 x2 (Int32.toNatClampNeg 0) (Int32.toInt64 v1)) fun M9 =>
  some (0, M9)
  else none
  else none
set_option maxRecDepth 20000 in
set_option maxHeartbeats 4000000 in
theorem kL_fewest (l : Launch) (E : Ev) (hst : l.stackTraces = false) (n : Nat) (hn : 14 ≤ n) (ct : Nat) (hct : 111 ≤ ct) (x0 : Nat) (x1 : Int32) (x2 : Nat) (M : Mem) : AMW l E n ct yL_fewest fL_fewest enI [.ref (ad E x0), .int x1, .ref (ad E x2)] M (zL_fewest x0 x1 x2 M) := by
  unfold zL_fewest
  refine AMW.of (by decide +kernel) ⟨rfl, rfl⟩ (Nat.le_of_ble_eq_true rfl) ?_
  refine AW.aload_n (pc := 0) dL_fewest_0 rfl 2 rfl ?_
  refine AW.iconst (pc := 1) dL_fewest_1 ci_0 ?_
  refine AW.aload_n (pc := 2) dL_fewest_2 rfl 0 rfl ?_
  refine AW.iload_n (pc := 3) dL_fewest_3 rfl 1 rfl ?_
  refine AW.chk (fun g3 => ?_)
  refine AW.callC [.int x1] [.int 0, .ref (ad E x2)] (pc := 4) (by decide) dL_fewest_4 mlL_94 mbX11_fewest rfl g3 (kct g3 rfl hct) (fun _ => okR_M (by omega) (Nat.le_of_ble_eq_true rfl) (Nat.le_of_ble_eq_true rfl)) (kX11_fewest l E hst (n - 1) (by omega) ct hct false x0 x1 M) rfl (Nat.le_of_ble_eq_true rfl) (fun k5 M4 h6 => ?_) (fun v1 M2 => ?_)
  · by_cases h7 : k5 = 0
    · subst h7
      refine ⟨by decide, 12, ⟨[], ⟨0, 9, 12, 13⟩, [], rfl, by decide, by decide, rfl, clL_13, (fun z hz => absurd hz List.not_mem_nil)⟩, fun q => ?_⟩
      refine AW.eqF (F' := some (1, M4)) rfl ?_
      refine AW.astore_n (pc := 12) [] [] dL_fewest_12 rfl (by decide) rfl ?_
      refine AW.iconst (pc := 13) dL_fewest_13 ci_1 ?_
      exact AW.iret (pc := 14) dL_fewest_14 rfl (fun _ _ _ => rfl) (Nat.le_of_ble_eq_true rfl) (Nat.le_of_ble_eq_true rfl)
    exact absurd (by simp only [if_neg h7]) h6
  refine AW.i2l (pc := 7) dL_fewest_7 ?_
  refine AW.chk (fun g8 => ?_)
  refine AW.last (pc := 8) dL_fewest_8 (k0e g8.1) (kct (k0e g8.1) rfl hct) g8.2 ?_
  refine AW.genM (fun M9 => ?_)
  refine AW.goto (pc := 9) 15 dL_fewest_9 (by decide) ?_
  refine AW.iconst (pc := 15) dL_fewest_15 ci_0 ?_
  exact AW.iret (pc := 16) dL_fewest_16 rfl (fun _ _ _ => rfl) (Nat.le_of_ble_eq_true rfl) (Nat.le_of_ble_eq_true rfl)
-- GateBoxLaw.guess(LGateBox;IIII[J)I
def zL_guess (x0 : Nat) (x1 : Int32) (x2 : Int32) (x3 : Int32) (x4 : Int32) (x5 : Nat) (M : Mem) : Option (Int32 × Mem) :=
  if K0 x0 = (0, 11) then
  bndK (zX11_guess x0 x1 x2 x3 x4 M) (fun k5 M4 => if k5 = 0 then some (1, M4) else none) fun v1 M2 =>
  if v1 = 0 then
    if (K0 x5).1 = 2 ∧ inb 0 (K0 x5).2 = true then
    lt (sL M2 x5 (Int32.toNatClampNeg 0) 0) fun M10 =>
    some (0, M10)
    else none
  else
    if (K0 x5).1 = 2 ∧ inb 0 (K0 x5).2 = true then
    lt (sL M2 x5 (Int32.toNatClampNeg 0) 1) fun M12 =>
    some (0, M12)
    else none
  else none
set_option maxRecDepth 20000 in
set_option maxHeartbeats 4000000 in
theorem kL_guess (l : Launch) (E : Ev) (hst : l.stackTraces = false) (n : Nat) (hn : 14 ≤ n) (ct : Nat) (hct : 111 ≤ ct) (x0 : Nat) (x1 : Int32) (x2 : Int32) (x3 : Int32) (x4 : Int32) (x5 : Nat) (M : Mem) : AMW l E n ct yL_guess fL_guess enI [.ref (ad E x0), .int x1, .int x2, .int x3, .int x4, .ref (ad E x5)] M (zL_guess x0 x1 x2 x3 x4 x5 M) := by
  unfold zL_guess
  refine AMW.of (by decide +kernel) ⟨rfl, rfl⟩ (Nat.le_of_ble_eq_true rfl) ?_
  refine AW.aload (pc := 0) dL_guess_0 5 rfl ?_
  refine AW.iconst (pc := 2) dL_guess_2 ci_0 ?_
  refine AW.aload_n (pc := 3) dL_guess_3 rfl 0 rfl ?_
  refine AW.iload_n (pc := 4) dL_guess_4 rfl 1 rfl ?_
  refine AW.iload_n (pc := 5) dL_guess_5 rfl 2 rfl ?_
  refine AW.iload_n (pc := 6) dL_guess_6 rfl 3 rfl ?_
  refine AW.iload (pc := 7) dL_guess_7 4 rfl ?_
  refine AW.chk (fun g3 => ?_)
  refine AW.callC [.int x1, .int x2, .int x3, .int x4] [.int 0, .ref (ad E x5)] (pc := 9) (by decide) dL_guess_9 mlL_97 mbX11_guess rfl g3 (kct g3 rfl hct) (fun _ => okR_M (by omega) (Nat.le_of_ble_eq_true rfl) (Nat.le_of_ble_eq_true rfl)) (kX11_guess l E hst (n - 1) (by omega) ct hct false x0 x1 x2 x3 x4 M) rfl (Nat.le_of_ble_eq_true rfl) (fun k5 M4 h6 => ?_) (fun v1 M2 => ?_)
  · by_cases h7 : k5 = 0
    · subst h7
      refine ⟨by decide, 24, ⟨[], ⟨0, 21, 24, 13⟩, [], rfl, by decide, by decide, rfl, clL_13, (fun z hz => absurd hz List.not_mem_nil)⟩, fun q => ?_⟩
      refine AW.eqF (F' := some (1, M4)) rfl ?_
      refine AW.astore (pc := 24) [] [] dL_guess_24 (by decide) rfl ?_
      refine AW.iconst (pc := 26) dL_guess_26 ci_1 ?_
      exact AW.iret (pc := 27) dL_guess_27 rfl (fun _ _ _ => rfl) (Nat.le_of_ble_eq_true rfl) (Nat.le_of_ble_eq_true rfl)
    exact absurd (by simp only [if_neg h7]) h6
  refine AW.if_eq (pc := 12) 19 dL_guess_12 (by decide) (fun h8 => ?_) (fun h8 => ?_)
  · refine AW.lconst (pc := 19) dL_guess_19 cl_0 ?_
    refine AW.chk (fun g9 => ?_)
    refine AW.last (pc := 20) dL_guess_20 (k0e g9.1) (kct (k0e g9.1) rfl hct) g9.2 ?_
    refine AW.genM (fun M10 => ?_)
    refine AW.goto (pc := 21) 28 dL_guess_21 (by decide) ?_
    refine AW.iconst (pc := 28) dL_guess_28 ci_0 ?_
    exact AW.iret (pc := 29) dL_guess_29 rfl (fun _ _ _ => rfl) (Nat.le_of_ble_eq_true rfl) (Nat.le_of_ble_eq_true rfl)
  · refine AW.lconst (pc := 15) dL_guess_15 cl_1 ?_
    refine AW.goto (pc := 16) 20 dL_guess_16 (by decide) ?_
    refine AW.chk (fun g11 => ?_)
    refine AW.last (pc := 20) dL_guess_20 (k0e g11.1) (kct (k0e g11.1) rfl hct) g11.2 ?_
    refine AW.genM (fun M12 => ?_)
    refine AW.goto (pc := 21) 28 dL_guess_21 (by decide) ?_
    refine AW.iconst (pc := 28) dL_guess_28 ci_0 ?_
    exact AW.iret (pc := 29) dL_guess_29 rfl (fun _ _ _ => rfl) (Nat.le_of_ble_eq_true rfl) (Nat.le_of_ble_eq_true rfl)
-- GateBoxLaw.credit(LGateBox;II[J)I
def zL_credit (x0 : Nat) (x1 : Int32) (x2 : Int32) (x3 : Nat) (M : Mem) : Option (Int32 × Mem) :=
  if K0 x0 = (0, 11) then
  bndK (zX11_credit x0 x1 x2 M) (fun k5 M4 => if k5 = 0 then some (1, M4) else none) fun v1 M2 =>
  if (K0 x3).1 = 2 ∧ inb 0 (K0 x3).2 = true then
  lt (sL M2 x3 (Int32.toNatClampNeg 0) (Int32.toInt64 v1)) fun M9 =>
  some (0, M9)
  else none
  else none
set_option maxRecDepth 20000 in
set_option maxHeartbeats 4000000 in
theorem kL_credit (l : Launch) (E : Ev) (hst : l.stackTraces = false) (n : Nat) (hn : 14 ≤ n) (ct : Nat) (hct : 111 ≤ ct) (x0 : Nat) (x1 : Int32) (x2 : Int32) (x3 : Nat) (M : Mem) : AMW l E n ct yL_credit fL_credit enI [.ref (ad E x0), .int x1, .int x2, .ref (ad E x3)] M (zL_credit x0 x1 x2 x3 M) := by
  unfold zL_credit
  refine AMW.of (by decide +kernel) ⟨rfl, rfl⟩ (Nat.le_of_ble_eq_true rfl) ?_
  refine AW.aload_n (pc := 0) dL_credit_0 rfl 3 rfl ?_
  refine AW.iconst (pc := 1) dL_credit_1 ci_0 ?_
  refine AW.aload_n (pc := 2) dL_credit_2 rfl 0 rfl ?_
  refine AW.iload_n (pc := 3) dL_credit_3 rfl 1 rfl ?_
  refine AW.iload_n (pc := 4) dL_credit_4 rfl 2 rfl ?_
  refine AW.chk (fun g3 => ?_)
  refine AW.callC [.int x1, .int x2] [.int 0, .ref (ad E x3)] (pc := 5) (by decide) dL_credit_5 mlL_101 mbX11_credit rfl g3 (kct g3 rfl hct) (fun _ => okR_M (by omega) (Nat.le_of_ble_eq_true rfl) (Nat.le_of_ble_eq_true rfl)) (kX11_credit l E hst (n - 1) (by omega) ct hct false x0 x1 x2 M) rfl (Nat.le_of_ble_eq_true rfl) (fun k5 M4 h6 => ?_) (fun v1 M2 => ?_)
  · by_cases h7 : k5 = 0
    · subst h7
      refine ⟨by decide, 13, ⟨[], ⟨0, 10, 13, 13⟩, [], rfl, by decide, by decide, rfl, clL_13, (fun z hz => absurd hz List.not_mem_nil)⟩, fun q => ?_⟩
      refine AW.eqF (F' := some (1, M4)) rfl ?_
      refine AW.astore (pc := 13) [] [] dL_credit_13 (by decide) rfl ?_
      refine AW.iconst (pc := 15) dL_credit_15 ci_1 ?_
      exact AW.iret (pc := 16) dL_credit_16 rfl (fun _ _ _ => rfl) (Nat.le_of_ble_eq_true rfl) (Nat.le_of_ble_eq_true rfl)
    exact absurd (by simp only [if_neg h7]) h6
  refine AW.i2l (pc := 8) dL_credit_8 ?_
  refine AW.chk (fun g8 => ?_)
  refine AW.last (pc := 9) dL_credit_9 (k0e g8.1) (kct (k0e g8.1) rfl hct) g8.2 ?_
  refine AW.genM (fun M9 => ?_)
  refine AW.goto (pc := 10) 17 dL_credit_10 (by decide) ?_
  refine AW.iconst (pc := 17) dL_credit_17 ci_0 ?_
  exact AW.iret (pc := 18) dL_credit_18 rfl (fun _ _ _ => rfl) (Nat.le_of_ble_eq_true rfl) (Nat.le_of_ble_eq_true rfl)
-- GateBoxLaw.drawn(LGateBox;III[J)I
def zL_drawn (x0 : Nat) (x1 : Int32) (x2 : Int32) (x3 : Int32) (x4 : Nat) (M : Mem) : Option (Int32 × Mem) :=
  if K0 x0 = (0, 11) then
  bndK (zX11_drawn x0 x1 x2 x3 M) (fun k5 M4 => if k5 = 0 then some (1, M4) else if k5 = 1 then some (2, M4) else none) fun v1 M2 =>
  if (K0 x4).1 = 2 ∧ inb 0 (K0 x4).2 = true then
  lt (sL M2 x4 (Int32.toNatClampNeg 0) (Int32.toInt64 v1)) fun M10 =>
  some (0, M10)
  else none
  else none
set_option maxRecDepth 20000 in
set_option maxHeartbeats 4000000 in
theorem kL_drawn (l : Launch) (E : Ev) (hst : l.stackTraces = false) (n : Nat) (hn : 14 ≤ n) (ct : Nat) (hct : 111 ≤ ct) (x0 : Nat) (x1 : Int32) (x2 : Int32) (x3 : Int32) (x4 : Nat) (M : Mem) : AMW l E n ct yL_drawn fL_drawn enI [.ref (ad E x0), .int x1, .int x2, .int x3, .ref (ad E x4)] M (zL_drawn x0 x1 x2 x3 x4 M) := by
  unfold zL_drawn
  refine AMW.of (by decide +kernel) ⟨rfl, rfl⟩ (Nat.le_of_ble_eq_true rfl) ?_
  refine AW.aload (pc := 0) dL_drawn_0 4 rfl ?_
  refine AW.iconst (pc := 2) dL_drawn_2 ci_0 ?_
  refine AW.aload_n (pc := 3) dL_drawn_3 rfl 0 rfl ?_
  refine AW.iload_n (pc := 4) dL_drawn_4 rfl 1 rfl ?_
  refine AW.iload_n (pc := 5) dL_drawn_5 rfl 2 rfl ?_
  refine AW.iload_n (pc := 6) dL_drawn_6 rfl 3 rfl ?_
  refine AW.chk (fun g3 => ?_)
  refine AW.callC [.int x1, .int x2, .int x3] [.int 0, .ref (ad E x4)] (pc := 7) (by decide) dL_drawn_7 mlL_104 mbX11_drawn rfl g3 (kct g3 rfl hct) (fun _ => okR_M (by omega) (Nat.le_of_ble_eq_true rfl) (Nat.le_of_ble_eq_true rfl)) (kX11_drawn l E hst (n - 1) (by omega) ct hct false x0 x1 x2 x3 M) rfl (Nat.le_of_ble_eq_true rfl) (fun k5 M4 h6 => ?_) (fun v1 M2 => ?_)
  · by_cases h7 : k5 = 0
    · subst h7
      refine ⟨by decide, 15, ⟨[], ⟨0, 12, 15, 13⟩, [⟨0, 12, 19, 15⟩], rfl, by decide, by decide, rfl, clL_13, (fun z hz => absurd hz List.not_mem_nil)⟩, fun q => ?_⟩
      refine AW.eqF (F' := some (1, M4)) rfl ?_
      refine AW.astore (pc := 15) [] [] dL_drawn_15 (by decide) rfl ?_
      refine AW.iconst (pc := 17) dL_drawn_17 ci_1 ?_
      exact AW.iret (pc := 18) dL_drawn_18 rfl (fun _ _ _ => rfl) (Nat.le_of_ble_eq_true rfl) (Nat.le_of_ble_eq_true rfl)
    by_cases h8 : k5 = 1
    · subst h8
      refine ⟨by decide, 19, ⟨[⟨0, 12, 15, 13⟩], ⟨0, 12, 19, 15⟩, [], rfl, by decide, by decide, rfl, clL_15, (fun z hz => by rw [List.mem_singleton.mp hz]; exact ⟨by decide, rfl, clL_13⟩)⟩, fun q => ?_⟩
      refine AW.eqF (F' := some (2, M4)) rfl ?_
      refine AW.astore (pc := 19) [] [] dL_drawn_19 (by decide) rfl ?_
      refine AW.iconst (pc := 21) dL_drawn_21 ci_2 ?_
      exact AW.iret (pc := 22) dL_drawn_22 rfl (fun _ _ _ => rfl) (Nat.le_of_ble_eq_true rfl) (Nat.le_of_ble_eq_true rfl)
    exact absurd (by simp only [if_neg h7, if_neg h8]) h6
  refine AW.i2l (pc := 10) dL_drawn_10 ?_
  refine AW.chk (fun g9 => ?_)
  refine AW.last (pc := 11) dL_drawn_11 (k0e g9.1) (kct (k0e g9.1) rfl hct) g9.2 ?_
  refine AW.genM (fun M10 => ?_)
  refine AW.goto (pc := 12) 23 dL_drawn_12 (by decide) ?_
  refine AW.iconst (pc := 23) dL_drawn_23 ci_0 ?_
  exact AW.iret (pc := 24) dL_drawn_24 rfl (fun _ _ _ => rfl) (Nat.le_of_ble_eq_true rfl) (Nat.le_of_ble_eq_true rfl)
-- GateBoxLaw.empty(LGateBox;I[J)I
def zL_empty (x0 : Nat) (x1 : Int32) (x2 : Nat) (M : Mem) : Option (Int32 × Mem) :=
  if K0 x0 = (0, 11) then
  bndK (zX11_empty x0 x1 M) (fun k5 M4 => if k5 = 0 then some (1, M4) else none) fun v1 M2 =>
  if (K0 x2).1 = 2 ∧ inb 0 (K0 x2).2 = true then
  lt (sL M2 x2 (Int32.toNatClampNeg 0) (Int32.toInt64 v1)) fun M9 =>
  some (0, M9)
  else none
  else none
set_option maxRecDepth 20000 in
set_option maxHeartbeats 4000000 in
theorem kL_empty (l : Launch) (E : Ev) (hst : l.stackTraces = false) (n : Nat) (hn : 14 ≤ n) (ct : Nat) (hct : 111 ≤ ct) (x0 : Nat) (x1 : Int32) (x2 : Nat) (M : Mem) : AMW l E n ct yL_empty fL_empty enI [.ref (ad E x0), .int x1, .ref (ad E x2)] M (zL_empty x0 x1 x2 M) := by
  unfold zL_empty
  refine AMW.of (by decide +kernel) ⟨rfl, rfl⟩ (Nat.le_of_ble_eq_true rfl) ?_
  refine AW.aload_n (pc := 0) dL_empty_0 rfl 2 rfl ?_
  refine AW.iconst (pc := 1) dL_empty_1 ci_0 ?_
  refine AW.aload_n (pc := 2) dL_empty_2 rfl 0 rfl ?_
  refine AW.iload_n (pc := 3) dL_empty_3 rfl 1 rfl ?_
  refine AW.chk (fun g3 => ?_)
  refine AW.callC [.int x1] [.int 0, .ref (ad E x2)] (pc := 4) (by decide) dL_empty_4 mlL_107 mbX11_empty rfl g3 (kct g3 rfl hct) (fun _ => okR_M (by omega) (Nat.le_of_ble_eq_true rfl) (Nat.le_of_ble_eq_true rfl)) (kX11_empty l E hst (n - 1) (by omega) ct hct false x0 x1 M) rfl (Nat.le_of_ble_eq_true rfl) (fun k5 M4 h6 => ?_) (fun v1 M2 => ?_)
  · by_cases h7 : k5 = 0
    · subst h7
      refine ⟨by decide, 12, ⟨[], ⟨0, 9, 12, 13⟩, [], rfl, by decide, by decide, rfl, clL_13, (fun z hz => absurd hz List.not_mem_nil)⟩, fun q => ?_⟩
      refine AW.eqF (F' := some (1, M4)) rfl ?_
      refine AW.astore_n (pc := 12) [] [] dL_empty_12 rfl (by decide) rfl ?_
      refine AW.iconst (pc := 13) dL_empty_13 ci_1 ?_
      exact AW.iret (pc := 14) dL_empty_14 rfl (fun _ _ _ => rfl) (Nat.le_of_ble_eq_true rfl) (Nat.le_of_ble_eq_true rfl)
    exact absurd (by simp only [if_neg h7]) h6
  refine AW.i2l (pc := 7) dL_empty_7 ?_
  refine AW.chk (fun g8 => ?_)
  refine AW.last (pc := 8) dL_empty_8 (k0e g8.1) (kct (k0e g8.1) rfl hct) g8.2 ?_
  refine AW.genM (fun M9 => ?_)
  refine AW.goto (pc := 9) 15 dL_empty_9 (by decide) ?_
  refine AW.iconst (pc := 15) dL_empty_15 ci_0 ?_
  exact AW.iret (pc := 16) dL_empty_16 rfl (fun _ _ _ => rfl) (Nat.le_of_ble_eq_true rfl) (Nat.le_of_ble_eq_true rfl)
