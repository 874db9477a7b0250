/-! ===== functions over the memory and their contracts: printed by wip/whole/lay.py ===== -/
-- GateBoxLaw.law([I)Z
def zL_law_B2480 (L : Nat) (xs : Nat → Int32) (KK23 : Nat → Nat → Nat → Int32 → Mem → Option (Int32 × Mem)) (x1 : Nat) (x2 : Nat) (x3 : Nat) (x4 : Int32) (M : Mem) : Option (Int32 × Mem) :=
  KK23 x1 x2 x3 (x4 + 6) M
def zL_law_B2467 (L : Nat) (xs : Nat → Int32) (KK23 : Nat → Nat → Nat → Int32 → Mem → Option (Int32 × Mem)) (x1 : Nat) (x2 : Nat) (x3 : Nat) (x4 : Int32) (M : Mem) : Option (Int32 × Mem) :=
  if K0 x1 = (0, 11) then
  bnd (zX11_restore x1 M) fun v1 M2 =>
  if K0 x2 = (0, 12) then
  bnd (zX12_restore x2 M2) fun v4 M5 =>
  if v1 = v4 then
    zL_law_B2480 L xs KK23 x1 x2 x3 x4 M5
  else
    some (0, M5)
  else none
  else none
def zL_law_B2456 (L : Nat) (xs : Nat → Int32) (KK23 : Nat → Nat → Nat → Int32 → Mem → Option (Int32 × Mem)) (x1 : Nat) (x2 : Nat) (x3 : Nat) (x4 : Int32) (M : Mem) : Option (Int32 × Mem) :=
  if K0 x1 = (0, 11) then
  bnd (zX11_image x1 M) fun _ M1 =>
  if K0 x2 = (0, 12) then
  bnd (zX12_image x2 M1) fun _ M3 =>
  zL_law_B2480 L xs KK23 x1 x2 x3 x4 M3
  else none
  else none
def zL_law_B2453 (L : Nat) (xs : Nat → Int32) (KK23 : Nat → Nat → Nat → Int32 → Mem → Option (Int32 × Mem)) (x1 : Nat) (x2 : Nat) (x3 : Nat) (x4 : Int32) (M : Mem) : Option (Int32 × Mem) :=
  zL_law_B2480 L xs KK23 x1 x2 x3 x4 M
def zL_law_B2400 (L : Nat) (xs : Nat → Int32) (KK23 : Nat → Nat → Nat → Int32 → Mem → Option (Int32 × Mem)) (x1 : Nat) (x2 : Nat) (x3 : Nat) (x4 : Int32) (M : Mem) : Option (Int32 × Mem) :=
  if inb (x4 + 1) L = true then
  bnd (zL_empty x1 (xs (Int32.toNatClampNeg (x4 + 1))) x3 M) fun v2 M3 =>
  if inb (x4 + 1) L = true then
  if K0 x2 = (0, 12) then
  bnd (zX12_empty x2 (xs (Int32.toNatClampNeg (x4 + 1))) M3) fun v5 M6 =>
  bnd (zX12_thrown x2 M6) fun v8 M9 =>
  if v8 = v2 then
    if v2 = 0 then
      if (K0 x3).1 = 2 ∧ inb 0 (K0 x3).2 = true then
      if (lg_cmp (mL M9 x3 (Int32.toNatClampNeg 0)) (Int32.toInt64 v5)) = 0 then
        zL_law_B2453 L xs KK23 x1 x2 x3 x4 M9
      else
        some (0, M9)
      else none
    else
      zL_law_B2453 L xs KK23 x1 x2 x3 x4 M9
  else
    some (0, M9)
  else none
  else none
  else none
def zL_law_B2397 (L : Nat) (xs : Nat → Int32) (KK23 : Nat → Nat → Nat → Int32 → Mem → Option (Int32 × Mem)) (x1 : Nat) (x2 : Nat) (x3 : Nat) (x4 : Int32) (M : Mem) : Option (Int32 × Mem) :=
  zL_law_B2480 L xs KK23 x1 x2 x3 x4 M
def zL_law_B2320 (L : Nat) (xs : Nat → Int32) (KK23 : Nat → Nat → Nat → Int32 → Mem → Option (Int32 × Mem)) (x1 : Nat) (x2 : Nat) (x3 : Nat) (x4 : Int32) (M : Mem) : Option (Int32 × Mem) :=
  if inb (x4 + 1) L = true then
  if inb (x4 + 2) L = true then
  if inb (x4 + 3) L = true then
  bnd (zL_drawn x1 (xs (Int32.toNatClampNeg (x4 + 1))) (xs (Int32.toNatClampNeg (x4 + 2))) (xs (Int32.toNatClampNeg (x4 + 3))) x3 M) fun v4 M5 =>
  if inb (x4 + 1) L = true then
  if inb (x4 + 2) L = true then
  if inb (x4 + 3) L = true then
  if K0 x2 = (0, 12) then
  bnd (zX12_drawn x2 (xs (Int32.toNatClampNeg (x4 + 1))) (xs (Int32.toNatClampNeg (x4 + 2))) (xs (Int32.toNatClampNeg (x4 + 3))) M5) fun v9 M10 =>
  bnd (zX12_thrown x2 M10) fun v12 M13 =>
  if v12 = v4 then
    if v4 = 0 then
      if (K0 x3).1 = 2 ∧ inb 0 (K0 x3).2 = true then
      if (lg_cmp (mL M13 x3 (Int32.toNatClampNeg 0)) (Int32.toInt64 v9)) = 0 then
        zL_law_B2397 L xs KK23 x1 x2 x3 x4 M13
      else
        some (0, M13)
      else none
    else
      zL_law_B2397 L xs KK23 x1 x2 x3 x4 M13
  else
    some (0, M13)
  else none
  else none
  else none
  else none
  else none
  else none
  else none
def zL_law_B2317 (L : Nat) (xs : Nat → Int32) (KK23 : Nat → Nat → Nat → Int32 → Mem → Option (Int32 × Mem)) (x1 : Nat) (x2 : Nat) (x3 : Nat) (x4 : Int32) (M : Mem) : Option (Int32 × Mem) :=
  zL_law_B2480 L xs KK23 x1 x2 x3 x4 M
def zL_law_B2252 (L : Nat) (xs : Nat → Int32) (KK23 : Nat → Nat → Nat → Int32 → Mem → Option (Int32 × Mem)) (x1 : Nat) (x2 : Nat) (x3 : Nat) (x4 : Int32) (M : Mem) : Option (Int32 × Mem) :=
  if inb (x4 + 1) L = true then
  if inb (x4 + 2) L = true then
  bnd (zL_credit x1 (xs (Int32.toNatClampNeg (x4 + 1))) (xs (Int32.toNatClampNeg (x4 + 2))) x3 M) fun v3 M4 =>
  if inb (x4 + 1) L = true then
  if inb (x4 + 2) L = true then
  if K0 x2 = (0, 12) then
  bnd (zX12_credit x2 (xs (Int32.toNatClampNeg (x4 + 1))) (xs (Int32.toNatClampNeg (x4 + 2))) M4) fun v7 M8 =>
  bnd (zX12_thrown x2 M8) fun v10 M11 =>
  if v10 = v3 then
    if v3 = 0 then
      if (K0 x3).1 = 2 ∧ inb 0 (K0 x3).2 = true then
      if (lg_cmp (mL M11 x3 (Int32.toNatClampNeg 0)) (Int32.toInt64 v7)) = 0 then
        zL_law_B2317 L xs KK23 x1 x2 x3 x4 M11
      else
        some (0, M11)
      else none
    else
      zL_law_B2317 L xs KK23 x1 x2 x3 x4 M11
  else
    some (0, M11)
  else none
  else none
  else none
  else none
  else none
def zL_law_B2249 (L : Nat) (xs : Nat → Int32) (KK23 : Nat → Nat → Nat → Int32 → Mem → Option (Int32 × Mem)) (x1 : Nat) (x2 : Nat) (x3 : Nat) (x4 : Int32) (M : Mem) : Option (Int32 × Mem) :=
  zL_law_B2480 L xs KK23 x1 x2 x3 x4 M
def zL_law_B2243 (L : Nat) (xs : Nat → Int32) (KK23 : Nat → Nat → Nat → Int32 → Mem → Option (Int32 × Mem)) (x1 : Nat) (x2 : Nat) (x3 : Nat) (x4 : Int32) (s0 : Int64) (s1 : Int64) (M : Mem) : Option (Int32 × Mem) :=
  if (lg_cmp s0 s1) = 0 then
    zL_law_B2249 L xs KK23 x1 x2 x3 x4 M
  else
    some (0, M)
def zL_law_B2153 (L : Nat) (xs : Nat → Int32) (KK23 : Nat → Nat → Nat → Int32 → Mem → Option (Int32 × Mem)) (x1 : Nat) (x2 : Nat) (x3 : Nat) (x4 : Int32) (M : Mem) : Option (Int32 × Mem) :=
  if inb (x4 + 1) L = true then
  if inb (x4 + 2) L = true then
  if inb (x4 + 3) L = true then
  if inb (x4 + 4) L = true then
  bnd (zL_guess x1 (xs (Int32.toNatClampNeg (x4 + 1))) (xs (Int32.toNatClampNeg (x4 + 2))) (xs (Int32.toNatClampNeg (x4 + 3))) (xs (Int32.toNatClampNeg (x4 + 4))) x3 M) fun v5 M6 =>
  if inb (x4 + 1) L = true then
  if inb (x4 + 2) L = true then
  if inb (x4 + 3) L = true then
  if inb (x4 + 4) L = true then
  if K0 x2 = (0, 12) then
  bnd (zX12_guess x2 (xs (Int32.toNatClampNeg (x4 + 1))) (xs (Int32.toNatClampNeg (x4 + 2))) (xs (Int32.toNatClampNeg (x4 + 3))) (xs (Int32.toNatClampNeg (x4 + 4))) M6) fun v11 M12 =>
  bnd (zX12_thrown x2 M12) fun v14 M15 =>
  if v14 = v5 then
    if v5 = 0 then
      if (K0 x3).1 = 2 ∧ inb 0 (K0 x3).2 = true then
      if v11 = 0 then
        zL_law_B2243 L xs KK23 x1 x2 x3 x4 (mL M15 x3 (Int32.toNatClampNeg 0)) 0 M15
      else
        zL_law_B2243 L xs KK23 x1 x2 x3 x4 (mL M15 x3 (Int32.toNatClampNeg 0)) 1 M15
      else none
    else
      zL_law_B2249 L xs KK23 x1 x2 x3 x4 M15
  else
    some (0, M15)
  else none
  else none
  else none
  else none
  else none
  else none
  else none
  else none
  else none
def zL_law_B2150 (L : Nat) (xs : Nat → Int32) (KK23 : Nat → Nat → Nat → Int32 → Mem → Option (Int32 × Mem)) (x1 : Nat) (x2 : Nat) (x3 : Nat) (x4 : Int32) (M : Mem) : Option (Int32 × Mem) :=
  zL_law_B2480 L xs KK23 x1 x2 x3 x4 M
def zL_law_B2097 (L : Nat) (xs : Nat → Int32) (KK23 : Nat → Nat → Nat → Int32 → Mem → Option (Int32 × Mem)) (x1 : Nat) (x2 : Nat) (x3 : Nat) (x4 : Int32) (M : Mem) : Option (Int32 × Mem) :=
  if inb (x4 + 1) L = true then
  bnd (zL_fewest x1 (xs (Int32.toNatClampNeg (x4 + 1))) x3 M) fun v2 M3 =>
  if inb (x4 + 1) L = true then
  if K0 x2 = (0, 12) then
  bnd (zX12_fewest x2 (xs (Int32.toNatClampNeg (x4 + 1))) M3) fun v5 M6 =>
  bnd (zX12_thrown x2 M6) fun v8 M9 =>
  if v8 = v2 then
    if v2 = 0 then
      if (K0 x3).1 = 2 ∧ inb 0 (K0 x3).2 = true then
      if (lg_cmp (mL M9 x3 (Int32.toNatClampNeg 0)) (Int32.toInt64 v5)) = 0 then
        zL_law_B2150 L xs KK23 x1 x2 x3 x4 M9
      else
        some (0, M9)
      else none
    else
      zL_law_B2150 L xs KK23 x1 x2 x3 x4 M9
  else
    some (0, M9)
  else none
  else none
  else none
def zL_law_B2094 (L : Nat) (xs : Nat → Int32) (KK23 : Nat → Nat → Nat → Int32 → Mem → Option (Int32 × Mem)) (x1 : Nat) (x2 : Nat) (x3 : Nat) (x4 : Int32) (M : Mem) : Option (Int32 × Mem) :=
  zL_law_B2480 L xs KK23 x1 x2 x3 x4 M
def zL_law_B2041 (L : Nat) (xs : Nat → Int32) (KK23 : Nat → Nat → Nat → Int32 → Mem → Option (Int32 × Mem)) (x1 : Nat) (x2 : Nat) (x3 : Nat) (x4 : Int32) (M : Mem) : Option (Int32 × Mem) :=
  if inb (x4 + 1) L = true then
  bnd (zL_strange x1 (xs (Int32.toNatClampNeg (x4 + 1))) x3 M) fun v2 M3 =>
  if inb (x4 + 1) L = true then
  if K0 x2 = (0, 12) then
  bnd (zX12_strange x2 (xs (Int32.toNatClampNeg (x4 + 1))) M3) fun v5 M6 =>
  bnd (zX12_thrown x2 M6) fun v8 M9 =>
  if v8 = v2 then
    if v2 = 0 then
      if (K0 x3).1 = 2 ∧ inb 0 (K0 x3).2 = true then
      if (lg_cmp (mL M9 x3 (Int32.toNatClampNeg 0)) (Int32.toInt64 v5)) = 0 then
        zL_law_B2094 L xs KK23 x1 x2 x3 x4 M9
      else
        some (0, M9)
      else none
    else
      zL_law_B2094 L xs KK23 x1 x2 x3 x4 M9
  else
    some (0, M9)
  else none
  else none
  else none
def zL_law_B2038 (L : Nat) (xs : Nat → Int32) (KK23 : Nat → Nat → Nat → Int32 → Mem → Option (Int32 × Mem)) (x1 : Nat) (x2 : Nat) (x3 : Nat) (x4 : Int32) (M : Mem) : Option (Int32 × Mem) :=
  zL_law_B2480 L xs KK23 x1 x2 x3 x4 M
def zL_law_B1961 (L : Nat) (xs : Nat → Int32) (KK23 : Nat → Nat → Nat → Int32 → Mem → Option (Int32 × Mem)) (x1 : Nat) (x2 : Nat) (x3 : Nat) (x4 : Int32) (M : Mem) : Option (Int32 × Mem) :=
  if inb (x4 + 1) L = true then
  if inb (x4 + 2) L = true then
  if inb (x4 + 3) L = true then
  bnd (zL_who x1 (xs (Int32.toNatClampNeg (x4 + 1))) (xs (Int32.toNatClampNeg (x4 + 2))) (xs (Int32.toNatClampNeg (x4 + 3))) x3 M) fun v4 M5 =>
  if inb (x4 + 1) L = true then
  if inb (x4 + 2) L = true then
  if inb (x4 + 3) L = true then
  if K0 x2 = (0, 12) then
  bnd (zX12_who x2 (xs (Int32.toNatClampNeg (x4 + 1))) (xs (Int32.toNatClampNeg (x4 + 2))) (xs (Int32.toNatClampNeg (x4 + 3))) M5) fun v9 M10 =>
  bnd (zX12_thrown x2 M10) fun v12 M13 =>
  if v12 = v4 then
    if v4 = 0 then
      if (K0 x3).1 = 2 ∧ inb 0 (K0 x3).2 = true then
      if (lg_cmp (mL M13 x3 (Int32.toNatClampNeg 0)) (Int32.toInt64 v9)) = 0 then
        zL_law_B2038 L xs KK23 x1 x2 x3 x4 M13
      else
        some (0, M13)
      else none
    else
      zL_law_B2038 L xs KK23 x1 x2 x3 x4 M13
  else
    some (0, M13)
  else none
  else none
  else none
  else none
  else none
  else none
  else none
def zL_law_B1958 (L : Nat) (xs : Nat → Int32) (KK23 : Nat → Nat → Nat → Int32 → Mem → Option (Int32 × Mem)) (x1 : Nat) (x2 : Nat) (x3 : Nat) (x4 : Int32) (M : Mem) : Option (Int32 × Mem) :=
  zL_law_B2480 L xs KK23 x1 x2 x3 x4 M
def zL_law_B1881 (L : Nat) (xs : Nat → Int32) (KK23 : Nat → Nat → Nat → Int32 → Mem → Option (Int32 × Mem)) (x1 : Nat) (x2 : Nat) (x3 : Nat) (x4 : Int32) (M : Mem) : Option (Int32 × Mem) :=
  if inb (x4 + 1) L = true then
  if inb (x4 + 2) L = true then
  if inb (x4 + 3) L = true then
  bnd (zL_given x1 (xs (Int32.toNatClampNeg (x4 + 1))) (xs (Int32.toNatClampNeg (x4 + 2))) (xs (Int32.toNatClampNeg (x4 + 3))) x3 M) fun v4 M5 =>
  if inb (x4 + 1) L = true then
  if inb (x4 + 2) L = true then
  if inb (x4 + 3) L = true then
  if K0 x2 = (0, 12) then
  bnd (zX12_given x2 (xs (Int32.toNatClampNeg (x4 + 1))) (xs (Int32.toNatClampNeg (x4 + 2))) (xs (Int32.toNatClampNeg (x4 + 3))) M5) fun v9 M10 =>
  bnd (zX12_thrown x2 M10) fun v12 M13 =>
  if v12 = v4 then
    if v4 = 0 then
      if (K0 x3).1 = 2 ∧ inb 0 (K0 x3).2 = true then
      if (lg_cmp (mL M13 x3 (Int32.toNatClampNeg 0)) (Int32.toInt64 v9)) = 0 then
        zL_law_B1958 L xs KK23 x1 x2 x3 x4 M13
      else
        some (0, M13)
      else none
    else
      zL_law_B1958 L xs KK23 x1 x2 x3 x4 M13
  else
    some (0, M13)
  else none
  else none
  else none
  else none
  else none
  else none
  else none
def zL_law_B1878 (L : Nat) (xs : Nat → Int32) (KK23 : Nat → Nat → Nat → Int32 → Mem → Option (Int32 × Mem)) (x1 : Nat) (x2 : Nat) (x3 : Nat) (x4 : Int32) (M : Mem) : Option (Int32 × Mem) :=
  zL_law_B2480 L xs KK23 x1 x2 x3 x4 M
def zL_law_B1813 (L : Nat) (xs : Nat → Int32) (KK23 : Nat → Nat → Nat → Int32 → Mem → Option (Int32 × Mem)) (x1 : Nat) (x2 : Nat) (x3 : Nat) (x4 : Int32) (M : Mem) : Option (Int32 × Mem) :=
  if inb (x4 + 1) L = true then
  if inb (x4 + 2) L = true then
  bnd (zL_give x1 (xs (Int32.toNatClampNeg (x4 + 1))) (xs (Int32.toNatClampNeg (x4 + 2))) x3 M) fun v3 M4 =>
  if inb (x4 + 1) L = true then
  if inb (x4 + 2) L = true then
  if K0 x2 = (0, 12) then
  bnd (zX12_give x2 (xs (Int32.toNatClampNeg (x4 + 1))) (xs (Int32.toNatClampNeg (x4 + 2))) M4) fun v7 M8 =>
  bnd (zX12_thrown x2 M8) fun v10 M11 =>
  if v10 = v3 then
    if v3 = 0 then
      if (K0 x3).1 = 2 ∧ inb 0 (K0 x3).2 = true then
      if (lg_cmp (mL M11 x3 (Int32.toNatClampNeg 0)) (Int32.toInt64 v7)) = 0 then
        zL_law_B1878 L xs KK23 x1 x2 x3 x4 M11
      else
        some (0, M11)
      else none
    else
      zL_law_B1878 L xs KK23 x1 x2 x3 x4 M11
  else
    some (0, M11)
  else none
  else none
  else none
  else none
  else none
def zL_law_B1810 (L : Nat) (xs : Nat → Int32) (KK23 : Nat → Nat → Nat → Int32 → Mem → Option (Int32 × Mem)) (x1 : Nat) (x2 : Nat) (x3 : Nat) (x4 : Int32) (M : Mem) : Option (Int32 × Mem) :=
  zL_law_B2480 L xs KK23 x1 x2 x3 x4 M
def zL_law_B1745 (L : Nat) (xs : Nat → Int32) (KK23 : Nat → Nat → Nat → Int32 → Mem → Option (Int32 × Mem)) (x1 : Nat) (x2 : Nat) (x3 : Nat) (x4 : Int32) (M : Mem) : Option (Int32 × Mem) :=
  if inb (x4 + 1) L = true then
  if inb (x4 + 2) L = true then
  bnd (zL_near x1 (xs (Int32.toNatClampNeg (x4 + 1))) (xs (Int32.toNatClampNeg (x4 + 2))) x3 M) fun v3 M4 =>
  if inb (x4 + 1) L = true then
  if inb (x4 + 2) L = true then
  if K0 x2 = (0, 12) then
  bnd (zX12_near x2 (xs (Int32.toNatClampNeg (x4 + 1))) (xs (Int32.toNatClampNeg (x4 + 2))) M4) fun v7 M8 =>
  bnd (zX12_thrown x2 M8) fun v10 M11 =>
  if v10 = v3 then
    if v3 = 0 then
      if (K0 x3).1 = 2 ∧ inb 0 (K0 x3).2 = true then
      if (lg_cmp (mL M11 x3 (Int32.toNatClampNeg 0)) (Int32.toInt64 v7)) = 0 then
        zL_law_B1810 L xs KK23 x1 x2 x3 x4 M11
      else
        some (0, M11)
      else none
    else
      zL_law_B1810 L xs KK23 x1 x2 x3 x4 M11
  else
    some (0, M11)
  else none
  else none
  else none
  else none
  else none
def zL_law_B1742 (L : Nat) (xs : Nat → Int32) (KK23 : Nat → Nat → Nat → Int32 → Mem → Option (Int32 × Mem)) (x1 : Nat) (x2 : Nat) (x3 : Nat) (x4 : Int32) (M : Mem) : Option (Int32 × Mem) :=
  zL_law_B2480 L xs KK23 x1 x2 x3 x4 M
def zL_law_B1653 (L : Nat) (xs : Nat → Int32) (KK23 : Nat → Nat → Nat → Int32 → Mem → Option (Int32 × Mem)) (x1 : Nat) (x2 : Nat) (x3 : Nat) (x4 : Int32) (M : Mem) : Option (Int32 × Mem) :=
  if inb (x4 + 1) L = true then
  if inb (x4 + 2) L = true then
  if inb (x4 + 3) L = true then
  if inb (x4 + 4) L = true then
  bnd (zL_mixed x1 (xs (Int32.toNatClampNeg (x4 + 1))) (xs (Int32.toNatClampNeg (x4 + 2))) (xs (Int32.toNatClampNeg (x4 + 3))) (xs (Int32.toNatClampNeg (x4 + 4))) x3 M) fun v5 M6 =>
  if inb (x4 + 1) L = true then
  if inb (x4 + 2) L = true then
  if inb (x4 + 3) L = true then
  if inb (x4 + 4) L = true then
  if K0 x2 = (0, 12) then
  bnd (zX12_mixed x2 (xs (Int32.toNatClampNeg (x4 + 1))) (xs (Int32.toNatClampNeg (x4 + 2))) (xs (Int32.toNatClampNeg (x4 + 3))) (xs (Int32.toNatClampNeg (x4 + 4))) M6) fun v11 M12 =>
  bnd (zX12_thrown x2 M12) fun v14 M15 =>
  if v14 = v5 then
    if v5 = 0 then
      if (K0 x3).1 = 2 ∧ inb 0 (K0 x3).2 = true then
      if (lg_cmp (mL M15 x3 (Int32.toNatClampNeg 0)) (Int32.toInt64 v11)) = 0 then
        zL_law_B1742 L xs KK23 x1 x2 x3 x4 M15
      else
        some (0, M15)
      else none
    else
      zL_law_B1742 L xs KK23 x1 x2 x3 x4 M15
  else
    some (0, M15)
  else none
  else none
  else none
  else none
  else none
  else none
  else none
  else none
  else none
def zL_law_B1650 (L : Nat) (xs : Nat → Int32) (KK23 : Nat → Nat → Nat → Int32 → Mem → Option (Int32 × Mem)) (x1 : Nat) (x2 : Nat) (x3 : Nat) (x4 : Int32) (M : Mem) : Option (Int32 × Mem) :=
  zL_law_B2480 L xs KK23 x1 x2 x3 x4 M
def zL_law_B1597 (L : Nat) (xs : Nat → Int32) (KK23 : Nat → Nat → Nat → Int32 → Mem → Option (Int32 × Mem)) (x1 : Nat) (x2 : Nat) (x3 : Nat) (x4 : Int32) (M : Mem) : Option (Int32 × Mem) :=
  if inb (x4 + 1) L = true then
  bnd (zL_priced x1 (xs (Int32.toNatClampNeg (x4 + 1))) x3 M) fun v2 M3 =>
  if inb (x4 + 1) L = true then
  if K0 x2 = (0, 12) then
  bnd (zX12_priced x2 (xs (Int32.toNatClampNeg (x4 + 1))) M3) fun v5 M6 =>
  bnd (zX12_thrown x2 M6) fun v8 M9 =>
  if v8 = v2 then
    if v2 = 0 then
      if (K0 x3).1 = 2 ∧ inb 0 (K0 x3).2 = true then
      if (lg_cmp (mL M9 x3 (Int32.toNatClampNeg 0)) (Int32.toInt64 v5)) = 0 then
        zL_law_B1650 L xs KK23 x1 x2 x3 x4 M9
      else
        some (0, M9)
      else none
    else
      zL_law_B1650 L xs KK23 x1 x2 x3 x4 M9
  else
    some (0, M9)
  else none
  else none
  else none
def zL_law_B1594 (L : Nat) (xs : Nat → Int32) (KK23 : Nat → Nat → Nat → Int32 → Mem → Option (Int32 × Mem)) (x1 : Nat) (x2 : Nat) (x3 : Nat) (x4 : Int32) (M : Mem) : Option (Int32 × Mem) :=
  zL_law_B2480 L xs KK23 x1 x2 x3 x4 M
def zL_law_B1517 (L : Nat) (xs : Nat → Int32) (KK23 : Nat → Nat → Nat → Int32 → Mem → Option (Int32 × Mem)) (x1 : Nat) (x2 : Nat) (x3 : Nat) (x4 : Int32) (M : Mem) : Option (Int32 × Mem) :=
  if inb (x4 + 1) L = true then
  if inb (x4 + 2) L = true then
  if inb (x4 + 3) L = true then
  bnd (zL_price x1 (xs (Int32.toNatClampNeg (x4 + 1))) (xs (Int32.toNatClampNeg (x4 + 2))) (xs (Int32.toNatClampNeg (x4 + 3))) x3 M) fun v4 M5 =>
  if inb (x4 + 1) L = true then
  if inb (x4 + 2) L = true then
  if inb (x4 + 3) L = true then
  if K0 x2 = (0, 12) then
  bnd (zX12_price x2 (xs (Int32.toNatClampNeg (x4 + 1))) (xs (Int32.toNatClampNeg (x4 + 2))) (xs (Int32.toNatClampNeg (x4 + 3))) M5) fun v9 M10 =>
  bnd (zX12_thrown x2 M10) fun v12 M13 =>
  if v12 = v4 then
    if v4 = 0 then
      if (K0 x3).1 = 2 ∧ inb 0 (K0 x3).2 = true then
      if (lg_cmp (mL M13 x3 (Int32.toNatClampNeg 0)) (Int32.toInt64 v9)) = 0 then
        zL_law_B1594 L xs KK23 x1 x2 x3 x4 M13
      else
        some (0, M13)
      else none
    else
      zL_law_B1594 L xs KK23 x1 x2 x3 x4 M13
  else
    some (0, M13)
  else none
  else none
  else none
  else none
  else none
  else none
  else none
def zL_law_B1514 (L : Nat) (xs : Nat → Int32) (KK23 : Nat → Nat → Nat → Int32 → Mem → Option (Int32 × Mem)) (x1 : Nat) (x2 : Nat) (x3 : Nat) (x4 : Int32) (M : Mem) : Option (Int32 × Mem) :=
  zL_law_B2480 L xs KK23 x1 x2 x3 x4 M
def zL_law_B1449 (L : Nat) (xs : Nat → Int32) (KK23 : Nat → Nat → Nat → Int32 → Mem → Option (Int32 × Mem)) (x1 : Nat) (x2 : Nat) (x3 : Nat) (x4 : Int32) (M : Mem) : Option (Int32 × Mem) :=
  if inb (x4 + 1) L = true then
  if inb (x4 + 2) L = true then
  bnd (zL_seeded x1 (xs (Int32.toNatClampNeg (x4 + 1))) (xs (Int32.toNatClampNeg (x4 + 2))) x3 M) fun v3 M4 =>
  if inb (x4 + 1) L = true then
  if inb (x4 + 2) L = true then
  if K0 x2 = (0, 12) then
  bnd (zX12_seeded x2 (xs (Int32.toNatClampNeg (x4 + 1))) (xs (Int32.toNatClampNeg (x4 + 2))) M4) fun v7 M8 =>
  bnd (zX12_thrown x2 M8) fun v10 M11 =>
  if v10 = v3 then
    if v3 = 0 then
      if (K0 x3).1 = 2 ∧ inb 0 (K0 x3).2 = true then
      if (lg_cmp (mL M11 x3 (Int32.toNatClampNeg 0)) (Int32.toInt64 v7)) = 0 then
        zL_law_B1514 L xs KK23 x1 x2 x3 x4 M11
      else
        some (0, M11)
      else none
    else
      zL_law_B1514 L xs KK23 x1 x2 x3 x4 M11
  else
    some (0, M11)
  else none
  else none
  else none
  else none
  else none
def zL_law_B1446 (L : Nat) (xs : Nat → Int32) (KK23 : Nat → Nat → Nat → Int32 → Mem → Option (Int32 × Mem)) (x1 : Nat) (x2 : Nat) (x3 : Nat) (x4 : Int32) (M : Mem) : Option (Int32 × Mem) :=
  zL_law_B2480 L xs KK23 x1 x2 x3 x4 M
def zL_law_B1381 (L : Nat) (xs : Nat → Int32) (KK23 : Nat → Nat → Nat → Int32 → Mem → Option (Int32 × Mem)) (x1 : Nat) (x2 : Nat) (x3 : Nat) (x4 : Int32) (M : Mem) : Option (Int32 × Mem) :=
  if inb (x4 + 1) L = true then
  if inb (x4 + 2) L = true then
  bnd (zL_card x1 (xs (Int32.toNatClampNeg (x4 + 1))) (xs (Int32.toNatClampNeg (x4 + 2))) x3 M) fun v3 M4 =>
  if inb (x4 + 1) L = true then
  if inb (x4 + 2) L = true then
  if K0 x2 = (0, 12) then
  bnd (zX12_card x2 (xs (Int32.toNatClampNeg (x4 + 1))) (xs (Int32.toNatClampNeg (x4 + 2))) M4) fun v7 M8 =>
  bnd (zX12_thrown x2 M8) fun v10 M11 =>
  if v10 = v3 then
    if v3 = 0 then
      if (K0 x3).1 = 2 ∧ inb 0 (K0 x3).2 = true then
      if (lg_cmp (mL M11 x3 (Int32.toNatClampNeg 0)) (Int32.toInt64 v7)) = 0 then
        zL_law_B1446 L xs KK23 x1 x2 x3 x4 M11
      else
        some (0, M11)
      else none
    else
      zL_law_B1446 L xs KK23 x1 x2 x3 x4 M11
  else
    some (0, M11)
  else none
  else none
  else none
  else none
  else none
def zL_law_B1378 (L : Nat) (xs : Nat → Int32) (KK23 : Nat → Nat → Nat → Int32 → Mem → Option (Int32 × Mem)) (x1 : Nat) (x2 : Nat) (x3 : Nat) (x4 : Int32) (M : Mem) : Option (Int32 × Mem) :=
  zL_law_B2480 L xs KK23 x1 x2 x3 x4 M
def zL_law_B1301 (L : Nat) (xs : Nat → Int32) (KK23 : Nat → Nat → Nat → Int32 → Mem → Option (Int32 × Mem)) (x1 : Nat) (x2 : Nat) (x3 : Nat) (x4 : Int32) (M : Mem) : Option (Int32 × Mem) :=
  if inb (x4 + 1) L = true then
  if inb (x4 + 2) L = true then
  if inb (x4 + 3) L = true then
  bnd (zL_would x1 (xs (Int32.toNatClampNeg (x4 + 1))) (xs (Int32.toNatClampNeg (x4 + 2))) (xs (Int32.toNatClampNeg (x4 + 3))) x3 M) fun v4 M5 =>
  if inb (x4 + 1) L = true then
  if inb (x4 + 2) L = true then
  if inb (x4 + 3) L = true then
  if K0 x2 = (0, 12) then
  bnd (zX12_would x2 (xs (Int32.toNatClampNeg (x4 + 1))) (xs (Int32.toNatClampNeg (x4 + 2))) (xs (Int32.toNatClampNeg (x4 + 3))) M5) fun v9 M10 =>
  bnd (zX12_thrown x2 M10) fun v12 M13 =>
  if v12 = v4 then
    if v4 = 0 then
      if (K0 x3).1 = 2 ∧ inb 0 (K0 x3).2 = true then
      if (lg_cmp (mL M13 x3 (Int32.toNatClampNeg 0)) (Int32.toInt64 v9)) = 0 then
        zL_law_B1378 L xs KK23 x1 x2 x3 x4 M13
      else
        some (0, M13)
      else none
    else
      zL_law_B1378 L xs KK23 x1 x2 x3 x4 M13
  else
    some (0, M13)
  else none
  else none
  else none
  else none
  else none
  else none
  else none
def zL_law_B1298 (L : Nat) (xs : Nat → Int32) (KK23 : Nat → Nat → Nat → Int32 → Mem → Option (Int32 × Mem)) (x1 : Nat) (x2 : Nat) (x3 : Nat) (x4 : Int32) (M : Mem) : Option (Int32 × Mem) :=
  zL_law_B2480 L xs KK23 x1 x2 x3 x4 M
def zL_law_B1209 (L : Nat) (xs : Nat → Int32) (KK23 : Nat → Nat → Nat → Int32 → Mem → Option (Int32 × Mem)) (x1 : Nat) (x2 : Nat) (x3 : Nat) (x4 : Int32) (M : Mem) : Option (Int32 × Mem) :=
  if inb (x4 + 1) L = true then
  if inb (x4 + 2) L = true then
  if inb (x4 + 3) L = true then
  if inb (x4 + 4) L = true then
  bnd (zL_best x1 (xs (Int32.toNatClampNeg (x4 + 1))) (xs (Int32.toNatClampNeg (x4 + 2))) (xs (Int32.toNatClampNeg (x4 + 3))) (xs (Int32.toNatClampNeg (x4 + 4))) x3 M) fun v5 M6 =>
  if inb (x4 + 1) L = true then
  if inb (x4 + 2) L = true then
  if inb (x4 + 3) L = true then
  if inb (x4 + 4) L = true then
  if K0 x2 = (0, 12) then
  bnd (zX12_best x2 (xs (Int32.toNatClampNeg (x4 + 1))) (xs (Int32.toNatClampNeg (x4 + 2))) (xs (Int32.toNatClampNeg (x4 + 3))) (xs (Int32.toNatClampNeg (x4 + 4))) M6) fun v11 M12 =>
  bnd (zX12_thrown x2 M12) fun v14 M15 =>
  if v14 = v5 then
    if v5 = 0 then
      if (K0 x3).1 = 2 ∧ inb 0 (K0 x3).2 = true then
      if (lg_cmp (mL M15 x3 (Int32.toNatClampNeg 0)) (Int32.toInt64 v11)) = 0 then
        zL_law_B1298 L xs KK23 x1 x2 x3 x4 M15
      else
        some (0, M15)
      else none
    else
      zL_law_B1298 L xs KK23 x1 x2 x3 x4 M15
  else
    some (0, M15)
  else none
  else none
  else none
  else none
  else none
  else none
  else none
  else none
  else none
def zL_law_B1206 (L : Nat) (xs : Nat → Int32) (KK23 : Nat → Nat → Nat → Int32 → Mem → Option (Int32 × Mem)) (x1 : Nat) (x2 : Nat) (x3 : Nat) (x4 : Int32) (M : Mem) : Option (Int32 × Mem) :=
  zL_law_B2480 L xs KK23 x1 x2 x3 x4 M
def zL_law_B1129 (L : Nat) (xs : Nat → Int32) (KK23 : Nat → Nat → Nat → Int32 → Mem → Option (Int32 × Mem)) (x1 : Nat) (x2 : Nat) (x3 : Nat) (x4 : Int32) (M : Mem) : Option (Int32 × Mem) :=
  if inb (x4 + 1) L = true then
  if inb (x4 + 2) L = true then
  if inb (x4 + 3) L = true then
  bnd (zL_rest x1 (xs (Int32.toNatClampNeg (x4 + 1))) (xs (Int32.toNatClampNeg (x4 + 2))) (xs (Int32.toNatClampNeg (x4 + 3))) x3 M) fun v4 M5 =>
  if inb (x4 + 1) L = true then
  if inb (x4 + 2) L = true then
  if inb (x4 + 3) L = true then
  if K0 x2 = (0, 12) then
  bnd (zX12_rest x2 (xs (Int32.toNatClampNeg (x4 + 1))) (xs (Int32.toNatClampNeg (x4 + 2))) (xs (Int32.toNatClampNeg (x4 + 3))) M5) fun v9 M10 =>
  bnd (zX12_thrown x2 M10) fun v12 M13 =>
  if v12 = v4 then
    if v4 = 0 then
      if (K0 x3).1 = 2 ∧ inb 0 (K0 x3).2 = true then
      if (lg_cmp (mL M13 x3 (Int32.toNatClampNeg 0)) (Int32.toInt64 v9)) = 0 then
        zL_law_B1206 L xs KK23 x1 x2 x3 x4 M13
      else
        some (0, M13)
      else none
    else
      zL_law_B1206 L xs KK23 x1 x2 x3 x4 M13
  else
    some (0, M13)
  else none
  else none
  else none
  else none
  else none
  else none
  else none
def zL_law_B1126 (L : Nat) (xs : Nat → Int32) (KK23 : Nat → Nat → Nat → Int32 → Mem → Option (Int32 × Mem)) (x1 : Nat) (x2 : Nat) (x3 : Nat) (x4 : Int32) (M : Mem) : Option (Int32 × Mem) :=
  zL_law_B2480 L xs KK23 x1 x2 x3 x4 M
def zL_law_B1061 (L : Nat) (xs : Nat → Int32) (KK23 : Nat → Nat → Nat → Int32 → Mem → Option (Int32 × Mem)) (x1 : Nat) (x2 : Nat) (x3 : Nat) (x4 : Int32) (M : Mem) : Option (Int32 × Mem) :=
  if inb (x4 + 1) L = true then
  if inb (x4 + 2) L = true then
  bnd (zL_turn x1 (xs (Int32.toNatClampNeg (x4 + 1))) (xs (Int32.toNatClampNeg (x4 + 2))) x3 M) fun v3 M4 =>
  if inb (x4 + 1) L = true then
  if inb (x4 + 2) L = true then
  if K0 x2 = (0, 12) then
  bnd (zX12_turn x2 (xs (Int32.toNatClampNeg (x4 + 1))) (xs (Int32.toNatClampNeg (x4 + 2))) M4) fun v7 M8 =>
  bnd (zX12_thrown x2 M8) fun v10 M11 =>
  if v10 = v3 then
    if v3 = 0 then
      if (K0 x3).1 = 2 ∧ inb 0 (K0 x3).2 = true then
      if (lg_cmp (mL M11 x3 (Int32.toNatClampNeg 0)) (Int32.toInt64 v7)) = 0 then
        zL_law_B1126 L xs KK23 x1 x2 x3 x4 M11
      else
        some (0, M11)
      else none
    else
      zL_law_B1126 L xs KK23 x1 x2 x3 x4 M11
  else
    some (0, M11)
  else none
  else none
  else none
  else none
  else none
def zL_law_B1058 (L : Nat) (xs : Nat → Int32) (KK23 : Nat → Nat → Nat → Int32 → Mem → Option (Int32 × Mem)) (x1 : Nat) (x2 : Nat) (x3 : Nat) (x4 : Int32) (M : Mem) : Option (Int32 × Mem) :=
  zL_law_B2480 L xs KK23 x1 x2 x3 x4 M
def zL_law_B993 (L : Nat) (xs : Nat → Int32) (KK23 : Nat → Nat → Nat → Int32 → Mem → Option (Int32 × Mem)) (x1 : Nat) (x2 : Nat) (x3 : Nat) (x4 : Int32) (M : Mem) : Option (Int32 × Mem) :=
  if inb (x4 + 1) L = true then
  if inb (x4 + 2) L = true then
  bnd (zL_drift x1 (xs (Int32.toNatClampNeg (x4 + 1))) (xs (Int32.toNatClampNeg (x4 + 2))) x3 M) fun v3 M4 =>
  if inb (x4 + 1) L = true then
  if inb (x4 + 2) L = true then
  if K0 x2 = (0, 12) then
  bnd (zX12_drift x2 (xs (Int32.toNatClampNeg (x4 + 1))) (xs (Int32.toNatClampNeg (x4 + 2))) M4) fun v7 M8 =>
  bnd (zX12_thrown x2 M8) fun v10 M11 =>
  if v10 = v3 then
    if v3 = 0 then
      if (K0 x3).1 = 2 ∧ inb 0 (K0 x3).2 = true then
      if (lg_cmp (mL M11 x3 (Int32.toNatClampNeg 0)) (Int32.toInt64 v7)) = 0 then
        zL_law_B1058 L xs KK23 x1 x2 x3 x4 M11
      else
        some (0, M11)
      else none
    else
      zL_law_B1058 L xs KK23 x1 x2 x3 x4 M11
  else
    some (0, M11)
  else none
  else none
  else none
  else none
  else none
def zL_law_B990 (L : Nat) (xs : Nat → Int32) (KK23 : Nat → Nat → Nat → Int32 → Mem → Option (Int32 × Mem)) (x1 : Nat) (x2 : Nat) (x3 : Nat) (x4 : Int32) (M : Mem) : Option (Int32 × Mem) :=
  zL_law_B2480 L xs KK23 x1 x2 x3 x4 M
def zL_law_B913 (L : Nat) (xs : Nat → Int32) (KK23 : Nat → Nat → Nat → Int32 → Mem → Option (Int32 × Mem)) (x1 : Nat) (x2 : Nat) (x3 : Nat) (x4 : Int32) (M : Mem) : Option (Int32 × Mem) :=
  if inb (x4 + 1) L = true then
  if inb (x4 + 2) L = true then
  if inb (x4 + 3) L = true then
  bnd (zL_cases x1 (xs (Int32.toNatClampNeg (x4 + 1))) (xs (Int32.toNatClampNeg (x4 + 2))) (xs (Int32.toNatClampNeg (x4 + 3))) x3 M) fun v4 M5 =>
  if inb (x4 + 1) L = true then
  if inb (x4 + 2) L = true then
  if inb (x4 + 3) L = true then
  if K0 x2 = (0, 12) then
  bnd (zX12_cases x2 (xs (Int32.toNatClampNeg (x4 + 1))) (xs (Int32.toNatClampNeg (x4 + 2))) (xs (Int32.toNatClampNeg (x4 + 3))) M5) fun v9 M10 =>
  bnd (zX12_thrown x2 M10) fun v12 M13 =>
  if v12 = v4 then
    if v4 = 0 then
      if (K0 x3).1 = 2 ∧ inb 0 (K0 x3).2 = true then
      if (lg_cmp (mL M13 x3 (Int32.toNatClampNeg 0)) (Int32.toInt64 v9)) = 0 then
        zL_law_B990 L xs KK23 x1 x2 x3 x4 M13
      else
        some (0, M13)
      else none
    else
      zL_law_B990 L xs KK23 x1 x2 x3 x4 M13
  else
    some (0, M13)
  else none
  else none
  else none
  else none
  else none
  else none
  else none
def zL_law_B910 (L : Nat) (xs : Nat → Int32) (KK23 : Nat → Nat → Nat → Int32 → Mem → Option (Int32 × Mem)) (x1 : Nat) (x2 : Nat) (x3 : Nat) (x4 : Int32) (M : Mem) : Option (Int32 × Mem) :=
  zL_law_B2480 L xs KK23 x1 x2 x3 x4 M
def zL_law_B833 (L : Nat) (xs : Nat → Int32) (KK23 : Nat → Nat → Nat → Int32 → Mem → Option (Int32 × Mem)) (x1 : Nat) (x2 : Nat) (x3 : Nat) (x4 : Int32) (M : Mem) : Option (Int32 × Mem) :=
  if inb (x4 + 1) L = true then
  if inb (x4 + 2) L = true then
  if inb (x4 + 3) L = true then
  bnd (zL_coin x1 (xs (Int32.toNatClampNeg (x4 + 1))) (xs (Int32.toNatClampNeg (x4 + 2))) (xs (Int32.toNatClampNeg (x4 + 3))) x3 M) fun v4 M5 =>
  if inb (x4 + 1) L = true then
  if inb (x4 + 2) L = true then
  if inb (x4 + 3) L = true then
  if K0 x2 = (0, 12) then
  bnd (zX12_coin x2 (xs (Int32.toNatClampNeg (x4 + 1))) (xs (Int32.toNatClampNeg (x4 + 2))) (xs (Int32.toNatClampNeg (x4 + 3))) M5) fun v9 M10 =>
  bnd (zX12_thrown x2 M10) fun v12 M13 =>
  if v12 = v4 then
    if v4 = 0 then
      if (K0 x3).1 = 2 ∧ inb 0 (K0 x3).2 = true then
      if (lg_cmp (mL M13 x3 (Int32.toNatClampNeg 0)) (Int32.toInt64 v9)) = 0 then
        zL_law_B910 L xs KK23 x1 x2 x3 x4 M13
      else
        some (0, M13)
      else none
    else
      zL_law_B910 L xs KK23 x1 x2 x3 x4 M13
  else
    some (0, M13)
  else none
  else none
  else none
  else none
  else none
  else none
  else none
def zL_law_B830 (L : Nat) (xs : Nat → Int32) (KK23 : Nat → Nat → Nat → Int32 → Mem → Option (Int32 × Mem)) (x1 : Nat) (x2 : Nat) (x3 : Nat) (x4 : Int32) (M : Mem) : Option (Int32 × Mem) :=
  zL_law_B2480 L xs KK23 x1 x2 x3 x4 M
def zL_law_B824 (L : Nat) (xs : Nat → Int32) (KK23 : Nat → Nat → Nat → Int32 → Mem → Option (Int32 × Mem)) (x1 : Nat) (x2 : Nat) (x3 : Nat) (x4 : Int32) (s0 : Int64) (s1 : Int64) (M : Mem) : Option (Int32 × Mem) :=
  if (lg_cmp s0 s1) = 0 then
    zL_law_B830 L xs KK23 x1 x2 x3 x4 M
  else
    some (0, M)
def zL_law_B758 (L : Nat) (xs : Nat → Int32) (KK23 : Nat → Nat → Nat → Int32 → Mem → Option (Int32 × Mem)) (x1 : Nat) (x2 : Nat) (x3 : Nat) (x4 : Int32) (M : Mem) : Option (Int32 × Mem) :=
  if inb (x4 + 1) L = true then
  if inb (x4 + 2) L = true then
  bnd (zL_set x1 (xs (Int32.toNatClampNeg (x4 + 1))) (xs (Int32.toNatClampNeg (x4 + 2))) x3 M) fun v3 M4 =>
  if inb (x4 + 1) L = true then
  if inb (x4 + 2) L = true then
  if K0 x2 = (0, 12) then
  bnd (zX12_set x2 (xs (Int32.toNatClampNeg (x4 + 1))) (xs (Int32.toNatClampNeg (x4 + 2))) M4) fun v7 M8 =>
  bnd (zX12_thrown x2 M8) fun v10 M11 =>
  if v10 = v3 then
    if v3 = 0 then
      if (K0 x3).1 = 2 ∧ inb 0 (K0 x3).2 = true then
      if v7 = 0 then
        zL_law_B824 L xs KK23 x1 x2 x3 x4 (mL M11 x3 (Int32.toNatClampNeg 0)) 0 M11
      else
        zL_law_B824 L xs KK23 x1 x2 x3 x4 (mL M11 x3 (Int32.toNatClampNeg 0)) 1 M11
      else none
    else
      zL_law_B830 L xs KK23 x1 x2 x3 x4 M11
  else
    some (0, M11)
  else none
  else none
  else none
  else none
  else none
def zL_law_B710 (L : Nat) (xs : Nat → Int32) (KK23 : Nat → Nat → Nat → Int32 → Mem → Option (Int32 × Mem)) (x1 : Nat) (x2 : Nat) (x3 : Nat) (x4 : Int32) (M : Mem) : Option (Int32 × Mem) :=
  if inb (x4 + 1) L = true then
  if inb (x4 + 2) L = true then
  bnd (zL_seed x1 (xs (Int32.toNatClampNeg (x4 + 1))) (xs (Int32.toNatClampNeg (x4 + 2))) M) fun v3 M4 =>
  if inb (x4 + 1) L = true then
  if inb (x4 + 2) L = true then
  if K0 x2 = (0, 12) then
  bnd (zX12_seed x2 (xs (Int32.toNatClampNeg (x4 + 1))) (xs (Int32.toNatClampNeg (x4 + 2))) M4) fun _ M7 =>
  bnd (zX12_thrown x2 M7) fun v9 M10 =>
  if v9 = v3 then
    zL_law_B2480 L xs KK23 x1 x2 x3 x4 M10
  else
    some (0, M10)
  else none
  else none
  else none
  else none
  else none
def zL_law_B707 (L : Nat) (xs : Nat → Int32) (KK23 : Nat → Nat → Nat → Int32 → Mem → Option (Int32 × Mem)) (x1 : Nat) (x2 : Nat) (x3 : Nat) (x4 : Int32) (M : Mem) : Option (Int32 × Mem) :=
  zL_law_B2480 L xs KK23 x1 x2 x3 x4 M
def zL_law_B630 (L : Nat) (xs : Nat → Int32) (KK23 : Nat → Nat → Nat → Int32 → Mem → Option (Int32 × Mem)) (x1 : Nat) (x2 : Nat) (x3 : Nat) (x4 : Int32) (M : Mem) : Option (Int32 × Mem) :=
  if inb (x4 + 1) L = true then
  if inb (x4 + 2) L = true then
  if inb (x4 + 3) L = true then
  bnd (zL_next x1 (xs (Int32.toNatClampNeg (x4 + 1))) (xs (Int32.toNatClampNeg (x4 + 2))) (xs (Int32.toNatClampNeg (x4 + 3))) x3 M) fun v4 M5 =>
  if inb (x4 + 1) L = true then
  if inb (x4 + 2) L = true then
  if inb (x4 + 3) L = true then
  if K0 x2 = (0, 12) then
  bnd (zX12_next x2 (xs (Int32.toNatClampNeg (x4 + 1))) (xs (Int32.toNatClampNeg (x4 + 2))) (xs (Int32.toNatClampNeg (x4 + 3))) M5) fun v9 M10 =>
  bnd (zX12_thrown x2 M10) fun v12 M13 =>
  if v12 = v4 then
    if v4 = 0 then
      if (K0 x3).1 = 2 ∧ inb 0 (K0 x3).2 = true then
      if (lg_cmp (mL M13 x3 (Int32.toNatClampNeg 0)) (Int32.toInt64 v9)) = 0 then
        zL_law_B707 L xs KK23 x1 x2 x3 x4 M13
      else
        some (0, M13)
      else none
    else
      zL_law_B707 L xs KK23 x1 x2 x3 x4 M13
  else
    some (0, M13)
  else none
  else none
  else none
  else none
  else none
  else none
  else none
def zL_law_B627 (L : Nat) (xs : Nat → Int32) (KK23 : Nat → Nat → Nat → Int32 → Mem → Option (Int32 × Mem)) (x1 : Nat) (x2 : Nat) (x3 : Nat) (x4 : Int32) (M : Mem) : Option (Int32 × Mem) :=
  zL_law_B2480 L xs KK23 x1 x2 x3 x4 M
def zL_law_B550 (L : Nat) (xs : Nat → Int32) (KK23 : Nat → Nat → Nat → Int32 → Mem → Option (Int32 × Mem)) (x1 : Nat) (x2 : Nat) (x3 : Nat) (x4 : Int32) (M : Mem) : Option (Int32 × Mem) :=
  if inb (x4 + 1) L = true then
  if inb (x4 + 2) L = true then
  if inb (x4 + 3) L = true then
  bnd (zL_gives x1 (xs (Int32.toNatClampNeg (x4 + 1))) (xs (Int32.toNatClampNeg (x4 + 2))) (xs (Int32.toNatClampNeg (x4 + 3))) x3 M) fun v4 M5 =>
  if inb (x4 + 1) L = true then
  if inb (x4 + 2) L = true then
  if inb (x4 + 3) L = true then
  if K0 x2 = (0, 12) then
  bnd (zX12_gives x2 (xs (Int32.toNatClampNeg (x4 + 1))) (xs (Int32.toNatClampNeg (x4 + 2))) (xs (Int32.toNatClampNeg (x4 + 3))) M5) fun v9 M10 =>
  bnd (zX12_thrown x2 M10) fun v12 M13 =>
  if v12 = v4 then
    if v4 = 0 then
      if (K0 x3).1 = 2 ∧ inb 0 (K0 x3).2 = true then
      if (lg_cmp (mL M13 x3 (Int32.toNatClampNeg 0)) (Int32.toInt64 v9)) = 0 then
        zL_law_B627 L xs KK23 x1 x2 x3 x4 M13
      else
        some (0, M13)
      else none
    else
      zL_law_B627 L xs KK23 x1 x2 x3 x4 M13
  else
    some (0, M13)
  else none
  else none
  else none
  else none
  else none
  else none
  else none
def zL_law_B547 (L : Nat) (xs : Nat → Int32) (KK23 : Nat → Nat → Nat → Int32 → Mem → Option (Int32 × Mem)) (x1 : Nat) (x2 : Nat) (x3 : Nat) (x4 : Int32) (M : Mem) : Option (Int32 × Mem) :=
  zL_law_B2480 L xs KK23 x1 x2 x3 x4 M
def zL_law_B470 (L : Nat) (xs : Nat → Int32) (KK23 : Nat → Nat → Nat → Int32 → Mem → Option (Int32 × Mem)) (x1 : Nat) (x2 : Nat) (x3 : Nat) (x4 : Int32) (M : Mem) : Option (Int32 × Mem) :=
  if inb (x4 + 1) L = true then
  if inb (x4 + 2) L = true then
  if inb (x4 + 3) L = true then
  bnd (zL_sort x1 (xs (Int32.toNatClampNeg (x4 + 1))) (xs (Int32.toNatClampNeg (x4 + 2))) (xs (Int32.toNatClampNeg (x4 + 3))) x3 M) fun v4 M5 =>
  if inb (x4 + 1) L = true then
  if inb (x4 + 2) L = true then
  if inb (x4 + 3) L = true then
  if K0 x2 = (0, 12) then
  bnd (zX12_sort x2 (xs (Int32.toNatClampNeg (x4 + 1))) (xs (Int32.toNatClampNeg (x4 + 2))) (xs (Int32.toNatClampNeg (x4 + 3))) M5) fun v9 M10 =>
  bnd (zX12_thrown x2 M10) fun v12 M13 =>
  if v12 = v4 then
    if v4 = 0 then
      if (K0 x3).1 = 2 ∧ inb 0 (K0 x3).2 = true then
      if (lg_cmp (mL M13 x3 (Int32.toNatClampNeg 0)) (Int32.toInt64 v9)) = 0 then
        zL_law_B547 L xs KK23 x1 x2 x3 x4 M13
      else
        some (0, M13)
      else none
    else
      zL_law_B547 L xs KK23 x1 x2 x3 x4 M13
  else
    some (0, M13)
  else none
  else none
  else none
  else none
  else none
  else none
  else none
def zL_law_B467 (L : Nat) (xs : Nat → Int32) (KK23 : Nat → Nat → Nat → Int32 → Mem → Option (Int32 × Mem)) (x1 : Nat) (x2 : Nat) (x3 : Nat) (x4 : Int32) (M : Mem) : Option (Int32 × Mem) :=
  zL_law_B2480 L xs KK23 x1 x2 x3 x4 M
def zL_law_B402 (L : Nat) (xs : Nat → Int32) (KK23 : Nat → Nat → Nat → Int32 → Mem → Option (Int32 × Mem)) (x1 : Nat) (x2 : Nat) (x3 : Nat) (x4 : Int32) (M : Mem) : Option (Int32 × Mem) :=
  if inb (x4 + 1) L = true then
  if inb (x4 + 2) L = true then
  bnd (zL_about x1 (xs (Int32.toNatClampNeg (x4 + 1))) (xs (Int32.toNatClampNeg (x4 + 2))) x3 M) fun v3 M4 =>
  if inb (x4 + 1) L = true then
  if inb (x4 + 2) L = true then
  if K0 x2 = (0, 12) then
  bnd (zX12_about x2 (xs (Int32.toNatClampNeg (x4 + 1))) (xs (Int32.toNatClampNeg (x4 + 2))) M4) fun v7 M8 =>
  bnd (zX12_thrown x2 M8) fun v10 M11 =>
  if v10 = v3 then
    if v3 = 0 then
      if (K0 x3).1 = 2 ∧ inb 0 (K0 x3).2 = true then
      if (lg_cmp (mL M11 x3 (Int32.toNatClampNeg 0)) (Int32.toInt64 v7)) = 0 then
        zL_law_B467 L xs KK23 x1 x2 x3 x4 M11
      else
        some (0, M11)
      else none
    else
      zL_law_B467 L xs KK23 x1 x2 x3 x4 M11
  else
    some (0, M11)
  else none
  else none
  else none
  else none
  else none
def zL_law_B399 (L : Nat) (xs : Nat → Int32) (KK23 : Nat → Nat → Nat → Int32 → Mem → Option (Int32 × Mem)) (x1 : Nat) (x2 : Nat) (x3 : Nat) (x4 : Int32) (M : Mem) : Option (Int32 × Mem) :=
  zL_law_B2480 L xs KK23 x1 x2 x3 x4 M
def zL_law_B346 (L : Nat) (xs : Nat → Int32) (KK23 : Nat → Nat → Nat → Int32 → Mem → Option (Int32 × Mem)) (x1 : Nat) (x2 : Nat) (x3 : Nat) (x4 : Int32) (M : Mem) : Option (Int32 × Mem) :=
  if inb (x4 + 1) L = true then
  bnd (zL_count x1 (xs (Int32.toNatClampNeg (x4 + 1))) x3 M) fun v2 M3 =>
  if inb (x4 + 1) L = true then
  if K0 x2 = (0, 12) then
  bnd (zX12_count x2 (xs (Int32.toNatClampNeg (x4 + 1))) M3) fun v5 M6 =>
  bnd (zX12_thrown x2 M6) fun v8 M9 =>
  if v8 = v2 then
    if v2 = 0 then
      if (K0 x3).1 = 2 ∧ inb 0 (K0 x3).2 = true then
      if (lg_cmp (mL M9 x3 (Int32.toNatClampNeg 0)) (Int32.toInt64 v5)) = 0 then
        zL_law_B399 L xs KK23 x1 x2 x3 x4 M9
      else
        some (0, M9)
      else none
    else
      zL_law_B399 L xs KK23 x1 x2 x3 x4 M9
  else
    some (0, M9)
  else none
  else none
  else none
def zL_law_B333 (L : Nat) (xs : Nat → Int32) (KK23 : Nat → Nat → Nat → Int32 → Mem → Option (Int32 × Mem)) (x1 : Nat) (x2 : Nat) (x3 : Nat) (x4 : Int32) (M : Mem) : Option (Int32 × Mem) :=
  if K0 x1 = (0, 11) then
  bnd (zX11_fault x1 M) fun v1 M2 =>
  if K0 x2 = (0, 12) then
  bnd (zX12_fault x2 M2) fun v4 M5 =>
  if v1 = v4 then
    zL_law_B2480 L xs KK23 x1 x2 x3 x4 M5
  else
    some (0, M5)
  else none
  else none
def zL_law_B330 (L : Nat) (xs : Nat → Int32) (KK23 : Nat → Nat → Nat → Int32 → Mem → Option (Int32 × Mem)) (x1 : Nat) (x2 : Nat) (x3 : Nat) (x4 : Int32) (M : Mem) : Option (Int32 × Mem) :=
  zL_law_B2480 L xs KK23 x1 x2 x3 x4 M
def zL_law_B265 (L : Nat) (xs : Nat → Int32) (KK23 : Nat → Nat → Nat → Int32 → Mem → Option (Int32 × Mem)) (x1 : Nat) (x2 : Nat) (x3 : Nat) (x4 : Int32) (M : Mem) : Option (Int32 × Mem) :=
  if inb (x4 + 1) L = true then
  if inb (x4 + 2) L = true then
  bnd (zL_gate x1 (xs (Int32.toNatClampNeg (x4 + 1))) (xs (Int32.toNatClampNeg (x4 + 2))) x3 M) fun v3 M4 =>
  if inb (x4 + 1) L = true then
  if inb (x4 + 2) L = true then
  if K0 x2 = (0, 12) then
  bnd (zX12_gate x2 (xs (Int32.toNatClampNeg (x4 + 1))) (xs (Int32.toNatClampNeg (x4 + 2))) M4) fun v7 M8 =>
  bnd (zX12_thrown x2 M8) fun v10 M11 =>
  if v10 = v3 then
    if v3 = 0 then
      if (K0 x3).1 = 2 ∧ inb 0 (K0 x3).2 = true then
      if (lg_cmp (mL M11 x3 (Int32.toNatClampNeg 0)) (Int32.toInt64 v7)) = 0 then
        zL_law_B330 L xs KK23 x1 x2 x3 x4 M11
      else
        some (0, M11)
      else none
    else
      zL_law_B330 L xs KK23 x1 x2 x3 x4 M11
  else
    some (0, M11)
  else none
  else none
  else none
  else none
  else none
def zL_law_B192 (L : Nat) (xs : Nat → Int32) (KK23 : Nat → Nat → Nat → Int32 → Mem → Option (Int32 × Mem)) (x1 : Nat) (x2 : Nat) (x3 : Nat) (x4 : Int32) (M : Mem) : Option (Int32 × Mem) :=
  if inb (x4 + 1) L = true then
  if inb (x4 + 2) L = true then
  if inb (x4 + 3) L = true then
  if inb (x4 + 4) L = true then
  if inb (x4 + 5) L = true then
  if K0 x1 = (0, 11) then
  bnd (zX11_feed x1 (xs (Int32.toNatClampNeg (x4 + 1))) (xs (Int32.toNatClampNeg (x4 + 2))) (xs (Int32.toNatClampNeg (x4 + 3))) (xs (Int32.toNatClampNeg (x4 + 4))) (xs (Int32.toNatClampNeg (x4 + 5))) M) fun v6 M7 =>
  if inb (x4 + 1) L = true then
  if inb (x4 + 2) L = true then
  if inb (x4 + 3) L = true then
  if inb (x4 + 4) L = true then
  if inb (x4 + 5) L = true then
  if K0 x2 = (0, 12) then
  bnd (zX12_feed x2 (xs (Int32.toNatClampNeg (x4 + 1))) (xs (Int32.toNatClampNeg (x4 + 2))) (xs (Int32.toNatClampNeg (x4 + 3))) (xs (Int32.toNatClampNeg (x4 + 4))) (xs (Int32.toNatClampNeg (x4 + 5))) M7) fun v14 M15 =>
  if v6 = v14 then
    zL_law_B2480 L xs KK23 x1 x2 x3 x4 M15
  else
    some (0, M15)
  else none
  else none
  else none
  else none
  else none
  else none
  else none
  else none
  else none
  else none
  else none
  else none
def zL_law_B23 (L : Nat) (xs : Nat → Int32) (KK23 : Nat → Nat → Nat → Int32 → Mem → Option (Int32 × Mem)) (x1 : Nat) (x2 : Nat) (x3 : Nat) (x4 : Int32) (M : Mem) : Option (Int32 × Mem) :=
  if ((Int32.ofNat L) - 6) < x4 then
    some (1, M)
  else
    if inb x4 L = true then
    lt ((xs (Int32.toNatClampNeg x4)) &&& 63) fun v3 =>
    if v3 = 0 then
      zL_law_B192 L xs KK23 x1 x2 x3 x4 M
    else
    if v3 = 1 then
      zL_law_B265 L xs KK23 x1 x2 x3 x4 M
    else
    if v3 = 2 then
      zL_law_B333 L xs KK23 x1 x2 x3 x4 M
    else
    if v3 = 3 then
      zL_law_B346 L xs KK23 x1 x2 x3 x4 M
    else
    if v3 = 4 then
      zL_law_B402 L xs KK23 x1 x2 x3 x4 M
    else
    if v3 = 5 then
      zL_law_B470 L xs KK23 x1 x2 x3 x4 M
    else
    if v3 = 6 then
      zL_law_B550 L xs KK23 x1 x2 x3 x4 M
    else
    if v3 = 7 then
      zL_law_B630 L xs KK23 x1 x2 x3 x4 M
    else
    if v3 = 8 then
      zL_law_B710 L xs KK23 x1 x2 x3 x4 M
    else
    if v3 = 9 then
      zL_law_B758 L xs KK23 x1 x2 x3 x4 M
    else
    if v3 = 10 then
      zL_law_B833 L xs KK23 x1 x2 x3 x4 M
    else
    if v3 = 11 then
      zL_law_B913 L xs KK23 x1 x2 x3 x4 M
    else
    if v3 = 12 then
      zL_law_B993 L xs KK23 x1 x2 x3 x4 M
    else
    if v3 = 13 then
      zL_law_B1061 L xs KK23 x1 x2 x3 x4 M
    else
    if v3 = 14 then
      zL_law_B1129 L xs KK23 x1 x2 x3 x4 M
    else
    if v3 = 15 then
      zL_law_B1209 L xs KK23 x1 x2 x3 x4 M
    else
    if v3 = 16 then
      zL_law_B1301 L xs KK23 x1 x2 x3 x4 M
    else
    if v3 = 17 then
      zL_law_B1381 L xs KK23 x1 x2 x3 x4 M
    else
    if v3 = 18 then
      zL_law_B1449 L xs KK23 x1 x2 x3 x4 M
    else
    if v3 = 19 then
      zL_law_B1517 L xs KK23 x1 x2 x3 x4 M
    else
    if v3 = 20 then
      zL_law_B1597 L xs KK23 x1 x2 x3 x4 M
    else
    if v3 = 21 then
      zL_law_B1653 L xs KK23 x1 x2 x3 x4 M
    else
    if v3 = 22 then
      zL_law_B1745 L xs KK23 x1 x2 x3 x4 M
    else
    if v3 = 23 then
      zL_law_B1813 L xs KK23 x1 x2 x3 x4 M
    else
    if v3 = 24 then
      zL_law_B1881 L xs KK23 x1 x2 x3 x4 M
    else
    if v3 = 25 then
      zL_law_B1961 L xs KK23 x1 x2 x3 x4 M
    else
    if v3 = 26 then
      zL_law_B2041 L xs KK23 x1 x2 x3 x4 M
    else
    if v3 = 27 then
      zL_law_B2097 L xs KK23 x1 x2 x3 x4 M
    else
    if v3 = 28 then
      zL_law_B2153 L xs KK23 x1 x2 x3 x4 M
    else
    if v3 = 29 then
      zL_law_B2252 L xs KK23 x1 x2 x3 x4 M
    else
    if v3 = 30 then
      zL_law_B2320 L xs KK23 x1 x2 x3 x4 M
    else
    if v3 = 31 then
      zL_law_B2400 L xs KK23 x1 x2 x3 x4 M
    else
    if v3 = 32 then
      zL_law_B2456 L xs KK23 x1 x2 x3 x4 M
    else
    if v3 = 33 then
      zL_law_B2467 L xs KK23 x1 x2 x3 x4 M
    else
      zL_law_B2480 L xs KK23 x1 x2 x3 x4 M
    else none
def zL_law_L23 (L : Nat) (xs : Nat → Int32) : Nat → Nat → Nat → Nat → Int32 → Mem → Option (Int32 × Mem)
  | 0 => fun _ _ _ _ _ => none
  | k + 1 => zL_law_B23 L xs (zL_law_L23 L xs k)
def zL_law (L : Nat) (xs : Nat → Int32) (M : Mem) : Option (Int32 × Mem) :=
  if K0 1 = (0, 11) then
  lt (zr M 1) fun M2 =>
  bnd (zX11_init 1 1 M2) fun _ M3 =>
  if K0 72 = (0, 12) then
  lt (zr M3 72) fun M5 =>
  bnd (zX12_init 72 72 M5) fun _ M6 =>
  if K0 111 = (2, 1) then
  lt (zr M6 111) fun M8 =>
  zL_law_L23 L xs LF 1 72 111 0 M8
  else none
  else none
  else none
set_option maxRecDepth 20000 in
set_option maxHeartbeats 4000000 in
theorem kL_law_B2480 (l : Launch) (E : Ev) (hst : l.stackTraces = false) (Z : List Frame → Array Value → State → State → Prop) (hZ : LEnd l Z) (b L : Nat) (xs : Nat → Int32) (ce sl : Nat) (hce : ce ≤ 601024) (hsl : sl ≤ 7293034) (KK23 : Nat → Nat → Nat → Int32 → Mem → Option (Int32 × Mem)) (hKK23 : ∀ (x1 : Nat) (x2 : Nat) (x3 : Nat) (x4 : Int32) (M : Mem), AW l E fL_law (fun _ => room_1) (PQL Z E b L xs) 111 false ce sl 23 [(0, .ref b), (1, .ref (ad E x1)), (2, .ref (ad E x2)), (3, .ref (ad E x3)), (4, .int x4)] [] M (KK23 x1 x2 x3 x4 M)) (x1 : Nat) (x2 : Nat) (x3 : Nat) (x4 : Int32) (M : Mem) : AW l E fL_law (fun _ => room_1) (PQL Z E b L xs) 111 false ce sl 2480 [(0, .ref b), (1, .ref (ad E x1)), (2, .ref (ad E x2)), (3, .ref (ad E x3)), (4, .int x4)] [] M (zL_law_B2480 L xs KK23 x1 x2 x3 x4 M) := by
  unfold zL_law_B2480
  refine AW.iinc (pc := 2480) (w := 4) [1, 2, 3, 4, 0] [(0, .ref b), (1, .ref (ad E x1)), (2, .ref (ad E x2)), (3, .ref (ad E x3)), (4, .int (x4 + 6))] dL_law_2480 rfl (inc_6 _) (by decide) rfl ?_
  refine AW.goto (pc := 2483) 23 dL_law_2483 (by decide) ?_
  exact (hKK23 x1 x2 x3 (x4 + 6) M)
set_option maxRecDepth 20000 in
set_option maxHeartbeats 4000000 in
theorem kL_law_B2467 (l : Launch) (E : Ev) (hst : l.stackTraces = false) (Z : List Frame → Array Value → State → State → Prop) (hZ : LEnd l Z) (b L : Nat) (xs : Nat → Int32) (ce sl : Nat) (hce : ce + 1 ≤ 601024) (hsl : sl + 6 ≤ 7293034) (KK23 : Nat → Nat → Nat → Int32 → Mem → Option (Int32 × Mem)) (hKK23 : ∀ (x1 : Nat) (x2 : Nat) (x3 : Nat) (x4 : Int32) (M : Mem), AW l E fL_law (fun _ => room_1) (PQL Z E b L xs) 111 false (ce + 1) (sl + 6) 23 [(0, .ref b), (1, .ref (ad E x1)), (2, .ref (ad E x2)), (3, .ref (ad E x3)), (4, .int x4)] [] M (KK23 x1 x2 x3 x4 M)) (x1 : Nat) (x2 : Nat) (x3 : Nat) (x4 : Int32) (M : Mem) : AW l E fL_law (fun _ => room_1) (PQL Z E b L xs) 111 false ce sl 2467 [(0, .ref b), (1, .ref (ad E x1)), (2, .ref (ad E x2)), (3, .ref (ad E x3)), (4, .int x4)] [] M (zL_law_B2467 L xs KK23 x1 x2 x3 x4 M) := by
  unfold zL_law_B2467
  refine AW.aload_n (pc := 2467) dL_law_2467 rfl 1 rfl ?_
  refine AW.chk (fun g3 => ?_)
  refine AW.cV0i (pc := 2468) dL_law_2468 mlL_228 mbX11_restore rfl g3 (kct g3 rfl (Nat.le_refl 111)) (fun _ => okR_L (by decide) (by omega) (by omega)) (kX11_restore l E 1000 (by decide) 111 (Nat.le_refl 111) false x1 M) (Nat.le_of_ble_eq_true rfl) (fun v1 M2 => ?_)
  refine AW.aload_n (pc := 2471) dL_law_2471 rfl 2 rfl ?_
  refine AW.chk (fun g6 => ?_)
  refine AW.cV0i (pc := 2472) dL_law_2472 mlL_232 mbX12_restore rfl g6 (kct g6 rfl (Nat.le_refl 111)) (fun _ => okR_L (by decide) (by omega) (by omega)) (kX12_restore l E 1000 (by decide) 111 (Nat.le_refl 111) false x2 M2) (Nat.le_of_ble_eq_true rfl) (fun v4 M5 => ?_)
  refine AW.icmp_eq (pc := 2475) 2480 dL_law_2475 (by decide) (fun h7 => ?_) (fun h7 => ?_)
  · exact AW.wide (Nat.le_succ _) (Nat.le_add_right _ 6) ((kL_law_B2480 l E hst Z hZ b L xs (ce + 1) (sl + 6) (by omega) (by omega) KK23 hKK23 x1 x2 x3 x4 M5))
  · refine AW.iconst (pc := 2478) dL_law_2478 ci_0 ?_
    exact AW.lend0 (pc := 2479) (by decide)
set_option maxRecDepth 20000 in
set_option maxHeartbeats 4000000 in
theorem kL_law_B2456 (l : Launch) (E : Ev) (hst : l.stackTraces = false) (Z : List Frame → Array Value → State → State → Prop) (hZ : LEnd l Z) (b L : Nat) (xs : Nat → Int32) (ce sl : Nat) (hce : ce + 1 ≤ 601024) (hsl : sl + 6 ≤ 7293034) (KK23 : Nat → Nat → Nat → Int32 → Mem → Option (Int32 × Mem)) (hKK23 : ∀ (x1 : Nat) (x2 : Nat) (x3 : Nat) (x4 : Int32) (M : Mem), AW l E fL_law (fun _ => room_1) (PQL Z E b L xs) 111 false (ce + 1) (sl + 6) 23 [(0, .ref b), (1, .ref (ad E x1)), (2, .ref (ad E x2)), (3, .ref (ad E x3)), (4, .int x4)] [] M (KK23 x1 x2 x3 x4 M)) (x1 : Nat) (x2 : Nat) (x3 : Nat) (x4 : Int32) (M : Mem) : AW l E fL_law (fun _ => room_1) (PQL Z E b L xs) 111 false ce sl 2456 [(0, .ref b), (1, .ref (ad E x1)), (2, .ref (ad E x2)), (3, .ref (ad E x3)), (4, .int x4)] [] M (zL_law_B2456 L xs KK23 x1 x2 x3 x4 M) := by
  unfold zL_law_B2456
  refine AW.aload_n (pc := 2456) dL_law_2456 rfl 1 rfl ?_
  refine AW.chk (fun g2 => ?_)
  refine AW.cV0v (pc := 2457) dL_law_2457 mlL_224 mbX11_image rfl g2 (kct g2 rfl (Nat.le_refl 111)) (fun _ => okR_L (by decide) (by omega) (by omega)) (kX11_image l E 1000 (by decide) 111 (Nat.le_refl 111) false x1 M) (Nat.le_of_ble_eq_true rfl) (fun _ M1 => ?_)
  refine AW.aload_n (pc := 2460) dL_law_2460 rfl 2 rfl ?_
  refine AW.chk (fun g4 => ?_)
  refine AW.cV0v (pc := 2461) dL_law_2461 mlL_227 mbX12_image rfl g4 (kct g4 rfl (Nat.le_refl 111)) (fun _ => okR_L (by decide) (by omega) (by omega)) (kX12_image l E 1000 (by decide) 111 (Nat.le_refl 111) false x2 M1) (Nat.le_of_ble_eq_true rfl) (fun _ M3 => ?_)
  refine AW.goto (pc := 2464) 2480 dL_law_2464 (by decide) ?_
  exact AW.wide (Nat.le_succ _) (Nat.le_add_right _ 6) ((kL_law_B2480 l E hst Z hZ b L xs (ce + 1) (sl + 6) (by omega) (by omega) KK23 hKK23 x1 x2 x3 x4 M3))
set_option maxRecDepth 20000 in
set_option maxHeartbeats 4000000 in
theorem kL_law_B2453 (l : Launch) (E : Ev) (hst : l.stackTraces = false) (Z : List Frame → Array Value → State → State → Prop) (hZ : LEnd l Z) (b L : Nat) (xs : Nat → Int32) (ce sl : Nat) (hce : ce ≤ 601024) (hsl : sl ≤ 7293034) (KK23 : Nat → Nat → Nat → Int32 → Mem → Option (Int32 × Mem)) (hKK23 : ∀ (x1 : Nat) (x2 : Nat) (x3 : Nat) (x4 : Int32) (M : Mem), AW l E fL_law (fun _ => room_1) (PQL Z E b L xs) 111 false ce sl 23 [(0, .ref b), (1, .ref (ad E x1)), (2, .ref (ad E x2)), (3, .ref (ad E x3)), (4, .int x4)] [] M (KK23 x1 x2 x3 x4 M)) (x1 : Nat) (x2 : Nat) (x3 : Nat) (x4 : Int32) (M : Mem) : AW l E fL_law (fun _ => room_1) (PQL Z E b L xs) 111 false ce sl 2453 [(0, .ref b), (1, .ref (ad E x1)), (2, .ref (ad E x2)), (3, .ref (ad E x3)), (4, .int x4)] [] M (zL_law_B2453 L xs KK23 x1 x2 x3 x4 M) := by
  unfold zL_law_B2453
  refine AW.goto (pc := 2453) 2480 dL_law_2453 (by decide) ?_
  exact (kL_law_B2480 l E hst Z hZ b L xs ce sl (by omega) (by omega) KK23 hKK23 x1 x2 x3 x4 M)
set_option maxRecDepth 20000 in
set_option maxHeartbeats 4000000 in
theorem kL_law_B2400 (l : Launch) (E : Ev) (hst : l.stackTraces = false) (Z : List Frame → Array Value → State → State → Prop) (hZ : LEnd l Z) (b L : Nat) (xs : Nat → Int32) (ce sl : Nat) (hce : ce + 1 ≤ 601024) (hsl : sl + 6 ≤ 7293034) (KK23 : Nat → Nat → Nat → Int32 → Mem → Option (Int32 × Mem)) (hKK23 : ∀ (x1 : Nat) (x2 : Nat) (x3 : Nat) (x4 : Int32) (M : Mem), AW l E fL_law (fun _ => room_1) (PQL Z E b L xs) 111 false (ce + 1) (sl + 6) 23 [(0, .ref b), (1, .ref (ad E x1)), (2, .ref (ad E x2)), (3, .ref (ad E x3)), (4, .int x4)] [] M (KK23 x1 x2 x3 x4 M)) (x1 : Nat) (x2 : Nat) (x3 : Nat) (x4 : Int32) (M : Mem) : AW l E fL_law (fun _ => room_1) (PQL Z E b L xs) 111 false ce sl 2400 [(0, .ref b), (1, .ref (ad E x1)), (2, .ref (ad E x2)), (3, .ref (ad E x3)), (4, .int x4)] [] M (zL_law_B2400 L xs KK23 x1 x2 x3 x4 M) := by
  unfold zL_law_B2400
  refine AW.aload_n (pc := 2400) dL_law_2400 rfl 1 rfl ?_
  refine AW.aload_n (pc := 2401) dL_law_2401 rfl 0 rfl ?_
  refine AW.iload (pc := 2402) dL_law_2402 4 rfl ?_
  refine AW.iconst (pc := 2404) dL_law_2404 ci_1 ?_
  refine AW.iadd (pc := 2405) dL_law_2405 ?_
  refine AW.chk (fun g1 => ?_)
  refine AW.sld (pc := 2406) dL_law_2406 g1 ?_
  refine AW.aload_n (pc := 2407) dL_law_2407 rfl 3 rfl ?_
  refine AW.callW [.ref (ad E x1), .int (xs (Int32.toNatClampNeg (x4 + 1))), .ref (ad E x3)] [] (pc := 2408) dL_law_2408 mlL_221 mwL_empty rfl rfl (fun _ => okR_L (by decide) (by omega) (by omega)) (kL_empty l E hst 1000 (by decide) 111 (Nat.le_refl 111) x1 (xs (Int32.toNatClampNeg (x4 + 1))) x3 M) rfl (Nat.le_of_ble_eq_true rfl) (fun v2 M3 => ?_)
  refine AW.istore (pc := 2411) [1, 2, 3, 4, 5, 0] [(0, .ref b), (1, .ref (ad E x1)), (2, .ref (ad E x2)), (3, .ref (ad E x3)), (4, .int x4), (5, .int v2)] dL_law_2411 (by decide) rfl ?_
  refine AW.aload_n (pc := 2413) dL_law_2413 rfl 2 rfl ?_
  refine AW.aload_n (pc := 2414) dL_law_2414 rfl 0 rfl ?_
  refine AW.iload (pc := 2415) dL_law_2415 4 rfl ?_
  refine AW.iconst (pc := 2417) dL_law_2417 ci_1 ?_
  refine AW.iadd (pc := 2418) dL_law_2418 ?_
  refine AW.chk (fun g4 => ?_)
  refine AW.sld (pc := 2419) dL_law_2419 g4 ?_
  refine AW.chk (fun g7 => ?_)
  refine AW.cV1i (pc := 2420) dL_law_2420 mlL_223 mbX12_empty rfl g7 (kct g7 rfl (Nat.le_refl 111)) (fun _ => okR_L (by decide) (by omega) (by omega)) (kX12_empty l E 1000 (by decide) 111 (Nat.le_refl 111) false x2 (xs (Int32.toNatClampNeg (x4 + 1))) M3) (Nat.le_of_ble_eq_true rfl) (fun v5 M6 => ?_)
  refine AW.istore (pc := 2423) [1, 2, 3, 4, 5, 6, 0] [(0, .ref b), (1, .ref (ad E x1)), (2, .ref (ad E x2)), (3, .ref (ad E x3)), (4, .int x4), (5, .int v2), (6, .int v5)] dL_law_2423 (by decide) rfl ?_
  refine AW.aload_n (pc := 2425) dL_law_2425 rfl 2 rfl ?_
  refine AW.cV0i (pc := 2426) dL_law_2426 mlL_125 mbX12_thrown rfl g7 (kct g7 rfl (Nat.le_refl 111)) (fun _ => okR_L (by decide) (by omega) (by omega)) (kX12_thrown l E 1000 (by decide) 111 (Nat.le_refl 111) false x2 M6) (Nat.le_of_ble_eq_true rfl) (fun v8 M9 => ?_)
  refine AW.iload (pc := 2429) dL_law_2429 5 rfl ?_
  refine AW.icmp_eq (pc := 2431) 2436 dL_law_2431 (by decide) (fun h10 => ?_) (fun h10 => ?_)
  · refine AW.iload (pc := 2436) dL_law_2436 5 rfl ?_
    refine AW.if_ne (pc := 2438) 2453 dL_law_2438 (by decide) (fun h11 => ?_) (fun h11 => ?_)
    · refine AW.aload_n (pc := 2441) dL_law_2441 rfl 3 rfl ?_
      refine AW.iconst (pc := 2442) dL_law_2442 ci_0 ?_
      refine AW.chk (fun g12 => ?_)
      refine AW.lald (pc := 2443) dL_law_2443 (k0e g12.1) (kct (k0e g12.1) rfl (Nat.le_refl 111)) g12.2 ?_
      refine AW.iload (pc := 2444) dL_law_2444 6 rfl ?_
      refine AW.i2l (pc := 2446) dL_law_2446 ?_
      refine AW.lcmp (pc := 2447) dL_law_2447 ?_
      refine AW.if_eq (pc := 2448) 2453 dL_law_2448 (by decide) (fun h13 => ?_) (fun h13 => ?_)
      · exact AW.sub [0, 1, 2, 3, 4] rfl (kL_law_B2453 l E hst Z hZ b L xs (ce + 1) (sl + 6) (by omega) (by omega) KK23 hKK23 x1 x2 x3 x4 M9)
      · refine AW.iconst (pc := 2451) dL_law_2451 ci_0 ?_
        exact AW.lend0 (pc := 2452) (by decide)
    · exact AW.sub [0, 1, 2, 3, 4] rfl (kL_law_B2453 l E hst Z hZ b L xs (ce + 1) (sl + 6) (by omega) (by omega) KK23 hKK23 x1 x2 x3 x4 M9)
  · refine AW.iconst (pc := 2434) dL_law_2434 ci_0 ?_
    exact AW.lend0 (pc := 2435) (by decide)
set_option maxRecDepth 20000 in
set_option maxHeartbeats 4000000 in
theorem kL_law_B2397 (l : Launch) (E : Ev) (hst : l.stackTraces = false) (Z : List Frame → Array Value → State → State → Prop) (hZ : LEnd l Z) (b L : Nat) (xs : Nat → Int32) (ce sl : Nat) (hce : ce ≤ 601024) (hsl : sl ≤ 7293034) (KK23 : Nat → Nat → Nat → Int32 → Mem → Option (Int32 × Mem)) (hKK23 : ∀ (x1 : Nat) (x2 : Nat) (x3 : Nat) (x4 : Int32) (M : Mem), AW l E fL_law (fun _ => room_1) (PQL Z E b L xs) 111 false ce sl 23 [(0, .ref b), (1, .ref (ad E x1)), (2, .ref (ad E x2)), (3, .ref (ad E x3)), (4, .int x4)] [] M (KK23 x1 x2 x3 x4 M)) (x1 : Nat) (x2 : Nat) (x3 : Nat) (x4 : Int32) (M : Mem) : AW l E fL_law (fun _ => room_1) (PQL Z E b L xs) 111 false ce sl 2397 [(0, .ref b), (1, .ref (ad E x1)), (2, .ref (ad E x2)), (3, .ref (ad E x3)), (4, .int x4)] [] M (zL_law_B2397 L xs KK23 x1 x2 x3 x4 M) := by
  unfold zL_law_B2397
  refine AW.goto (pc := 2397) 2480 dL_law_2397 (by decide) ?_
  exact (kL_law_B2480 l E hst Z hZ b L xs ce sl (by omega) (by omega) KK23 hKK23 x1 x2 x3 x4 M)
set_option maxRecDepth 20000 in
set_option maxHeartbeats 4000000 in
theorem kL_law_B2320 (l : Launch) (E : Ev) (hst : l.stackTraces = false) (Z : List Frame → Array Value → State → State → Prop) (hZ : LEnd l Z) (b L : Nat) (xs : Nat → Int32) (ce sl : Nat) (hce : ce + 1 ≤ 601024) (hsl : sl + 6 ≤ 7293034) (KK23 : Nat → Nat → Nat → Int32 → Mem → Option (Int32 × Mem)) (hKK23 : ∀ (x1 : Nat) (x2 : Nat) (x3 : Nat) (x4 : Int32) (M : Mem), AW l E fL_law (fun _ => room_1) (PQL Z E b L xs) 111 false (ce + 1) (sl + 6) 23 [(0, .ref b), (1, .ref (ad E x1)), (2, .ref (ad E x2)), (3, .ref (ad E x3)), (4, .int x4)] [] M (KK23 x1 x2 x3 x4 M)) (x1 : Nat) (x2 : Nat) (x3 : Nat) (x4 : Int32) (M : Mem) : AW l E fL_law (fun _ => room_1) (PQL Z E b L xs) 111 false ce sl 2320 [(0, .ref b), (1, .ref (ad E x1)), (2, .ref (ad E x2)), (3, .ref (ad E x3)), (4, .int x4)] [] M (zL_law_B2320 L xs KK23 x1 x2 x3 x4 M) := by
  unfold zL_law_B2320
  refine AW.aload_n (pc := 2320) dL_law_2320 rfl 1 rfl ?_
  refine AW.aload_n (pc := 2321) dL_law_2321 rfl 0 rfl ?_
  refine AW.iload (pc := 2322) dL_law_2322 4 rfl ?_
  refine AW.iconst (pc := 2324) dL_law_2324 ci_1 ?_
  refine AW.iadd (pc := 2325) dL_law_2325 ?_
  refine AW.chk (fun g1 => ?_)
  refine AW.sld (pc := 2326) dL_law_2326 g1 ?_
  refine AW.aload_n (pc := 2327) dL_law_2327 rfl 0 rfl ?_
  refine AW.iload (pc := 2328) dL_law_2328 4 rfl ?_
  refine AW.iconst (pc := 2330) dL_law_2330 ci_2 ?_
  refine AW.iadd (pc := 2331) dL_law_2331 ?_
  refine AW.chk (fun g2 => ?_)
  refine AW.sld (pc := 2332) dL_law_2332 g2 ?_
  refine AW.aload_n (pc := 2333) dL_law_2333 rfl 0 rfl ?_
  refine AW.iload (pc := 2334) dL_law_2334 4 rfl ?_
  refine AW.iconst (pc := 2336) dL_law_2336 ci_3 ?_
  refine AW.iadd (pc := 2337) dL_law_2337 ?_
  refine AW.chk (fun g3 => ?_)
  refine AW.sld (pc := 2338) dL_law_2338 g3 ?_
  refine AW.aload_n (pc := 2339) dL_law_2339 rfl 3 rfl ?_
  refine AW.callW [.ref (ad E x1), .int (xs (Int32.toNatClampNeg (x4 + 1))), .int (xs (Int32.toNatClampNeg (x4 + 2))), .int (xs (Int32.toNatClampNeg (x4 + 3))), .ref (ad E x3)] [] (pc := 2340) dL_law_2340 mlL_218 mwL_drawn rfl rfl (fun _ => okR_L (by decide) (by omega) (by omega)) (kL_drawn l E hst 1000 (by decide) 111 (Nat.le_refl 111) x1 (xs (Int32.toNatClampNeg (x4 + 1))) (xs (Int32.toNatClampNeg (x4 + 2))) (xs (Int32.toNatClampNeg (x4 + 3))) x3 M) rfl (Nat.le_of_ble_eq_true rfl) (fun v4 M5 => ?_)
  refine AW.istore (pc := 2343) [1, 2, 3, 4, 5, 0] [(0, .ref b), (1, .ref (ad E x1)), (2, .ref (ad E x2)), (3, .ref (ad E x3)), (4, .int x4), (5, .int v4)] dL_law_2343 (by decide) rfl ?_
  refine AW.aload_n (pc := 2345) dL_law_2345 rfl 2 rfl ?_
  refine AW.aload_n (pc := 2346) dL_law_2346 rfl 0 rfl ?_
  refine AW.iload (pc := 2347) dL_law_2347 4 rfl ?_
  refine AW.iconst (pc := 2349) dL_law_2349 ci_1 ?_
  refine AW.iadd (pc := 2350) dL_law_2350 ?_
  refine AW.chk (fun g6 => ?_)
  refine AW.sld (pc := 2351) dL_law_2351 g6 ?_
  refine AW.aload_n (pc := 2352) dL_law_2352 rfl 0 rfl ?_
  refine AW.iload (pc := 2353) dL_law_2353 4 rfl ?_
  refine AW.iconst (pc := 2355) dL_law_2355 ci_2 ?_
  refine AW.iadd (pc := 2356) dL_law_2356 ?_
  refine AW.chk (fun g7 => ?_)
  refine AW.sld (pc := 2357) dL_law_2357 g7 ?_
  refine AW.aload_n (pc := 2358) dL_law_2358 rfl 0 rfl ?_
  refine AW.iload (pc := 2359) dL_law_2359 4 rfl ?_
  refine AW.iconst (pc := 2361) dL_law_2361 ci_3 ?_
  refine AW.iadd (pc := 2362) dL_law_2362 ?_
  refine AW.chk (fun g8 => ?_)
  refine AW.sld (pc := 2363) dL_law_2363 g8 ?_
  refine AW.chk (fun g11 => ?_)
  refine AW.cV3i (pc := 2364) dL_law_2364 mlL_220 mbX12_drawn rfl g11 (kct g11 rfl (Nat.le_refl 111)) (fun _ => okR_L (by decide) (by omega) (by omega)) (kX12_drawn l E 1000 (by decide) 111 (Nat.le_refl 111) false x2 (xs (Int32.toNatClampNeg (x4 + 1))) (xs (Int32.toNatClampNeg (x4 + 2))) (xs (Int32.toNatClampNeg (x4 + 3))) M5) (Nat.le_of_ble_eq_true rfl) (fun v9 M10 => ?_)
  refine AW.istore (pc := 2367) [1, 2, 3, 4, 5, 6, 0] [(0, .ref b), (1, .ref (ad E x1)), (2, .ref (ad E x2)), (3, .ref (ad E x3)), (4, .int x4), (5, .int v4), (6, .int v9)] dL_law_2367 (by decide) rfl ?_
  refine AW.aload_n (pc := 2369) dL_law_2369 rfl 2 rfl ?_
  refine AW.cV0i (pc := 2370) dL_law_2370 mlL_125 mbX12_thrown rfl g11 (kct g11 rfl (Nat.le_refl 111)) (fun _ => okR_L (by decide) (by omega) (by omega)) (kX12_thrown l E 1000 (by decide) 111 (Nat.le_refl 111) false x2 M10) (Nat.le_of_ble_eq_true rfl) (fun v12 M13 => ?_)
  refine AW.iload (pc := 2373) dL_law_2373 5 rfl ?_
  refine AW.icmp_eq (pc := 2375) 2380 dL_law_2375 (by decide) (fun h14 => ?_) (fun h14 => ?_)
  · refine AW.iload (pc := 2380) dL_law_2380 5 rfl ?_
    refine AW.if_ne (pc := 2382) 2397 dL_law_2382 (by decide) (fun h15 => ?_) (fun h15 => ?_)
    · refine AW.aload_n (pc := 2385) dL_law_2385 rfl 3 rfl ?_
      refine AW.iconst (pc := 2386) dL_law_2386 ci_0 ?_
      refine AW.chk (fun g16 => ?_)
      refine AW.lald (pc := 2387) dL_law_2387 (k0e g16.1) (kct (k0e g16.1) rfl (Nat.le_refl 111)) g16.2 ?_
      refine AW.iload (pc := 2388) dL_law_2388 6 rfl ?_
      refine AW.i2l (pc := 2390) dL_law_2390 ?_
      refine AW.lcmp (pc := 2391) dL_law_2391 ?_
      refine AW.if_eq (pc := 2392) 2397 dL_law_2392 (by decide) (fun h17 => ?_) (fun h17 => ?_)
      · exact AW.sub [0, 1, 2, 3, 4] rfl (kL_law_B2397 l E hst Z hZ b L xs (ce + 1) (sl + 6) (by omega) (by omega) KK23 hKK23 x1 x2 x3 x4 M13)
      · refine AW.iconst (pc := 2395) dL_law_2395 ci_0 ?_
        exact AW.lend0 (pc := 2396) (by decide)
    · exact AW.sub [0, 1, 2, 3, 4] rfl (kL_law_B2397 l E hst Z hZ b L xs (ce + 1) (sl + 6) (by omega) (by omega) KK23 hKK23 x1 x2 x3 x4 M13)
  · refine AW.iconst (pc := 2378) dL_law_2378 ci_0 ?_
    exact AW.lend0 (pc := 2379) (by decide)
set_option maxRecDepth 20000 in
set_option maxHeartbeats 4000000 in
theorem kL_law_B2317 (l : Launch) (E : Ev) (hst : l.stackTraces = false) (Z : List Frame → Array Value → State → State → Prop) (hZ : LEnd l Z) (b L : Nat) (xs : Nat → Int32) (ce sl : Nat) (hce : ce ≤ 601024) (hsl : sl ≤ 7293034) (KK23 : Nat → Nat → Nat → Int32 → Mem → Option (Int32 × Mem)) (hKK23 : ∀ (x1 : Nat) (x2 : Nat) (x3 : Nat) (x4 : Int32) (M : Mem), AW l E fL_law (fun _ => room_1) (PQL Z E b L xs) 111 false ce sl 23 [(0, .ref b), (1, .ref (ad E x1)), (2, .ref (ad E x2)), (3, .ref (ad E x3)), (4, .int x4)] [] M (KK23 x1 x2 x3 x4 M)) (x1 : Nat) (x2 : Nat) (x3 : Nat) (x4 : Int32) (M : Mem) : AW l E fL_law (fun _ => room_1) (PQL Z E b L xs) 111 false ce sl 2317 [(0, .ref b), (1, .ref (ad E x1)), (2, .ref (ad E x2)), (3, .ref (ad E x3)), (4, .int x4)] [] M (zL_law_B2317 L xs KK23 x1 x2 x3 x4 M) := by
  unfold zL_law_B2317
  refine AW.goto (pc := 2317) 2480 dL_law_2317 (by decide) ?_
  exact (kL_law_B2480 l E hst Z hZ b L xs ce sl (by omega) (by omega) KK23 hKK23 x1 x2 x3 x4 M)
set_option maxRecDepth 20000 in
set_option maxHeartbeats 4000000 in
theorem kL_law_B2252 (l : Launch) (E : Ev) (hst : l.stackTraces = false) (Z : List Frame → Array Value → State → State → Prop) (hZ : LEnd l Z) (b L : Nat) (xs : Nat → Int32) (ce sl : Nat) (hce : ce + 1 ≤ 601024) (hsl : sl + 6 ≤ 7293034) (KK23 : Nat → Nat → Nat → Int32 → Mem → Option (Int32 × Mem)) (hKK23 : ∀ (x1 : Nat) (x2 : Nat) (x3 : Nat) (x4 : Int32) (M : Mem), AW l E fL_law (fun _ => room_1) (PQL Z E b L xs) 111 false (ce + 1) (sl + 6) 23 [(0, .ref b), (1, .ref (ad E x1)), (2, .ref (ad E x2)), (3, .ref (ad E x3)), (4, .int x4)] [] M (KK23 x1 x2 x3 x4 M)) (x1 : Nat) (x2 : Nat) (x3 : Nat) (x4 : Int32) (M : Mem) : AW l E fL_law (fun _ => room_1) (PQL Z E b L xs) 111 false ce sl 2252 [(0, .ref b), (1, .ref (ad E x1)), (2, .ref (ad E x2)), (3, .ref (ad E x3)), (4, .int x4)] [] M (zL_law_B2252 L xs KK23 x1 x2 x3 x4 M) := by
  unfold zL_law_B2252
  refine AW.aload_n (pc := 2252) dL_law_2252 rfl 1 rfl ?_
  refine AW.aload_n (pc := 2253) dL_law_2253 rfl 0 rfl ?_
  refine AW.iload (pc := 2254) dL_law_2254 4 rfl ?_
  refine AW.iconst (pc := 2256) dL_law_2256 ci_1 ?_
  refine AW.iadd (pc := 2257) dL_law_2257 ?_
  refine AW.chk (fun g1 => ?_)
  refine AW.sld (pc := 2258) dL_law_2258 g1 ?_
  refine AW.aload_n (pc := 2259) dL_law_2259 rfl 0 rfl ?_
  refine AW.iload (pc := 2260) dL_law_2260 4 rfl ?_
  refine AW.iconst (pc := 2262) dL_law_2262 ci_2 ?_
  refine AW.iadd (pc := 2263) dL_law_2263 ?_
  refine AW.chk (fun g2 => ?_)
  refine AW.sld (pc := 2264) dL_law_2264 g2 ?_
  refine AW.aload_n (pc := 2265) dL_law_2265 rfl 3 rfl ?_
  refine AW.callW [.ref (ad E x1), .int (xs (Int32.toNatClampNeg (x4 + 1))), .int (xs (Int32.toNatClampNeg (x4 + 2))), .ref (ad E x3)] [] (pc := 2266) dL_law_2266 mlL_215 mwL_credit rfl rfl (fun _ => okR_L (by decide) (by omega) (by omega)) (kL_credit l E hst 1000 (by decide) 111 (Nat.le_refl 111) x1 (xs (Int32.toNatClampNeg (x4 + 1))) (xs (Int32.toNatClampNeg (x4 + 2))) x3 M) rfl (Nat.le_of_ble_eq_true rfl) (fun v3 M4 => ?_)
  refine AW.istore (pc := 2269) [1, 2, 3, 4, 5, 0] [(0, .ref b), (1, .ref (ad E x1)), (2, .ref (ad E x2)), (3, .ref (ad E x3)), (4, .int x4), (5, .int v3)] dL_law_2269 (by decide) rfl ?_
  refine AW.aload_n (pc := 2271) dL_law_2271 rfl 2 rfl ?_
  refine AW.aload_n (pc := 2272) dL_law_2272 rfl 0 rfl ?_
  refine AW.iload (pc := 2273) dL_law_2273 4 rfl ?_
  refine AW.iconst (pc := 2275) dL_law_2275 ci_1 ?_
  refine AW.iadd (pc := 2276) dL_law_2276 ?_
  refine AW.chk (fun g5 => ?_)
  refine AW.sld (pc := 2277) dL_law_2277 g5 ?_
  refine AW.aload_n (pc := 2278) dL_law_2278 rfl 0 rfl ?_
  refine AW.iload (pc := 2279) dL_law_2279 4 rfl ?_
  refine AW.iconst (pc := 2281) dL_law_2281 ci_2 ?_
  refine AW.iadd (pc := 2282) dL_law_2282 ?_
  refine AW.chk (fun g6 => ?_)
  refine AW.sld (pc := 2283) dL_law_2283 g6 ?_
  refine AW.chk (fun g9 => ?_)
  refine AW.cV2i (pc := 2284) dL_law_2284 mlL_217 mbX12_credit rfl g9 (kct g9 rfl (Nat.le_refl 111)) (fun _ => okR_L (by decide) (by omega) (by omega)) (kX12_credit l E 1000 (by decide) 111 (Nat.le_refl 111) false x2 (xs (Int32.toNatClampNeg (x4 + 1))) (xs (Int32.toNatClampNeg (x4 + 2))) M4) (Nat.le_of_ble_eq_true rfl) (fun v7 M8 => ?_)
  refine AW.istore (pc := 2287) [1, 2, 3, 4, 5, 6, 0] [(0, .ref b), (1, .ref (ad E x1)), (2, .ref (ad E x2)), (3, .ref (ad E x3)), (4, .int x4), (5, .int v3), (6, .int v7)] dL_law_2287 (by decide) rfl ?_
  refine AW.aload_n (pc := 2289) dL_law_2289 rfl 2 rfl ?_
  refine AW.cV0i (pc := 2290) dL_law_2290 mlL_125 mbX12_thrown rfl g9 (kct g9 rfl (Nat.le_refl 111)) (fun _ => okR_L (by decide) (by omega) (by omega)) (kX12_thrown l E 1000 (by decide) 111 (Nat.le_refl 111) false x2 M8) (Nat.le_of_ble_eq_true rfl) (fun v10 M11 => ?_)
  refine AW.iload (pc := 2293) dL_law_2293 5 rfl ?_
  refine AW.icmp_eq (pc := 2295) 2300 dL_law_2295 (by decide) (fun h12 => ?_) (fun h12 => ?_)
  · refine AW.iload (pc := 2300) dL_law_2300 5 rfl ?_
    refine AW.if_ne (pc := 2302) 2317 dL_law_2302 (by decide) (fun h13 => ?_) (fun h13 => ?_)
    · refine AW.aload_n (pc := 2305) dL_law_2305 rfl 3 rfl ?_
      refine AW.iconst (pc := 2306) dL_law_2306 ci_0 ?_
      refine AW.chk (fun g14 => ?_)
      refine AW.lald (pc := 2307) dL_law_2307 (k0e g14.1) (kct (k0e g14.1) rfl (Nat.le_refl 111)) g14.2 ?_
      refine AW.iload (pc := 2308) dL_law_2308 6 rfl ?_
      refine AW.i2l (pc := 2310) dL_law_2310 ?_
      refine AW.lcmp (pc := 2311) dL_law_2311 ?_
      refine AW.if_eq (pc := 2312) 2317 dL_law_2312 (by decide) (fun h15 => ?_) (fun h15 => ?_)
      · exact AW.sub [0, 1, 2, 3, 4] rfl (kL_law_B2317 l E hst Z hZ b L xs (ce + 1) (sl + 6) (by omega) (by omega) KK23 hKK23 x1 x2 x3 x4 M11)
      · refine AW.iconst (pc := 2315) dL_law_2315 ci_0 ?_
        exact AW.lend0 (pc := 2316) (by decide)
    · exact AW.sub [0, 1, 2, 3, 4] rfl (kL_law_B2317 l E hst Z hZ b L xs (ce + 1) (sl + 6) (by omega) (by omega) KK23 hKK23 x1 x2 x3 x4 M11)
  · refine AW.iconst (pc := 2298) dL_law_2298 ci_0 ?_
    exact AW.lend0 (pc := 2299) (by decide)
set_option maxRecDepth 20000 in
set_option maxHeartbeats 4000000 in
theorem kL_law_B2249 (l : Launch) (E : Ev) (hst : l.stackTraces = false) (Z : List Frame → Array Value → State → State → Prop) (hZ : LEnd l Z) (b L : Nat) (xs : Nat → Int32) (ce sl : Nat) (hce : ce ≤ 601024) (hsl : sl ≤ 7293034) (KK23 : Nat → Nat → Nat → Int32 → Mem → Option (Int32 × Mem)) (hKK23 : ∀ (x1 : Nat) (x2 : Nat) (x3 : Nat) (x4 : Int32) (M : Mem), AW l E fL_law (fun _ => room_1) (PQL Z E b L xs) 111 false ce sl 23 [(0, .ref b), (1, .ref (ad E x1)), (2, .ref (ad E x2)), (3, .ref (ad E x3)), (4, .int x4)] [] M (KK23 x1 x2 x3 x4 M)) (x1 : Nat) (x2 : Nat) (x3 : Nat) (x4 : Int32) (M : Mem) : AW l E fL_law (fun _ => room_1) (PQL Z E b L xs) 111 false ce sl 2249 [(0, .ref b), (1, .ref (ad E x1)), (2, .ref (ad E x2)), (3, .ref (ad E x3)), (4, .int x4)] [] M (zL_law_B2249 L xs KK23 x1 x2 x3 x4 M) := by
  unfold zL_law_B2249
  refine AW.goto (pc := 2249) 2480 dL_law_2249 (by decide) ?_
  exact (kL_law_B2480 l E hst Z hZ b L xs ce sl (by omega) (by omega) KK23 hKK23 x1 x2 x3 x4 M)
set_option maxRecDepth 20000 in
set_option maxHeartbeats 4000000 in
theorem kL_law_B2243 (l : Launch) (E : Ev) (hst : l.stackTraces = false) (Z : List Frame → Array Value → State → State → Prop) (hZ : LEnd l Z) (b L : Nat) (xs : Nat → Int32) (ce sl : Nat) (hce : ce ≤ 601024) (hsl : sl ≤ 7293034) (KK23 : Nat → Nat → Nat → Int32 → Mem → Option (Int32 × Mem)) (hKK23 : ∀ (x1 : Nat) (x2 : Nat) (x3 : Nat) (x4 : Int32) (M : Mem), AW l E fL_law (fun _ => room_1) (PQL Z E b L xs) 111 false ce sl 23 [(0, .ref b), (1, .ref (ad E x1)), (2, .ref (ad E x2)), (3, .ref (ad E x3)), (4, .int x4)] [] M (KK23 x1 x2 x3 x4 M)) (x1 : Nat) (x2 : Nat) (x3 : Nat) (x4 : Int32) (s0 : Int64) (s1 : Int64) (M : Mem) : AW l E fL_law (fun _ => room_1) (PQL Z E b L xs) 111 false ce sl 2243 [(0, .ref b), (1, .ref (ad E x1)), (2, .ref (ad E x2)), (3, .ref (ad E x3)), (4, .int x4)] [.long s1, .long s0] M (zL_law_B2243 L xs KK23 x1 x2 x3 x4 s0 s1 M) := by
  unfold zL_law_B2243
  refine AW.lcmp (pc := 2243) dL_law_2243 ?_
  refine AW.if_eq (pc := 2244) 2249 dL_law_2244 (by decide) (fun h1 => ?_) (fun h1 => ?_)
  · exact (kL_law_B2249 l E hst Z hZ b L xs ce sl (by omega) (by omega) KK23 hKK23 x1 x2 x3 x4 M)
  · refine AW.iconst (pc := 2247) dL_law_2247 ci_0 ?_
    exact AW.lend0 (pc := 2248) (by decide)
set_option maxRecDepth 20000 in
set_option maxHeartbeats 4000000 in
theorem kL_law_B2153 (l : Launch) (E : Ev) (hst : l.stackTraces = false) (Z : List Frame → Array Value → State → State → Prop) (hZ : LEnd l Z) (b L : Nat) (xs : Nat → Int32) (ce sl : Nat) (hce : ce + 1 ≤ 601024) (hsl : sl + 6 ≤ 7293034) (KK23 : Nat → Nat → Nat → Int32 → Mem → Option (Int32 × Mem)) (hKK23 : ∀ (x1 : Nat) (x2 : Nat) (x3 : Nat) (x4 : Int32) (M : Mem), AW l E fL_law (fun _ => room_1) (PQL Z E b L xs) 111 false (ce + 1) (sl + 6) 23 [(0, .ref b), (1, .ref (ad E x1)), (2, .ref (ad E x2)), (3, .ref (ad E x3)), (4, .int x4)] [] M (KK23 x1 x2 x3 x4 M)) (x1 : Nat) (x2 : Nat) (x3 : Nat) (x4 : Int32) (M : Mem) : AW l E fL_law (fun _ => room_1) (PQL Z E b L xs) 111 false ce sl 2153 [(0, .ref b), (1, .ref (ad E x1)), (2, .ref (ad E x2)), (3, .ref (ad E x3)), (4, .int x4)] [] M (zL_law_B2153 L xs KK23 x1 x2 x3 x4 M) := by
  unfold zL_law_B2153
  refine AW.aload_n (pc := 2153) dL_law_2153 rfl 1 rfl ?_
  refine AW.aload_n (pc := 2154) dL_law_2154 rfl 0 rfl ?_
  refine AW.iload (pc := 2155) dL_law_2155 4 rfl ?_
  refine AW.iconst (pc := 2157) dL_law_2157 ci_1 ?_
  refine AW.iadd (pc := 2158) dL_law_2158 ?_
  refine AW.chk (fun g1 => ?_)
  refine AW.sld (pc := 2159) dL_law_2159 g1 ?_
  refine AW.aload_n (pc := 2160) dL_law_2160 rfl 0 rfl ?_
  refine AW.iload (pc := 2161) dL_law_2161 4 rfl ?_
  refine AW.iconst (pc := 2163) dL_law_2163 ci_2 ?_
  refine AW.iadd (pc := 2164) dL_law_2164 ?_
  refine AW.chk (fun g2 => ?_)
  refine AW.sld (pc := 2165) dL_law_2165 g2 ?_
  refine AW.aload_n (pc := 2166) dL_law_2166 rfl 0 rfl ?_
  refine AW.iload (pc := 2167) dL_law_2167 4 rfl ?_
  refine AW.iconst (pc := 2169) dL_law_2169 ci_3 ?_
  refine AW.iadd (pc := 2170) dL_law_2170 ?_
  refine AW.chk (fun g3 => ?_)
  refine AW.sld (pc := 2171) dL_law_2171 g3 ?_
  refine AW.aload_n (pc := 2172) dL_law_2172 rfl 0 rfl ?_
  refine AW.iload (pc := 2173) dL_law_2173 4 rfl ?_
  refine AW.iconst (pc := 2175) dL_law_2175 ci_4 ?_
  refine AW.iadd (pc := 2176) dL_law_2176 ?_
  refine AW.chk (fun g4 => ?_)
  refine AW.sld (pc := 2177) dL_law_2177 g4 ?_
  refine AW.aload_n (pc := 2178) dL_law_2178 rfl 3 rfl ?_
  refine AW.callW [.ref (ad E x1), .int (xs (Int32.toNatClampNeg (x4 + 1))), .int (xs (Int32.toNatClampNeg (x4 + 2))), .int (xs (Int32.toNatClampNeg (x4 + 3))), .int (xs (Int32.toNatClampNeg (x4 + 4))), .ref (ad E x3)] [] (pc := 2179) dL_law_2179 mlL_212 mwL_guess rfl rfl (fun _ => okR_L (by decide) (by omega) (by omega)) (kL_guess l E hst 1000 (by decide) 111 (Nat.le_refl 111) x1 (xs (Int32.toNatClampNeg (x4 + 1))) (xs (Int32.toNatClampNeg (x4 + 2))) (xs (Int32.toNatClampNeg (x4 + 3))) (xs (Int32.toNatClampNeg (x4 + 4))) x3 M) rfl (Nat.le_of_ble_eq_true rfl) (fun v5 M6 => ?_)
  refine AW.istore (pc := 2182) [1, 2, 3, 4, 5, 0] [(0, .ref b), (1, .ref (ad E x1)), (2, .ref (ad E x2)), (3, .ref (ad E x3)), (4, .int x4), (5, .int v5)] dL_law_2182 (by decide) rfl ?_
  refine AW.aload_n (pc := 2184) dL_law_2184 rfl 2 rfl ?_
  refine AW.aload_n (pc := 2185) dL_law_2185 rfl 0 rfl ?_
  refine AW.iload (pc := 2186) dL_law_2186 4 rfl ?_
  refine AW.iconst (pc := 2188) dL_law_2188 ci_1 ?_
  refine AW.iadd (pc := 2189) dL_law_2189 ?_
  refine AW.chk (fun g7 => ?_)
  refine AW.sld (pc := 2190) dL_law_2190 g7 ?_
  refine AW.aload_n (pc := 2191) dL_law_2191 rfl 0 rfl ?_
  refine AW.iload (pc := 2192) dL_law_2192 4 rfl ?_
  refine AW.iconst (pc := 2194) dL_law_2194 ci_2 ?_
  refine AW.iadd (pc := 2195) dL_law_2195 ?_
  refine AW.chk (fun g8 => ?_)
  refine AW.sld (pc := 2196) dL_law_2196 g8 ?_
  refine AW.aload_n (pc := 2197) dL_law_2197 rfl 0 rfl ?_
  refine AW.iload (pc := 2198) dL_law_2198 4 rfl ?_
  refine AW.iconst (pc := 2200) dL_law_2200 ci_3 ?_
  refine AW.iadd (pc := 2201) dL_law_2201 ?_
  refine AW.chk (fun g9 => ?_)
  refine AW.sld (pc := 2202) dL_law_2202 g9 ?_
  refine AW.aload_n (pc := 2203) dL_law_2203 rfl 0 rfl ?_
  refine AW.iload (pc := 2204) dL_law_2204 4 rfl ?_
  refine AW.iconst (pc := 2206) dL_law_2206 ci_4 ?_
  refine AW.iadd (pc := 2207) dL_law_2207 ?_
  refine AW.chk (fun g10 => ?_)
  refine AW.sld (pc := 2208) dL_law_2208 g10 ?_
  refine AW.chk (fun g13 => ?_)
  refine AW.cV4i (pc := 2209) dL_law_2209 mlL_214 mbX12_guess rfl g13 (kct g13 rfl (Nat.le_refl 111)) (fun _ => okR_L (by decide) (by omega) (by omega)) (kX12_guess l E 1000 (by decide) 111 (Nat.le_refl 111) false x2 (xs (Int32.toNatClampNeg (x4 + 1))) (xs (Int32.toNatClampNeg (x4 + 2))) (xs (Int32.toNatClampNeg (x4 + 3))) (xs (Int32.toNatClampNeg (x4 + 4))) M6) (Nat.le_of_ble_eq_true rfl) (fun v11 M12 => ?_)
  refine AW.istore (pc := 2212) [1, 2, 3, 4, 5, 6, 0] [(0, .ref b), (1, .ref (ad E x1)), (2, .ref (ad E x2)), (3, .ref (ad E x3)), (4, .int x4), (5, .int v5), (6, .int v11)] dL_law_2212 (by decide) rfl ?_
  refine AW.aload_n (pc := 2214) dL_law_2214 rfl 2 rfl ?_
  refine AW.cV0i (pc := 2215) dL_law_2215 mlL_125 mbX12_thrown rfl g13 (kct g13 rfl (Nat.le_refl 111)) (fun _ => okR_L (by decide) (by omega) (by omega)) (kX12_thrown l E 1000 (by decide) 111 (Nat.le_refl 111) false x2 M12) (Nat.le_of_ble_eq_true rfl) (fun v14 M15 => ?_)
  refine AW.iload (pc := 2218) dL_law_2218 5 rfl ?_
  refine AW.icmp_eq (pc := 2220) 2225 dL_law_2220 (by decide) (fun h16 => ?_) (fun h16 => ?_)
  · refine AW.iload (pc := 2225) dL_law_2225 5 rfl ?_
    refine AW.if_ne (pc := 2227) 2249 dL_law_2227 (by decide) (fun h17 => ?_) (fun h17 => ?_)
    · refine AW.aload_n (pc := 2230) dL_law_2230 rfl 3 rfl ?_
      refine AW.iconst (pc := 2231) dL_law_2231 ci_0 ?_
      refine AW.chk (fun g18 => ?_)
      refine AW.lald (pc := 2232) dL_law_2232 (k0e g18.1) (kct (k0e g18.1) rfl (Nat.le_refl 111)) g18.2 ?_
      refine AW.iload (pc := 2233) dL_law_2233 6 rfl ?_
      refine AW.if_eq (pc := 2235) 2242 dL_law_2235 (by decide) (fun h19 => ?_) (fun h19 => ?_)
      · refine AW.lconst (pc := 2242) dL_law_2242 cl_0 ?_
        exact AW.sub [0, 1, 2, 3, 4] rfl (kL_law_B2243 l E hst Z hZ b L xs (ce + 1) (sl + 6) (by omega) (by omega) KK23 hKK23 x1 x2 x3 x4 (mL M15 x3 (Int32.toNatClampNeg 0)) 0 M15)
      · refine AW.lconst (pc := 2238) dL_law_2238 cl_1 ?_
        refine AW.goto (pc := 2239) 2243 dL_law_2239 (by decide) ?_
        exact AW.sub [0, 1, 2, 3, 4] rfl (kL_law_B2243 l E hst Z hZ b L xs (ce + 1) (sl + 6) (by omega) (by omega) KK23 hKK23 x1 x2 x3 x4 (mL M15 x3 (Int32.toNatClampNeg 0)) 1 M15)
    · exact AW.sub [0, 1, 2, 3, 4] rfl (kL_law_B2249 l E hst Z hZ b L xs (ce + 1) (sl + 6) (by omega) (by omega) KK23 hKK23 x1 x2 x3 x4 M15)
  · refine AW.iconst (pc := 2223) dL_law_2223 ci_0 ?_
    exact AW.lend0 (pc := 2224) (by decide)
set_option maxRecDepth 20000 in
set_option maxHeartbeats 4000000 in
theorem kL_law_B2150 (l : Launch) (E : Ev) (hst : l.stackTraces = false) (Z : List Frame → Array Value → State → State → Prop) (hZ : LEnd l Z) (b L : Nat) (xs : Nat → Int32) (ce sl : Nat) (hce : ce ≤ 601024) (hsl : sl ≤ 7293034) (KK23 : Nat → Nat → Nat → Int32 → Mem → Option (Int32 × Mem)) (hKK23 : ∀ (x1 : Nat) (x2 : Nat) (x3 : Nat) (x4 : Int32) (M : Mem), AW l E fL_law (fun _ => room_1) (PQL Z E b L xs) 111 false ce sl 23 [(0, .ref b), (1, .ref (ad E x1)), (2, .ref (ad E x2)), (3, .ref (ad E x3)), (4, .int x4)] [] M (KK23 x1 x2 x3 x4 M)) (x1 : Nat) (x2 : Nat) (x3 : Nat) (x4 : Int32) (M : Mem) : AW l E fL_law (fun _ => room_1) (PQL Z E b L xs) 111 false ce sl 2150 [(0, .ref b), (1, .ref (ad E x1)), (2, .ref (ad E x2)), (3, .ref (ad E x3)), (4, .int x4)] [] M (zL_law_B2150 L xs KK23 x1 x2 x3 x4 M) := by
  unfold zL_law_B2150
  refine AW.goto (pc := 2150) 2480 dL_law_2150 (by decide) ?_
  exact (kL_law_B2480 l E hst Z hZ b L xs ce sl (by omega) (by omega) KK23 hKK23 x1 x2 x3 x4 M)
set_option maxRecDepth 20000 in
set_option maxHeartbeats 4000000 in
theorem kL_law_B2097 (l : Launch) (E : Ev) (hst : l.stackTraces = false) (Z : List Frame → Array Value → State → State → Prop) (hZ : LEnd l Z) (b L : Nat) (xs : Nat → Int32) (ce sl : Nat) (hce : ce + 1 ≤ 601024) (hsl : sl + 6 ≤ 7293034) (KK23 : Nat → Nat → Nat → Int32 → Mem → Option (Int32 × Mem)) (hKK23 : ∀ (x1 : Nat) (x2 : Nat) (x3 : Nat) (x4 : Int32) (M : Mem), AW l E fL_law (fun _ => room_1) (PQL Z E b L xs) 111 false (ce + 1) (sl + 6) 23 [(0, .ref b), (1, .ref (ad E x1)), (2, .ref (ad E x2)), (3, .ref (ad E x3)), (4, .int x4)] [] M (KK23 x1 x2 x3 x4 M)) (x1 : Nat) (x2 : Nat) (x3 : Nat) (x4 : Int32) (M : Mem) : AW l E fL_law (fun _ => room_1) (PQL Z E b L xs) 111 false ce sl 2097 [(0, .ref b), (1, .ref (ad E x1)), (2, .ref (ad E x2)), (3, .ref (ad E x3)), (4, .int x4)] [] M (zL_law_B2097 L xs KK23 x1 x2 x3 x4 M) := by
  unfold zL_law_B2097
  refine AW.aload_n (pc := 2097) dL_law_2097 rfl 1 rfl ?_
  refine AW.aload_n (pc := 2098) dL_law_2098 rfl 0 rfl ?_
  refine AW.iload (pc := 2099) dL_law_2099 4 rfl ?_
  refine AW.iconst (pc := 2101) dL_law_2101 ci_1 ?_
  refine AW.iadd (pc := 2102) dL_law_2102 ?_
  refine AW.chk (fun g1 => ?_)
  refine AW.sld (pc := 2103) dL_law_2103 g1 ?_
  refine AW.aload_n (pc := 2104) dL_law_2104 rfl 3 rfl ?_
  refine AW.callW [.ref (ad E x1), .int (xs (Int32.toNatClampNeg (x4 + 1))), .ref (ad E x3)] [] (pc := 2105) dL_law_2105 mlL_209 mwL_fewest rfl rfl (fun _ => okR_L (by decide) (by omega) (by omega)) (kL_fewest l E hst 1000 (by decide) 111 (Nat.le_refl 111) x1 (xs (Int32.toNatClampNeg (x4 + 1))) x3 M) rfl (Nat.le_of_ble_eq_true rfl) (fun v2 M3 => ?_)
  refine AW.istore (pc := 2108) [1, 2, 3, 4, 5, 0] [(0, .ref b), (1, .ref (ad E x1)), (2, .ref (ad E x2)), (3, .ref (ad E x3)), (4, .int x4), (5, .int v2)] dL_law_2108 (by decide) rfl ?_
  refine AW.aload_n (pc := 2110) dL_law_2110 rfl 2 rfl ?_
  refine AW.aload_n (pc := 2111) dL_law_2111 rfl 0 rfl ?_
  refine AW.iload (pc := 2112) dL_law_2112 4 rfl ?_
  refine AW.iconst (pc := 2114) dL_law_2114 ci_1 ?_
  refine AW.iadd (pc := 2115) dL_law_2115 ?_
  refine AW.chk (fun g4 => ?_)
  refine AW.sld (pc := 2116) dL_law_2116 g4 ?_
  refine AW.chk (fun g7 => ?_)
  refine AW.cV1i (pc := 2117) dL_law_2117 mlL_211 mbX12_fewest rfl g7 (kct g7 rfl (Nat.le_refl 111)) (fun _ => okR_L (by decide) (by omega) (by omega)) (kX12_fewest l E 1000 (by decide) 111 (Nat.le_refl 111) false x2 (xs (Int32.toNatClampNeg (x4 + 1))) M3) (Nat.le_of_ble_eq_true rfl) (fun v5 M6 => ?_)
  refine AW.istore (pc := 2120) [1, 2, 3, 4, 5, 6, 0] [(0, .ref b), (1, .ref (ad E x1)), (2, .ref (ad E x2)), (3, .ref (ad E x3)), (4, .int x4), (5, .int v2), (6, .int v5)] dL_law_2120 (by decide) rfl ?_
  refine AW.aload_n (pc := 2122) dL_law_2122 rfl 2 rfl ?_
  refine AW.cV0i (pc := 2123) dL_law_2123 mlL_125 mbX12_thrown rfl g7 (kct g7 rfl (Nat.le_refl 111)) (fun _ => okR_L (by decide) (by omega) (by omega)) (kX12_thrown l E 1000 (by decide) 111 (Nat.le_refl 111) false x2 M6) (Nat.le_of_ble_eq_true rfl) (fun v8 M9 => ?_)
  refine AW.iload (pc := 2126) dL_law_2126 5 rfl ?_
  refine AW.icmp_eq (pc := 2128) 2133 dL_law_2128 (by decide) (fun h10 => ?_) (fun h10 => ?_)
  · refine AW.iload (pc := 2133) dL_law_2133 5 rfl ?_
    refine AW.if_ne (pc := 2135) 2150 dL_law_2135 (by decide) (fun h11 => ?_) (fun h11 => ?_)
    · refine AW.aload_n (pc := 2138) dL_law_2138 rfl 3 rfl ?_
      refine AW.iconst (pc := 2139) dL_law_2139 ci_0 ?_
      refine AW.chk (fun g12 => ?_)
      refine AW.lald (pc := 2140) dL_law_2140 (k0e g12.1) (kct (k0e g12.1) rfl (Nat.le_refl 111)) g12.2 ?_
      refine AW.iload (pc := 2141) dL_law_2141 6 rfl ?_
      refine AW.i2l (pc := 2143) dL_law_2143 ?_
      refine AW.lcmp (pc := 2144) dL_law_2144 ?_
      refine AW.if_eq (pc := 2145) 2150 dL_law_2145 (by decide) (fun h13 => ?_) (fun h13 => ?_)
      · exact AW.sub [0, 1, 2, 3, 4] rfl (kL_law_B2150 l E hst Z hZ b L xs (ce + 1) (sl + 6) (by omega) (by omega) KK23 hKK23 x1 x2 x3 x4 M9)
      · refine AW.iconst (pc := 2148) dL_law_2148 ci_0 ?_
        exact AW.lend0 (pc := 2149) (by decide)
    · exact AW.sub [0, 1, 2, 3, 4] rfl (kL_law_B2150 l E hst Z hZ b L xs (ce + 1) (sl + 6) (by omega) (by omega) KK23 hKK23 x1 x2 x3 x4 M9)
  · refine AW.iconst (pc := 2131) dL_law_2131 ci_0 ?_
    exact AW.lend0 (pc := 2132) (by decide)
set_option maxRecDepth 20000 in
set_option maxHeartbeats 4000000 in
theorem kL_law_B2094 (l : Launch) (E : Ev) (hst : l.stackTraces = false) (Z : List Frame → Array Value → State → State → Prop) (hZ : LEnd l Z) (b L : Nat) (xs : Nat → Int32) (ce sl : Nat) (hce : ce ≤ 601024) (hsl : sl ≤ 7293034) (KK23 : Nat → Nat → Nat → Int32 → Mem → Option (Int32 × Mem)) (hKK23 : ∀ (x1 : Nat) (x2 : Nat) (x3 : Nat) (x4 : Int32) (M : Mem), AW l E fL_law (fun _ => room_1) (PQL Z E b L xs) 111 false ce sl 23 [(0, .ref b), (1, .ref (ad E x1)), (2, .ref (ad E x2)), (3, .ref (ad E x3)), (4, .int x4)] [] M (KK23 x1 x2 x3 x4 M)) (x1 : Nat) (x2 : Nat) (x3 : Nat) (x4 : Int32) (M : Mem) : AW l E fL_law (fun _ => room_1) (PQL Z E b L xs) 111 false ce sl 2094 [(0, .ref b), (1, .ref (ad E x1)), (2, .ref (ad E x2)), (3, .ref (ad E x3)), (4, .int x4)] [] M (zL_law_B2094 L xs KK23 x1 x2 x3 x4 M) := by
  unfold zL_law_B2094
  refine AW.goto (pc := 2094) 2480 dL_law_2094 (by decide) ?_
  exact (kL_law_B2480 l E hst Z hZ b L xs ce sl (by omega) (by omega) KK23 hKK23 x1 x2 x3 x4 M)
set_option maxRecDepth 20000 in
set_option maxHeartbeats 4000000 in
theorem kL_law_B2041 (l : Launch) (E : Ev) (hst : l.stackTraces = false) (Z : List Frame → Array Value → State → State → Prop) (hZ : LEnd l Z) (b L : Nat) (xs : Nat → Int32) (ce sl : Nat) (hce : ce + 1 ≤ 601024) (hsl : sl + 6 ≤ 7293034) (KK23 : Nat → Nat → Nat → Int32 → Mem → Option (Int32 × Mem)) (hKK23 : ∀ (x1 : Nat) (x2 : Nat) (x3 : Nat) (x4 : Int32) (M : Mem), AW l E fL_law (fun _ => room_1) (PQL Z E b L xs) 111 false (ce + 1) (sl + 6) 23 [(0, .ref b), (1, .ref (ad E x1)), (2, .ref (ad E x2)), (3, .ref (ad E x3)), (4, .int x4)] [] M (KK23 x1 x2 x3 x4 M)) (x1 : Nat) (x2 : Nat) (x3 : Nat) (x4 : Int32) (M : Mem) : AW l E fL_law (fun _ => room_1) (PQL Z E b L xs) 111 false ce sl 2041 [(0, .ref b), (1, .ref (ad E x1)), (2, .ref (ad E x2)), (3, .ref (ad E x3)), (4, .int x4)] [] M (zL_law_B2041 L xs KK23 x1 x2 x3 x4 M) := by
  unfold zL_law_B2041
  refine AW.aload_n (pc := 2041) dL_law_2041 rfl 1 rfl ?_
  refine AW.aload_n (pc := 2042) dL_law_2042 rfl 0 rfl ?_
  refine AW.iload (pc := 2043) dL_law_2043 4 rfl ?_
  refine AW.iconst (pc := 2045) dL_law_2045 ci_1 ?_
  refine AW.iadd (pc := 2046) dL_law_2046 ?_
  refine AW.chk (fun g1 => ?_)
  refine AW.sld (pc := 2047) dL_law_2047 g1 ?_
  refine AW.aload_n (pc := 2048) dL_law_2048 rfl 3 rfl ?_
  refine AW.callW [.ref (ad E x1), .int (xs (Int32.toNatClampNeg (x4 + 1))), .ref (ad E x3)] [] (pc := 2049) dL_law_2049 mlL_206 mwL_strange rfl rfl (fun _ => okR_L (by decide) (by omega) (by omega)) (kL_strange l E hst 1000 (by decide) 111 (Nat.le_refl 111) x1 (xs (Int32.toNatClampNeg (x4 + 1))) x3 M) rfl (Nat.le_of_ble_eq_true rfl) (fun v2 M3 => ?_)
  refine AW.istore (pc := 2052) [1, 2, 3, 4, 5, 0] [(0, .ref b), (1, .ref (ad E x1)), (2, .ref (ad E x2)), (3, .ref (ad E x3)), (4, .int x4), (5, .int v2)] dL_law_2052 (by decide) rfl ?_
  refine AW.aload_n (pc := 2054) dL_law_2054 rfl 2 rfl ?_
  refine AW.aload_n (pc := 2055) dL_law_2055 rfl 0 rfl ?_
  refine AW.iload (pc := 2056) dL_law_2056 4 rfl ?_
  refine AW.iconst (pc := 2058) dL_law_2058 ci_1 ?_
  refine AW.iadd (pc := 2059) dL_law_2059 ?_
  refine AW.chk (fun g4 => ?_)
  refine AW.sld (pc := 2060) dL_law_2060 g4 ?_
  refine AW.chk (fun g7 => ?_)
  refine AW.cV1i (pc := 2061) dL_law_2061 mlL_208 mbX12_strange rfl g7 (kct g7 rfl (Nat.le_refl 111)) (fun _ => okR_L (by decide) (by omega) (by omega)) (kX12_strange l E 1000 (by decide) 111 (Nat.le_refl 111) false x2 (xs (Int32.toNatClampNeg (x4 + 1))) M3) (Nat.le_of_ble_eq_true rfl) (fun v5 M6 => ?_)
  refine AW.istore (pc := 2064) [1, 2, 3, 4, 5, 6, 0] [(0, .ref b), (1, .ref (ad E x1)), (2, .ref (ad E x2)), (3, .ref (ad E x3)), (4, .int x4), (5, .int v2), (6, .int v5)] dL_law_2064 (by decide) rfl ?_
  refine AW.aload_n (pc := 2066) dL_law_2066 rfl 2 rfl ?_
  refine AW.cV0i (pc := 2067) dL_law_2067 mlL_125 mbX12_thrown rfl g7 (kct g7 rfl (Nat.le_refl 111)) (fun _ => okR_L (by decide) (by omega) (by omega)) (kX12_thrown l E 1000 (by decide) 111 (Nat.le_refl 111) false x2 M6) (Nat.le_of_ble_eq_true rfl) (fun v8 M9 => ?_)
  refine AW.iload (pc := 2070) dL_law_2070 5 rfl ?_
  refine AW.icmp_eq (pc := 2072) 2077 dL_law_2072 (by decide) (fun h10 => ?_) (fun h10 => ?_)
  · refine AW.iload (pc := 2077) dL_law_2077 5 rfl ?_
    refine AW.if_ne (pc := 2079) 2094 dL_law_2079 (by decide) (fun h11 => ?_) (fun h11 => ?_)
    · refine AW.aload_n (pc := 2082) dL_law_2082 rfl 3 rfl ?_
      refine AW.iconst (pc := 2083) dL_law_2083 ci_0 ?_
      refine AW.chk (fun g12 => ?_)
      refine AW.lald (pc := 2084) dL_law_2084 (k0e g12.1) (kct (k0e g12.1) rfl (Nat.le_refl 111)) g12.2 ?_
      refine AW.iload (pc := 2085) dL_law_2085 6 rfl ?_
      refine AW.i2l (pc := 2087) dL_law_2087 ?_
      refine AW.lcmp (pc := 2088) dL_law_2088 ?_
      refine AW.if_eq (pc := 2089) 2094 dL_law_2089 (by decide) (fun h13 => ?_) (fun h13 => ?_)
      · exact AW.sub [0, 1, 2, 3, 4] rfl (kL_law_B2094 l E hst Z hZ b L xs (ce + 1) (sl + 6) (by omega) (by omega) KK23 hKK23 x1 x2 x3 x4 M9)
      · refine AW.iconst (pc := 2092) dL_law_2092 ci_0 ?_
        exact AW.lend0 (pc := 2093) (by decide)
    · exact AW.sub [0, 1, 2, 3, 4] rfl (kL_law_B2094 l E hst Z hZ b L xs (ce + 1) (sl + 6) (by omega) (by omega) KK23 hKK23 x1 x2 x3 x4 M9)
  · refine AW.iconst (pc := 2075) dL_law_2075 ci_0 ?_
    exact AW.lend0 (pc := 2076) (by decide)
set_option maxRecDepth 20000 in
set_option maxHeartbeats 4000000 in
theorem kL_law_B2038 (l : Launch) (E : Ev) (hst : l.stackTraces = false) (Z : List Frame → Array Value → State → State → Prop) (hZ : LEnd l Z) (b L : Nat) (xs : Nat → Int32) (ce sl : Nat) (hce : ce ≤ 601024) (hsl : sl ≤ 7293034) (KK23 : Nat → Nat → Nat → Int32 → Mem → Option (Int32 × Mem)) (hKK23 : ∀ (x1 : Nat) (x2 : Nat) (x3 : Nat) (x4 : Int32) (M : Mem), AW l E fL_law (fun _ => room_1) (PQL Z E b L xs) 111 false ce sl 23 [(0, .ref b), (1, .ref (ad E x1)), (2, .ref (ad E x2)), (3, .ref (ad E x3)), (4, .int x4)] [] M (KK23 x1 x2 x3 x4 M)) (x1 : Nat) (x2 : Nat) (x3 : Nat) (x4 : Int32) (M : Mem) : AW l E fL_law (fun _ => room_1) (PQL Z E b L xs) 111 false ce sl 2038 [(0, .ref b), (1, .ref (ad E x1)), (2, .ref (ad E x2)), (3, .ref (ad E x3)), (4, .int x4)] [] M (zL_law_B2038 L xs KK23 x1 x2 x3 x4 M) := by
  unfold zL_law_B2038
  refine AW.goto (pc := 2038) 2480 dL_law_2038 (by decide) ?_
  exact (kL_law_B2480 l E hst Z hZ b L xs ce sl (by omega) (by omega) KK23 hKK23 x1 x2 x3 x4 M)
set_option maxRecDepth 20000 in
set_option maxHeartbeats 4000000 in
theorem kL_law_B1961 (l : Launch) (E : Ev) (hst : l.stackTraces = false) (Z : List Frame → Array Value → State → State → Prop) (hZ : LEnd l Z) (b L : Nat) (xs : Nat → Int32) (ce sl : Nat) (hce : ce + 1 ≤ 601024) (hsl : sl + 6 ≤ 7293034) (KK23 : Nat → Nat → Nat → Int32 → Mem → Option (Int32 × Mem)) (hKK23 : ∀ (x1 : Nat) (x2 : Nat) (x3 : Nat) (x4 : Int32) (M : Mem), AW l E fL_law (fun _ => room_1) (PQL Z E b L xs) 111 false (ce + 1) (sl + 6) 23 [(0, .ref b), (1, .ref (ad E x1)), (2, .ref (ad E x2)), (3, .ref (ad E x3)), (4, .int x4)] [] M (KK23 x1 x2 x3 x4 M)) (x1 : Nat) (x2 : Nat) (x3 : Nat) (x4 : Int32) (M : Mem) : AW l E fL_law (fun _ => room_1) (PQL Z E b L xs) 111 false ce sl 1961 [(0, .ref b), (1, .ref (ad E x1)), (2, .ref (ad E x2)), (3, .ref (ad E x3)), (4, .int x4)] [] M (zL_law_B1961 L xs KK23 x1 x2 x3 x4 M) := by
  unfold zL_law_B1961
  refine AW.aload_n (pc := 1961) dL_law_1961 rfl 1 rfl ?_
  refine AW.aload_n (pc := 1962) dL_law_1962 rfl 0 rfl ?_
  refine AW.iload (pc := 1963) dL_law_1963 4 rfl ?_
  refine AW.iconst (pc := 1965) dL_law_1965 ci_1 ?_
  refine AW.iadd (pc := 1966) dL_law_1966 ?_
  refine AW.chk (fun g1 => ?_)
  refine AW.sld (pc := 1967) dL_law_1967 g1 ?_
  refine AW.aload_n (pc := 1968) dL_law_1968 rfl 0 rfl ?_
  refine AW.iload (pc := 1969) dL_law_1969 4 rfl ?_
  refine AW.iconst (pc := 1971) dL_law_1971 ci_2 ?_
  refine AW.iadd (pc := 1972) dL_law_1972 ?_
  refine AW.chk (fun g2 => ?_)
  refine AW.sld (pc := 1973) dL_law_1973 g2 ?_
  refine AW.aload_n (pc := 1974) dL_law_1974 rfl 0 rfl ?_
  refine AW.iload (pc := 1975) dL_law_1975 4 rfl ?_
  refine AW.iconst (pc := 1977) dL_law_1977 ci_3 ?_
  refine AW.iadd (pc := 1978) dL_law_1978 ?_
  refine AW.chk (fun g3 => ?_)
  refine AW.sld (pc := 1979) dL_law_1979 g3 ?_
  refine AW.aload_n (pc := 1980) dL_law_1980 rfl 3 rfl ?_
  refine AW.callW [.ref (ad E x1), .int (xs (Int32.toNatClampNeg (x4 + 1))), .int (xs (Int32.toNatClampNeg (x4 + 2))), .int (xs (Int32.toNatClampNeg (x4 + 3))), .ref (ad E x3)] [] (pc := 1981) dL_law_1981 mlL_203 mwL_who rfl rfl (fun _ => okR_L (by decide) (by omega) (by omega)) (kL_who l E hst 1000 (by decide) 111 (Nat.le_refl 111) x1 (xs (Int32.toNatClampNeg (x4 + 1))) (xs (Int32.toNatClampNeg (x4 + 2))) (xs (Int32.toNatClampNeg (x4 + 3))) x3 M) rfl (Nat.le_of_ble_eq_true rfl) (fun v4 M5 => ?_)
  refine AW.istore (pc := 1984) [1, 2, 3, 4, 5, 0] [(0, .ref b), (1, .ref (ad E x1)), (2, .ref (ad E x2)), (3, .ref (ad E x3)), (4, .int x4), (5, .int v4)] dL_law_1984 (by decide) rfl ?_
  refine AW.aload_n (pc := 1986) dL_law_1986 rfl 2 rfl ?_
  refine AW.aload_n (pc := 1987) dL_law_1987 rfl 0 rfl ?_
  refine AW.iload (pc := 1988) dL_law_1988 4 rfl ?_
  refine AW.iconst (pc := 1990) dL_law_1990 ci_1 ?_
  refine AW.iadd (pc := 1991) dL_law_1991 ?_
  refine AW.chk (fun g6 => ?_)
  refine AW.sld (pc := 1992) dL_law_1992 g6 ?_
  refine AW.aload_n (pc := 1993) dL_law_1993 rfl 0 rfl ?_
  refine AW.iload (pc := 1994) dL_law_1994 4 rfl ?_
  refine AW.iconst (pc := 1996) dL_law_1996 ci_2 ?_
  refine AW.iadd (pc := 1997) dL_law_1997 ?_
  refine AW.chk (fun g7 => ?_)
  refine AW.sld (pc := 1998) dL_law_1998 g7 ?_
  refine AW.aload_n (pc := 1999) dL_law_1999 rfl 0 rfl ?_
  refine AW.iload (pc := 2000) dL_law_2000 4 rfl ?_
  refine AW.iconst (pc := 2002) dL_law_2002 ci_3 ?_
  refine AW.iadd (pc := 2003) dL_law_2003 ?_
  refine AW.chk (fun g8 => ?_)
  refine AW.sld (pc := 2004) dL_law_2004 g8 ?_
  refine AW.chk (fun g11 => ?_)
  refine AW.cV3i (pc := 2005) dL_law_2005 mlL_205 mbX12_who rfl g11 (kct g11 rfl (Nat.le_refl 111)) (fun _ => okR_L (by decide) (by omega) (by omega)) (kX12_who l E 1000 (by decide) 111 (Nat.le_refl 111) false x2 (xs (Int32.toNatClampNeg (x4 + 1))) (xs (Int32.toNatClampNeg (x4 + 2))) (xs (Int32.toNatClampNeg (x4 + 3))) M5) (Nat.le_of_ble_eq_true rfl) (fun v9 M10 => ?_)
  refine AW.istore (pc := 2008) [1, 2, 3, 4, 5, 6, 0] [(0, .ref b), (1, .ref (ad E x1)), (2, .ref (ad E x2)), (3, .ref (ad E x3)), (4, .int x4), (5, .int v4), (6, .int v9)] dL_law_2008 (by decide) rfl ?_
  refine AW.aload_n (pc := 2010) dL_law_2010 rfl 2 rfl ?_
  refine AW.cV0i (pc := 2011) dL_law_2011 mlL_125 mbX12_thrown rfl g11 (kct g11 rfl (Nat.le_refl 111)) (fun _ => okR_L (by decide) (by omega) (by omega)) (kX12_thrown l E 1000 (by decide) 111 (Nat.le_refl 111) false x2 M10) (Nat.le_of_ble_eq_true rfl) (fun v12 M13 => ?_)
  refine AW.iload (pc := 2014) dL_law_2014 5 rfl ?_
  refine AW.icmp_eq (pc := 2016) 2021 dL_law_2016 (by decide) (fun h14 => ?_) (fun h14 => ?_)
  · refine AW.iload (pc := 2021) dL_law_2021 5 rfl ?_
    refine AW.if_ne (pc := 2023) 2038 dL_law_2023 (by decide) (fun h15 => ?_) (fun h15 => ?_)
    · refine AW.aload_n (pc := 2026) dL_law_2026 rfl 3 rfl ?_
      refine AW.iconst (pc := 2027) dL_law_2027 ci_0 ?_
      refine AW.chk (fun g16 => ?_)
      refine AW.lald (pc := 2028) dL_law_2028 (k0e g16.1) (kct (k0e g16.1) rfl (Nat.le_refl 111)) g16.2 ?_
      refine AW.iload (pc := 2029) dL_law_2029 6 rfl ?_
      refine AW.i2l (pc := 2031) dL_law_2031 ?_
      refine AW.lcmp (pc := 2032) dL_law_2032 ?_
      refine AW.if_eq (pc := 2033) 2038 dL_law_2033 (by decide) (fun h17 => ?_) (fun h17 => ?_)
      · exact AW.sub [0, 1, 2, 3, 4] rfl (kL_law_B2038 l E hst Z hZ b L xs (ce + 1) (sl + 6) (by omega) (by omega) KK23 hKK23 x1 x2 x3 x4 M13)
      · refine AW.iconst (pc := 2036) dL_law_2036 ci_0 ?_
        exact AW.lend0 (pc := 2037) (by decide)
    · exact AW.sub [0, 1, 2, 3, 4] rfl (kL_law_B2038 l E hst Z hZ b L xs (ce + 1) (sl + 6) (by omega) (by omega) KK23 hKK23 x1 x2 x3 x4 M13)
  · refine AW.iconst (pc := 2019) dL_law_2019 ci_0 ?_
    exact AW.lend0 (pc := 2020) (by decide)
set_option maxRecDepth 20000 in
set_option maxHeartbeats 4000000 in
theorem kL_law_B1958 (l : Launch) (E : Ev) (hst : l.stackTraces = false) (Z : List Frame → Array Value → State → State → Prop) (hZ : LEnd l Z) (b L : Nat) (xs : Nat → Int32) (ce sl : Nat) (hce : ce ≤ 601024) (hsl : sl ≤ 7293034) (KK23 : Nat → Nat → Nat → Int32 → Mem → Option (Int32 × Mem)) (hKK23 : ∀ (x1 : Nat) (x2 : Nat) (x3 : Nat) (x4 : Int32) (M : Mem), AW l E fL_law (fun _ => room_1) (PQL Z E b L xs) 111 false ce sl 23 [(0, .ref b), (1, .ref (ad E x1)), (2, .ref (ad E x2)), (3, .ref (ad E x3)), (4, .int x4)] [] M (KK23 x1 x2 x3 x4 M)) (x1 : Nat) (x2 : Nat) (x3 : Nat) (x4 : Int32) (M : Mem) : AW l E fL_law (fun _ => room_1) (PQL Z E b L xs) 111 false ce sl 1958 [(0, .ref b), (1, .ref (ad E x1)), (2, .ref (ad E x2)), (3, .ref (ad E x3)), (4, .int x4)] [] M (zL_law_B1958 L xs KK23 x1 x2 x3 x4 M) := by
  unfold zL_law_B1958
  refine AW.goto (pc := 1958) 2480 dL_law_1958 (by decide) ?_
  exact (kL_law_B2480 l E hst Z hZ b L xs ce sl (by omega) (by omega) KK23 hKK23 x1 x2 x3 x4 M)
set_option maxRecDepth 20000 in
set_option maxHeartbeats 4000000 in
theorem kL_law_B1881 (l : Launch) (E : Ev) (hst : l.stackTraces = false) (Z : List Frame → Array Value → State → State → Prop) (hZ : LEnd l Z) (b L : Nat) (xs : Nat → Int32) (ce sl : Nat) (hce : ce + 1 ≤ 601024) (hsl : sl + 6 ≤ 7293034) (KK23 : Nat → Nat → Nat → Int32 → Mem → Option (Int32 × Mem)) (hKK23 : ∀ (x1 : Nat) (x2 : Nat) (x3 : Nat) (x4 : Int32) (M : Mem), AW l E fL_law (fun _ => room_1) (PQL Z E b L xs) 111 false (ce + 1) (sl + 6) 23 [(0, .ref b), (1, .ref (ad E x1)), (2, .ref (ad E x2)), (3, .ref (ad E x3)), (4, .int x4)] [] M (KK23 x1 x2 x3 x4 M)) (x1 : Nat) (x2 : Nat) (x3 : Nat) (x4 : Int32) (M : Mem) : AW l E fL_law (fun _ => room_1) (PQL Z E b L xs) 111 false ce sl 1881 [(0, .ref b), (1, .ref (ad E x1)), (2, .ref (ad E x2)), (3, .ref (ad E x3)), (4, .int x4)] [] M (zL_law_B1881 L xs KK23 x1 x2 x3 x4 M) := by
  unfold zL_law_B1881
  refine AW.aload_n (pc := 1881) dL_law_1881 rfl 1 rfl ?_
  refine AW.aload_n (pc := 1882) dL_law_1882 rfl 0 rfl ?_
  refine AW.iload (pc := 1883) dL_law_1883 4 rfl ?_
  refine AW.iconst (pc := 1885) dL_law_1885 ci_1 ?_
  refine AW.iadd (pc := 1886) dL_law_1886 ?_
  refine AW.chk (fun g1 => ?_)
  refine AW.sld (pc := 1887) dL_law_1887 g1 ?_
  refine AW.aload_n (pc := 1888) dL_law_1888 rfl 0 rfl ?_
  refine AW.iload (pc := 1889) dL_law_1889 4 rfl ?_
  refine AW.iconst (pc := 1891) dL_law_1891 ci_2 ?_
  refine AW.iadd (pc := 1892) dL_law_1892 ?_
  refine AW.chk (fun g2 => ?_)
  refine AW.sld (pc := 1893) dL_law_1893 g2 ?_
  refine AW.aload_n (pc := 1894) dL_law_1894 rfl 0 rfl ?_
  refine AW.iload (pc := 1895) dL_law_1895 4 rfl ?_
  refine AW.iconst (pc := 1897) dL_law_1897 ci_3 ?_
  refine AW.iadd (pc := 1898) dL_law_1898 ?_
  refine AW.chk (fun g3 => ?_)
  refine AW.sld (pc := 1899) dL_law_1899 g3 ?_
  refine AW.aload_n (pc := 1900) dL_law_1900 rfl 3 rfl ?_
  refine AW.callW [.ref (ad E x1), .int (xs (Int32.toNatClampNeg (x4 + 1))), .int (xs (Int32.toNatClampNeg (x4 + 2))), .int (xs (Int32.toNatClampNeg (x4 + 3))), .ref (ad E x3)] [] (pc := 1901) dL_law_1901 mlL_200 mwL_given rfl rfl (fun _ => okR_L (by decide) (by omega) (by omega)) (kL_given l E hst 1000 (by decide) 111 (Nat.le_refl 111) x1 (xs (Int32.toNatClampNeg (x4 + 1))) (xs (Int32.toNatClampNeg (x4 + 2))) (xs (Int32.toNatClampNeg (x4 + 3))) x3 M) rfl (Nat.le_of_ble_eq_true rfl) (fun v4 M5 => ?_)
  refine AW.istore (pc := 1904) [1, 2, 3, 4, 5, 0] [(0, .ref b), (1, .ref (ad E x1)), (2, .ref (ad E x2)), (3, .ref (ad E x3)), (4, .int x4), (5, .int v4)] dL_law_1904 (by decide) rfl ?_
  refine AW.aload_n (pc := 1906) dL_law_1906 rfl 2 rfl ?_
  refine AW.aload_n (pc := 1907) dL_law_1907 rfl 0 rfl ?_
  refine AW.iload (pc := 1908) dL_law_1908 4 rfl ?_
  refine AW.iconst (pc := 1910) dL_law_1910 ci_1 ?_
  refine AW.iadd (pc := 1911) dL_law_1911 ?_
  refine AW.chk (fun g6 => ?_)
  refine AW.sld (pc := 1912) dL_law_1912 g6 ?_
  refine AW.aload_n (pc := 1913) dL_law_1913 rfl 0 rfl ?_
  refine AW.iload (pc := 1914) dL_law_1914 4 rfl ?_
  refine AW.iconst (pc := 1916) dL_law_1916 ci_2 ?_
  refine AW.iadd (pc := 1917) dL_law_1917 ?_
  refine AW.chk (fun g7 => ?_)
  refine AW.sld (pc := 1918) dL_law_1918 g7 ?_
  refine AW.aload_n (pc := 1919) dL_law_1919 rfl 0 rfl ?_
  refine AW.iload (pc := 1920) dL_law_1920 4 rfl ?_
  refine AW.iconst (pc := 1922) dL_law_1922 ci_3 ?_
  refine AW.iadd (pc := 1923) dL_law_1923 ?_
  refine AW.chk (fun g8 => ?_)
  refine AW.sld (pc := 1924) dL_law_1924 g8 ?_
  refine AW.chk (fun g11 => ?_)
  refine AW.cV3i (pc := 1925) dL_law_1925 mlL_202 mbX12_given rfl g11 (kct g11 rfl (Nat.le_refl 111)) (fun _ => okR_L (by decide) (by omega) (by omega)) (kX12_given l E 1000 (by decide) 111 (Nat.le_refl 111) false x2 (xs (Int32.toNatClampNeg (x4 + 1))) (xs (Int32.toNatClampNeg (x4 + 2))) (xs (Int32.toNatClampNeg (x4 + 3))) M5) (Nat.le_of_ble_eq_true rfl) (fun v9 M10 => ?_)
  refine AW.istore (pc := 1928) [1, 2, 3, 4, 5, 6, 0] [(0, .ref b), (1, .ref (ad E x1)), (2, .ref (ad E x2)), (3, .ref (ad E x3)), (4, .int x4), (5, .int v4), (6, .int v9)] dL_law_1928 (by decide) rfl ?_
  refine AW.aload_n (pc := 1930) dL_law_1930 rfl 2 rfl ?_
  refine AW.cV0i (pc := 1931) dL_law_1931 mlL_125 mbX12_thrown rfl g11 (kct g11 rfl (Nat.le_refl 111)) (fun _ => okR_L (by decide) (by omega) (by omega)) (kX12_thrown l E 1000 (by decide) 111 (Nat.le_refl 111) false x2 M10) (Nat.le_of_ble_eq_true rfl) (fun v12 M13 => ?_)
  refine AW.iload (pc := 1934) dL_law_1934 5 rfl ?_
  refine AW.icmp_eq (pc := 1936) 1941 dL_law_1936 (by decide) (fun h14 => ?_) (fun h14 => ?_)
  · refine AW.iload (pc := 1941) dL_law_1941 5 rfl ?_
    refine AW.if_ne (pc := 1943) 1958 dL_law_1943 (by decide) (fun h15 => ?_) (fun h15 => ?_)
    · refine AW.aload_n (pc := 1946) dL_law_1946 rfl 3 rfl ?_
      refine AW.iconst (pc := 1947) dL_law_1947 ci_0 ?_
      refine AW.chk (fun g16 => ?_)
      refine AW.lald (pc := 1948) dL_law_1948 (k0e g16.1) (kct (k0e g16.1) rfl (Nat.le_refl 111)) g16.2 ?_
      refine AW.iload (pc := 1949) dL_law_1949 6 rfl ?_
      refine AW.i2l (pc := 1951) dL_law_1951 ?_
      refine AW.lcmp (pc := 1952) dL_law_1952 ?_
      refine AW.if_eq (pc := 1953) 1958 dL_law_1953 (by decide) (fun h17 => ?_) (fun h17 => ?_)
      · exact AW.sub [0, 1, 2, 3, 4] rfl (kL_law_B1958 l E hst Z hZ b L xs (ce + 1) (sl + 6) (by omega) (by omega) KK23 hKK23 x1 x2 x3 x4 M13)
      · refine AW.iconst (pc := 1956) dL_law_1956 ci_0 ?_
        exact AW.lend0 (pc := 1957) (by decide)
    · exact AW.sub [0, 1, 2, 3, 4] rfl (kL_law_B1958 l E hst Z hZ b L xs (ce + 1) (sl + 6) (by omega) (by omega) KK23 hKK23 x1 x2 x3 x4 M13)
  · refine AW.iconst (pc := 1939) dL_law_1939 ci_0 ?_
    exact AW.lend0 (pc := 1940) (by decide)
set_option maxRecDepth 20000 in
set_option maxHeartbeats 4000000 in
theorem kL_law_B1878 (l : Launch) (E : Ev) (hst : l.stackTraces = false) (Z : List Frame → Array Value → State → State → Prop) (hZ : LEnd l Z) (b L : Nat) (xs : Nat → Int32) (ce sl : Nat) (hce : ce ≤ 601024) (hsl : sl ≤ 7293034) (KK23 : Nat → Nat → Nat → Int32 → Mem → Option (Int32 × Mem)) (hKK23 : ∀ (x1 : Nat) (x2 : Nat) (x3 : Nat) (x4 : Int32) (M : Mem), AW l E fL_law (fun _ => room_1) (PQL Z E b L xs) 111 false ce sl 23 [(0, .ref b), (1, .ref (ad E x1)), (2, .ref (ad E x2)), (3, .ref (ad E x3)), (4, .int x4)] [] M (KK23 x1 x2 x3 x4 M)) (x1 : Nat) (x2 : Nat) (x3 : Nat) (x4 : Int32) (M : Mem) : AW l E fL_law (fun _ => room_1) (PQL Z E b L xs) 111 false ce sl 1878 [(0, .ref b), (1, .ref (ad E x1)), (2, .ref (ad E x2)), (3, .ref (ad E x3)), (4, .int x4)] [] M (zL_law_B1878 L xs KK23 x1 x2 x3 x4 M) := by
  unfold zL_law_B1878
  refine AW.goto (pc := 1878) 2480 dL_law_1878 (by decide) ?_
  exact (kL_law_B2480 l E hst Z hZ b L xs ce sl (by omega) (by omega) KK23 hKK23 x1 x2 x3 x4 M)
set_option maxRecDepth 20000 in
set_option maxHeartbeats 4000000 in
theorem kL_law_B1813 (l : Launch) (E : Ev) (hst : l.stackTraces = false) (Z : List Frame → Array Value → State → State → Prop) (hZ : LEnd l Z) (b L : Nat) (xs : Nat → Int32) (ce sl : Nat) (hce : ce + 1 ≤ 601024) (hsl : sl + 6 ≤ 7293034) (KK23 : Nat → Nat → Nat → Int32 → Mem → Option (Int32 × Mem)) (hKK23 : ∀ (x1 : Nat) (x2 : Nat) (x3 : Nat) (x4 : Int32) (M : Mem), AW l E fL_law (fun _ => room_1) (PQL Z E b L xs) 111 false (ce + 1) (sl + 6) 23 [(0, .ref b), (1, .ref (ad E x1)), (2, .ref (ad E x2)), (3, .ref (ad E x3)), (4, .int x4)] [] M (KK23 x1 x2 x3 x4 M)) (x1 : Nat) (x2 : Nat) (x3 : Nat) (x4 : Int32) (M : Mem) : AW l E fL_law (fun _ => room_1) (PQL Z E b L xs) 111 false ce sl 1813 [(0, .ref b), (1, .ref (ad E x1)), (2, .ref (ad E x2)), (3, .ref (ad E x3)), (4, .int x4)] [] M (zL_law_B1813 L xs KK23 x1 x2 x3 x4 M) := by
  unfold zL_law_B1813
  refine AW.aload_n (pc := 1813) dL_law_1813 rfl 1 rfl ?_
  refine AW.aload_n (pc := 1814) dL_law_1814 rfl 0 rfl ?_
  refine AW.iload (pc := 1815) dL_law_1815 4 rfl ?_
  refine AW.iconst (pc := 1817) dL_law_1817 ci_1 ?_
  refine AW.iadd (pc := 1818) dL_law_1818 ?_
  refine AW.chk (fun g1 => ?_)
  refine AW.sld (pc := 1819) dL_law_1819 g1 ?_
  refine AW.aload_n (pc := 1820) dL_law_1820 rfl 0 rfl ?_
  refine AW.iload (pc := 1821) dL_law_1821 4 rfl ?_
  refine AW.iconst (pc := 1823) dL_law_1823 ci_2 ?_
  refine AW.iadd (pc := 1824) dL_law_1824 ?_
  refine AW.chk (fun g2 => ?_)
  refine AW.sld (pc := 1825) dL_law_1825 g2 ?_
  refine AW.aload_n (pc := 1826) dL_law_1826 rfl 3 rfl ?_
  refine AW.callW [.ref (ad E x1), .int (xs (Int32.toNatClampNeg (x4 + 1))), .int (xs (Int32.toNatClampNeg (x4 + 2))), .ref (ad E x3)] [] (pc := 1827) dL_law_1827 mlL_197 mwL_give rfl rfl (fun _ => okR_L (by decide) (by omega) (by omega)) (kL_give l E hst 1000 (by decide) 111 (Nat.le_refl 111) x1 (xs (Int32.toNatClampNeg (x4 + 1))) (xs (Int32.toNatClampNeg (x4 + 2))) x3 M) rfl (Nat.le_of_ble_eq_true rfl) (fun v3 M4 => ?_)
  refine AW.istore (pc := 1830) [1, 2, 3, 4, 5, 0] [(0, .ref b), (1, .ref (ad E x1)), (2, .ref (ad E x2)), (3, .ref (ad E x3)), (4, .int x4), (5, .int v3)] dL_law_1830 (by decide) rfl ?_
  refine AW.aload_n (pc := 1832) dL_law_1832 rfl 2 rfl ?_
  refine AW.aload_n (pc := 1833) dL_law_1833 rfl 0 rfl ?_
  refine AW.iload (pc := 1834) dL_law_1834 4 rfl ?_
  refine AW.iconst (pc := 1836) dL_law_1836 ci_1 ?_
  refine AW.iadd (pc := 1837) dL_law_1837 ?_
  refine AW.chk (fun g5 => ?_)
  refine AW.sld (pc := 1838) dL_law_1838 g5 ?_
  refine AW.aload_n (pc := 1839) dL_law_1839 rfl 0 rfl ?_
  refine AW.iload (pc := 1840) dL_law_1840 4 rfl ?_
  refine AW.iconst (pc := 1842) dL_law_1842 ci_2 ?_
  refine AW.iadd (pc := 1843) dL_law_1843 ?_
  refine AW.chk (fun g6 => ?_)
  refine AW.sld (pc := 1844) dL_law_1844 g6 ?_
  refine AW.chk (fun g9 => ?_)
  refine AW.cV2i (pc := 1845) dL_law_1845 mlL_199 mbX12_give rfl g9 (kct g9 rfl (Nat.le_refl 111)) (fun _ => okR_L (by decide) (by omega) (by omega)) (kX12_give l E 1000 (by decide) 111 (Nat.le_refl 111) false x2 (xs (Int32.toNatClampNeg (x4 + 1))) (xs (Int32.toNatClampNeg (x4 + 2))) M4) (Nat.le_of_ble_eq_true rfl) (fun v7 M8 => ?_)
  refine AW.istore (pc := 1848) [1, 2, 3, 4, 5, 6, 0] [(0, .ref b), (1, .ref (ad E x1)), (2, .ref (ad E x2)), (3, .ref (ad E x3)), (4, .int x4), (5, .int v3), (6, .int v7)] dL_law_1848 (by decide) rfl ?_
  refine AW.aload_n (pc := 1850) dL_law_1850 rfl 2 rfl ?_
  refine AW.cV0i (pc := 1851) dL_law_1851 mlL_125 mbX12_thrown rfl g9 (kct g9 rfl (Nat.le_refl 111)) (fun _ => okR_L (by decide) (by omega) (by omega)) (kX12_thrown l E 1000 (by decide) 111 (Nat.le_refl 111) false x2 M8) (Nat.le_of_ble_eq_true rfl) (fun v10 M11 => ?_)
  refine AW.iload (pc := 1854) dL_law_1854 5 rfl ?_
  refine AW.icmp_eq (pc := 1856) 1861 dL_law_1856 (by decide) (fun h12 => ?_) (fun h12 => ?_)
  · refine AW.iload (pc := 1861) dL_law_1861 5 rfl ?_
    refine AW.if_ne (pc := 1863) 1878 dL_law_1863 (by decide) (fun h13 => ?_) (fun h13 => ?_)
    · refine AW.aload_n (pc := 1866) dL_law_1866 rfl 3 rfl ?_
      refine AW.iconst (pc := 1867) dL_law_1867 ci_0 ?_
      refine AW.chk (fun g14 => ?_)
      refine AW.lald (pc := 1868) dL_law_1868 (k0e g14.1) (kct (k0e g14.1) rfl (Nat.le_refl 111)) g14.2 ?_
      refine AW.iload (pc := 1869) dL_law_1869 6 rfl ?_
      refine AW.i2l (pc := 1871) dL_law_1871 ?_
      refine AW.lcmp (pc := 1872) dL_law_1872 ?_
      refine AW.if_eq (pc := 1873) 1878 dL_law_1873 (by decide) (fun h15 => ?_) (fun h15 => ?_)
      · exact AW.sub [0, 1, 2, 3, 4] rfl (kL_law_B1878 l E hst Z hZ b L xs (ce + 1) (sl + 6) (by omega) (by omega) KK23 hKK23 x1 x2 x3 x4 M11)
      · refine AW.iconst (pc := 1876) dL_law_1876 ci_0 ?_
        exact AW.lend0 (pc := 1877) (by decide)
    · exact AW.sub [0, 1, 2, 3, 4] rfl (kL_law_B1878 l E hst Z hZ b L xs (ce + 1) (sl + 6) (by omega) (by omega) KK23 hKK23 x1 x2 x3 x4 M11)
  · refine AW.iconst (pc := 1859) dL_law_1859 ci_0 ?_
    exact AW.lend0 (pc := 1860) (by decide)
set_option maxRecDepth 20000 in
set_option maxHeartbeats 4000000 in
theorem kL_law_B1810 (l : Launch) (E : Ev) (hst : l.stackTraces = false) (Z : List Frame → Array Value → State → State → Prop) (hZ : LEnd l Z) (b L : Nat) (xs : Nat → Int32) (ce sl : Nat) (hce : ce ≤ 601024) (hsl : sl ≤ 7293034) (KK23 : Nat → Nat → Nat → Int32 → Mem → Option (Int32 × Mem)) (hKK23 : ∀ (x1 : Nat) (x2 : Nat) (x3 : Nat) (x4 : Int32) (M : Mem), AW l E fL_law (fun _ => room_1) (PQL Z E b L xs) 111 false ce sl 23 [(0, .ref b), (1, .ref (ad E x1)), (2, .ref (ad E x2)), (3, .ref (ad E x3)), (4, .int x4)] [] M (KK23 x1 x2 x3 x4 M)) (x1 : Nat) (x2 : Nat) (x3 : Nat) (x4 : Int32) (M : Mem) : AW l E fL_law (fun _ => room_1) (PQL Z E b L xs) 111 false ce sl 1810 [(0, .ref b), (1, .ref (ad E x1)), (2, .ref (ad E x2)), (3, .ref (ad E x3)), (4, .int x4)] [] M (zL_law_B1810 L xs KK23 x1 x2 x3 x4 M) := by
  unfold zL_law_B1810
  refine AW.goto (pc := 1810) 2480 dL_law_1810 (by decide) ?_
  exact (kL_law_B2480 l E hst Z hZ b L xs ce sl (by omega) (by omega) KK23 hKK23 x1 x2 x3 x4 M)
set_option maxRecDepth 20000 in
set_option maxHeartbeats 4000000 in
theorem kL_law_B1745 (l : Launch) (E : Ev) (hst : l.stackTraces = false) (Z : List Frame → Array Value → State → State → Prop) (hZ : LEnd l Z) (b L : Nat) (xs : Nat → Int32) (ce sl : Nat) (hce : ce + 1 ≤ 601024) (hsl : sl + 6 ≤ 7293034) (KK23 : Nat → Nat → Nat → Int32 → Mem → Option (Int32 × Mem)) (hKK23 : ∀ (x1 : Nat) (x2 : Nat) (x3 : Nat) (x4 : Int32) (M : Mem), AW l E fL_law (fun _ => room_1) (PQL Z E b L xs) 111 false (ce + 1) (sl + 6) 23 [(0, .ref b), (1, .ref (ad E x1)), (2, .ref (ad E x2)), (3, .ref (ad E x3)), (4, .int x4)] [] M (KK23 x1 x2 x3 x4 M)) (x1 : Nat) (x2 : Nat) (x3 : Nat) (x4 : Int32) (M : Mem) : AW l E fL_law (fun _ => room_1) (PQL Z E b L xs) 111 false ce sl 1745 [(0, .ref b), (1, .ref (ad E x1)), (2, .ref (ad E x2)), (3, .ref (ad E x3)), (4, .int x4)] [] M (zL_law_B1745 L xs KK23 x1 x2 x3 x4 M) := by
  unfold zL_law_B1745
  refine AW.aload_n (pc := 1745) dL_law_1745 rfl 1 rfl ?_
  refine AW.aload_n (pc := 1746) dL_law_1746 rfl 0 rfl ?_
  refine AW.iload (pc := 1747) dL_law_1747 4 rfl ?_
  refine AW.iconst (pc := 1749) dL_law_1749 ci_1 ?_
  refine AW.iadd (pc := 1750) dL_law_1750 ?_
  refine AW.chk (fun g1 => ?_)
  refine AW.sld (pc := 1751) dL_law_1751 g1 ?_
  refine AW.aload_n (pc := 1752) dL_law_1752 rfl 0 rfl ?_
  refine AW.iload (pc := 1753) dL_law_1753 4 rfl ?_
  refine AW.iconst (pc := 1755) dL_law_1755 ci_2 ?_
  refine AW.iadd (pc := 1756) dL_law_1756 ?_
  refine AW.chk (fun g2 => ?_)
  refine AW.sld (pc := 1757) dL_law_1757 g2 ?_
  refine AW.aload_n (pc := 1758) dL_law_1758 rfl 3 rfl ?_
  refine AW.callW [.ref (ad E x1), .int (xs (Int32.toNatClampNeg (x4 + 1))), .int (xs (Int32.toNatClampNeg (x4 + 2))), .ref (ad E x3)] [] (pc := 1759) dL_law_1759 mlL_194 mwL_near rfl rfl (fun _ => okR_L (by decide) (by omega) (by omega)) (kL_near l E hst 1000 (by decide) 111 (Nat.le_refl 111) x1 (xs (Int32.toNatClampNeg (x4 + 1))) (xs (Int32.toNatClampNeg (x4 + 2))) x3 M) rfl (Nat.le_of_ble_eq_true rfl) (fun v3 M4 => ?_)
  refine AW.istore (pc := 1762) [1, 2, 3, 4, 5, 0] [(0, .ref b), (1, .ref (ad E x1)), (2, .ref (ad E x2)), (3, .ref (ad E x3)), (4, .int x4), (5, .int v3)] dL_law_1762 (by decide) rfl ?_
  refine AW.aload_n (pc := 1764) dL_law_1764 rfl 2 rfl ?_
  refine AW.aload_n (pc := 1765) dL_law_1765 rfl 0 rfl ?_
  refine AW.iload (pc := 1766) dL_law_1766 4 rfl ?_
  refine AW.iconst (pc := 1768) dL_law_1768 ci_1 ?_
  refine AW.iadd (pc := 1769) dL_law_1769 ?_
  refine AW.chk (fun g5 => ?_)
  refine AW.sld (pc := 1770) dL_law_1770 g5 ?_
  refine AW.aload_n (pc := 1771) dL_law_1771 rfl 0 rfl ?_
  refine AW.iload (pc := 1772) dL_law_1772 4 rfl ?_
  refine AW.iconst (pc := 1774) dL_law_1774 ci_2 ?_
  refine AW.iadd (pc := 1775) dL_law_1775 ?_
  refine AW.chk (fun g6 => ?_)
  refine AW.sld (pc := 1776) dL_law_1776 g6 ?_
  refine AW.chk (fun g9 => ?_)
  refine AW.cV2i (pc := 1777) dL_law_1777 mlL_196 mbX12_near rfl g9 (kct g9 rfl (Nat.le_refl 111)) (fun _ => okR_L (by decide) (by omega) (by omega)) (kX12_near l E 1000 (by decide) 111 (Nat.le_refl 111) false x2 (xs (Int32.toNatClampNeg (x4 + 1))) (xs (Int32.toNatClampNeg (x4 + 2))) M4) (Nat.le_of_ble_eq_true rfl) (fun v7 M8 => ?_)
  refine AW.istore (pc := 1780) [1, 2, 3, 4, 5, 6, 0] [(0, .ref b), (1, .ref (ad E x1)), (2, .ref (ad E x2)), (3, .ref (ad E x3)), (4, .int x4), (5, .int v3), (6, .int v7)] dL_law_1780 (by decide) rfl ?_
  refine AW.aload_n (pc := 1782) dL_law_1782 rfl 2 rfl ?_
  refine AW.cV0i (pc := 1783) dL_law_1783 mlL_125 mbX12_thrown rfl g9 (kct g9 rfl (Nat.le_refl 111)) (fun _ => okR_L (by decide) (by omega) (by omega)) (kX12_thrown l E 1000 (by decide) 111 (Nat.le_refl 111) false x2 M8) (Nat.le_of_ble_eq_true rfl) (fun v10 M11 => ?_)
  refine AW.iload (pc := 1786) dL_law_1786 5 rfl ?_
  refine AW.icmp_eq (pc := 1788) 1793 dL_law_1788 (by decide) (fun h12 => ?_) (fun h12 => ?_)
  · refine AW.iload (pc := 1793) dL_law_1793 5 rfl ?_
    refine AW.if_ne (pc := 1795) 1810 dL_law_1795 (by decide) (fun h13 => ?_) (fun h13 => ?_)
    · refine AW.aload_n (pc := 1798) dL_law_1798 rfl 3 rfl ?_
      refine AW.iconst (pc := 1799) dL_law_1799 ci_0 ?_
      refine AW.chk (fun g14 => ?_)
      refine AW.lald (pc := 1800) dL_law_1800 (k0e g14.1) (kct (k0e g14.1) rfl (Nat.le_refl 111)) g14.2 ?_
      refine AW.iload (pc := 1801) dL_law_1801 6 rfl ?_
      refine AW.i2l (pc := 1803) dL_law_1803 ?_
      refine AW.lcmp (pc := 1804) dL_law_1804 ?_
      refine AW.if_eq (pc := 1805) 1810 dL_law_1805 (by decide) (fun h15 => ?_) (fun h15 => ?_)
      · exact AW.sub [0, 1, 2, 3, 4] rfl (kL_law_B1810 l E hst Z hZ b L xs (ce + 1) (sl + 6) (by omega) (by omega) KK23 hKK23 x1 x2 x3 x4 M11)
      · refine AW.iconst (pc := 1808) dL_law_1808 ci_0 ?_
        exact AW.lend0 (pc := 1809) (by decide)
    · exact AW.sub [0, 1, 2, 3, 4] rfl (kL_law_B1810 l E hst Z hZ b L xs (ce + 1) (sl + 6) (by omega) (by omega) KK23 hKK23 x1 x2 x3 x4 M11)
  · refine AW.iconst (pc := 1791) dL_law_1791 ci_0 ?_
    exact AW.lend0 (pc := 1792) (by decide)
set_option maxRecDepth 20000 in
set_option maxHeartbeats 4000000 in
theorem kL_law_B1742 (l : Launch) (E : Ev) (hst : l.stackTraces = false) (Z : List Frame → Array Value → State → State → Prop) (hZ : LEnd l Z) (b L : Nat) (xs : Nat → Int32) (ce sl : Nat) (hce : ce ≤ 601024) (hsl : sl ≤ 7293034) (KK23 : Nat → Nat → Nat → Int32 → Mem → Option (Int32 × Mem)) (hKK23 : ∀ (x1 : Nat) (x2 : Nat) (x3 : Nat) (x4 : Int32) (M : Mem), AW l E fL_law (fun _ => room_1) (PQL Z E b L xs) 111 false ce sl 23 [(0, .ref b), (1, .ref (ad E x1)), (2, .ref (ad E x2)), (3, .ref (ad E x3)), (4, .int x4)] [] M (KK23 x1 x2 x3 x4 M)) (x1 : Nat) (x2 : Nat) (x3 : Nat) (x4 : Int32) (M : Mem) : AW l E fL_law (fun _ => room_1) (PQL Z E b L xs) 111 false ce sl 1742 [(0, .ref b), (1, .ref (ad E x1)), (2, .ref (ad E x2)), (3, .ref (ad E x3)), (4, .int x4)] [] M (zL_law_B1742 L xs KK23 x1 x2 x3 x4 M) := by
  unfold zL_law_B1742
  refine AW.goto (pc := 1742) 2480 dL_law_1742 (by decide) ?_
  exact (kL_law_B2480 l E hst Z hZ b L xs ce sl (by omega) (by omega) KK23 hKK23 x1 x2 x3 x4 M)
set_option maxRecDepth 20000 in
set_option maxHeartbeats 4000000 in
theorem kL_law_B1653 (l : Launch) (E : Ev) (hst : l.stackTraces = false) (Z : List Frame → Array Value → State → State → Prop) (hZ : LEnd l Z) (b L : Nat) (xs : Nat → Int32) (ce sl : Nat) (hce : ce + 1 ≤ 601024) (hsl : sl + 6 ≤ 7293034) (KK23 : Nat → Nat → Nat → Int32 → Mem → Option (Int32 × Mem)) (hKK23 : ∀ (x1 : Nat) (x2 : Nat) (x3 : Nat) (x4 : Int32) (M : Mem), AW l E fL_law (fun _ => room_1) (PQL Z E b L xs) 111 false (ce + 1) (sl + 6) 23 [(0, .ref b), (1, .ref (ad E x1)), (2, .ref (ad E x2)), (3, .ref (ad E x3)), (4, .int x4)] [] M (KK23 x1 x2 x3 x4 M)) (x1 : Nat) (x2 : Nat) (x3 : Nat) (x4 : Int32) (M : Mem) : AW l E fL_law (fun _ => room_1) (PQL Z E b L xs) 111 false ce sl 1653 [(0, .ref b), (1, .ref (ad E x1)), (2, .ref (ad E x2)), (3, .ref (ad E x3)), (4, .int x4)] [] M (zL_law_B1653 L xs KK23 x1 x2 x3 x4 M) := by
  unfold zL_law_B1653
  refine AW.aload_n (pc := 1653) dL_law_1653 rfl 1 rfl ?_
  refine AW.aload_n (pc := 1654) dL_law_1654 rfl 0 rfl ?_
  refine AW.iload (pc := 1655) dL_law_1655 4 rfl ?_
  refine AW.iconst (pc := 1657) dL_law_1657 ci_1 ?_
  refine AW.iadd (pc := 1658) dL_law_1658 ?_
  refine AW.chk (fun g1 => ?_)
  refine AW.sld (pc := 1659) dL_law_1659 g1 ?_
  refine AW.aload_n (pc := 1660) dL_law_1660 rfl 0 rfl ?_
  refine AW.iload (pc := 1661) dL_law_1661 4 rfl ?_
  refine AW.iconst (pc := 1663) dL_law_1663 ci_2 ?_
  refine AW.iadd (pc := 1664) dL_law_1664 ?_
  refine AW.chk (fun g2 => ?_)
  refine AW.sld (pc := 1665) dL_law_1665 g2 ?_
  refine AW.aload_n (pc := 1666) dL_law_1666 rfl 0 rfl ?_
  refine AW.iload (pc := 1667) dL_law_1667 4 rfl ?_
  refine AW.iconst (pc := 1669) dL_law_1669 ci_3 ?_
  refine AW.iadd (pc := 1670) dL_law_1670 ?_
  refine AW.chk (fun g3 => ?_)
  refine AW.sld (pc := 1671) dL_law_1671 g3 ?_
  refine AW.aload_n (pc := 1672) dL_law_1672 rfl 0 rfl ?_
  refine AW.iload (pc := 1673) dL_law_1673 4 rfl ?_
  refine AW.iconst (pc := 1675) dL_law_1675 ci_4 ?_
  refine AW.iadd (pc := 1676) dL_law_1676 ?_
  refine AW.chk (fun g4 => ?_)
  refine AW.sld (pc := 1677) dL_law_1677 g4 ?_
  refine AW.aload_n (pc := 1678) dL_law_1678 rfl 3 rfl ?_
  refine AW.callW [.ref (ad E x1), .int (xs (Int32.toNatClampNeg (x4 + 1))), .int (xs (Int32.toNatClampNeg (x4 + 2))), .int (xs (Int32.toNatClampNeg (x4 + 3))), .int (xs (Int32.toNatClampNeg (x4 + 4))), .ref (ad E x3)] [] (pc := 1679) dL_law_1679 mlL_191 mwL_mixed rfl rfl (fun _ => okR_L (by decide) (by omega) (by omega)) (kL_mixed l E hst 1000 (by decide) 111 (Nat.le_refl 111) x1 (xs (Int32.toNatClampNeg (x4 + 1))) (xs (Int32.toNatClampNeg (x4 + 2))) (xs (Int32.toNatClampNeg (x4 + 3))) (xs (Int32.toNatClampNeg (x4 + 4))) x3 M) rfl (Nat.le_of_ble_eq_true rfl) (fun v5 M6 => ?_)
  refine AW.istore (pc := 1682) [1, 2, 3, 4, 5, 0] [(0, .ref b), (1, .ref (ad E x1)), (2, .ref (ad E x2)), (3, .ref (ad E x3)), (4, .int x4), (5, .int v5)] dL_law_1682 (by decide) rfl ?_
  refine AW.aload_n (pc := 1684) dL_law_1684 rfl 2 rfl ?_
  refine AW.aload_n (pc := 1685) dL_law_1685 rfl 0 rfl ?_
  refine AW.iload (pc := 1686) dL_law_1686 4 rfl ?_
  refine AW.iconst (pc := 1688) dL_law_1688 ci_1 ?_
  refine AW.iadd (pc := 1689) dL_law_1689 ?_
  refine AW.chk (fun g7 => ?_)
  refine AW.sld (pc := 1690) dL_law_1690 g7 ?_
  refine AW.aload_n (pc := 1691) dL_law_1691 rfl 0 rfl ?_
  refine AW.iload (pc := 1692) dL_law_1692 4 rfl ?_
  refine AW.iconst (pc := 1694) dL_law_1694 ci_2 ?_
  refine AW.iadd (pc := 1695) dL_law_1695 ?_
  refine AW.chk (fun g8 => ?_)
  refine AW.sld (pc := 1696) dL_law_1696 g8 ?_
  refine AW.aload_n (pc := 1697) dL_law_1697 rfl 0 rfl ?_
  refine AW.iload (pc := 1698) dL_law_1698 4 rfl ?_
  refine AW.iconst (pc := 1700) dL_law_1700 ci_3 ?_
  refine AW.iadd (pc := 1701) dL_law_1701 ?_
  refine AW.chk (fun g9 => ?_)
  refine AW.sld (pc := 1702) dL_law_1702 g9 ?_
  refine AW.aload_n (pc := 1703) dL_law_1703 rfl 0 rfl ?_
  refine AW.iload (pc := 1704) dL_law_1704 4 rfl ?_
  refine AW.iconst (pc := 1706) dL_law_1706 ci_4 ?_
  refine AW.iadd (pc := 1707) dL_law_1707 ?_
  refine AW.chk (fun g10 => ?_)
  refine AW.sld (pc := 1708) dL_law_1708 g10 ?_
  refine AW.chk (fun g13 => ?_)
  refine AW.cV4i (pc := 1709) dL_law_1709 mlL_193 mbX12_mixed rfl g13 (kct g13 rfl (Nat.le_refl 111)) (fun _ => okR_L (by decide) (by omega) (by omega)) (kX12_mixed l E 1000 (by decide) 111 (Nat.le_refl 111) false x2 (xs (Int32.toNatClampNeg (x4 + 1))) (xs (Int32.toNatClampNeg (x4 + 2))) (xs (Int32.toNatClampNeg (x4 + 3))) (xs (Int32.toNatClampNeg (x4 + 4))) M6) (Nat.le_of_ble_eq_true rfl) (fun v11 M12 => ?_)
  refine AW.istore (pc := 1712) [1, 2, 3, 4, 5, 6, 0] [(0, .ref b), (1, .ref (ad E x1)), (2, .ref (ad E x2)), (3, .ref (ad E x3)), (4, .int x4), (5, .int v5), (6, .int v11)] dL_law_1712 (by decide) rfl ?_
  refine AW.aload_n (pc := 1714) dL_law_1714 rfl 2 rfl ?_
  refine AW.cV0i (pc := 1715) dL_law_1715 mlL_125 mbX12_thrown rfl g13 (kct g13 rfl (Nat.le_refl 111)) (fun _ => okR_L (by decide) (by omega) (by omega)) (kX12_thrown l E 1000 (by decide) 111 (Nat.le_refl 111) false x2 M12) (Nat.le_of_ble_eq_true rfl) (fun v14 M15 => ?_)
  refine AW.iload (pc := 1718) dL_law_1718 5 rfl ?_
  refine AW.icmp_eq (pc := 1720) 1725 dL_law_1720 (by decide) (fun h16 => ?_) (fun h16 => ?_)
  · refine AW.iload (pc := 1725) dL_law_1725 5 rfl ?_
    refine AW.if_ne (pc := 1727) 1742 dL_law_1727 (by decide) (fun h17 => ?_) (fun h17 => ?_)
    · refine AW.aload_n (pc := 1730) dL_law_1730 rfl 3 rfl ?_
      refine AW.iconst (pc := 1731) dL_law_1731 ci_0 ?_
      refine AW.chk (fun g18 => ?_)
      refine AW.lald (pc := 1732) dL_law_1732 (k0e g18.1) (kct (k0e g18.1) rfl (Nat.le_refl 111)) g18.2 ?_
      refine AW.iload (pc := 1733) dL_law_1733 6 rfl ?_
      refine AW.i2l (pc := 1735) dL_law_1735 ?_
      refine AW.lcmp (pc := 1736) dL_law_1736 ?_
      refine AW.if_eq (pc := 1737) 1742 dL_law_1737 (by decide) (fun h19 => ?_) (fun h19 => ?_)
      · exact AW.sub [0, 1, 2, 3, 4] rfl (kL_law_B1742 l E hst Z hZ b L xs (ce + 1) (sl + 6) (by omega) (by omega) KK23 hKK23 x1 x2 x3 x4 M15)
      · refine AW.iconst (pc := 1740) dL_law_1740 ci_0 ?_
        exact AW.lend0 (pc := 1741) (by decide)
    · exact AW.sub [0, 1, 2, 3, 4] rfl (kL_law_B1742 l E hst Z hZ b L xs (ce + 1) (sl + 6) (by omega) (by omega) KK23 hKK23 x1 x2 x3 x4 M15)
  · refine AW.iconst (pc := 1723) dL_law_1723 ci_0 ?_
    exact AW.lend0 (pc := 1724) (by decide)
set_option maxRecDepth 20000 in
set_option maxHeartbeats 4000000 in
theorem kL_law_B1650 (l : Launch) (E : Ev) (hst : l.stackTraces = false) (Z : List Frame → Array Value → State → State → Prop) (hZ : LEnd l Z) (b L : Nat) (xs : Nat → Int32) (ce sl : Nat) (hce : ce ≤ 601024) (hsl : sl ≤ 7293034) (KK23 : Nat → Nat → Nat → Int32 → Mem → Option (Int32 × Mem)) (hKK23 : ∀ (x1 : Nat) (x2 : Nat) (x3 : Nat) (x4 : Int32) (M : Mem), AW l E fL_law (fun _ => room_1) (PQL Z E b L xs) 111 false ce sl 23 [(0, .ref b), (1, .ref (ad E x1)), (2, .ref (ad E x2)), (3, .ref (ad E x3)), (4, .int x4)] [] M (KK23 x1 x2 x3 x4 M)) (x1 : Nat) (x2 : Nat) (x3 : Nat) (x4 : Int32) (M : Mem) : AW l E fL_law (fun _ => room_1) (PQL Z E b L xs) 111 false ce sl 1650 [(0, .ref b), (1, .ref (ad E x1)), (2, .ref (ad E x2)), (3, .ref (ad E x3)), (4, .int x4)] [] M (zL_law_B1650 L xs KK23 x1 x2 x3 x4 M) := by
  unfold zL_law_B1650
  refine AW.goto (pc := 1650) 2480 dL_law_1650 (by decide) ?_
  exact (kL_law_B2480 l E hst Z hZ b L xs ce sl (by omega) (by omega) KK23 hKK23 x1 x2 x3 x4 M)
set_option maxRecDepth 20000 in
set_option maxHeartbeats 4000000 in
theorem kL_law_B1597 (l : Launch) (E : Ev) (hst : l.stackTraces = false) (Z : List Frame → Array Value → State → State → Prop) (hZ : LEnd l Z) (b L : Nat) (xs : Nat → Int32) (ce sl : Nat) (hce : ce + 1 ≤ 601024) (hsl : sl + 6 ≤ 7293034) (KK23 : Nat → Nat → Nat → Int32 → Mem → Option (Int32 × Mem)) (hKK23 : ∀ (x1 : Nat) (x2 : Nat) (x3 : Nat) (x4 : Int32) (M : Mem), AW l E fL_law (fun _ => room_1) (PQL Z E b L xs) 111 false (ce + 1) (sl + 6) 23 [(0, .ref b), (1, .ref (ad E x1)), (2, .ref (ad E x2)), (3, .ref (ad E x3)), (4, .int x4)] [] M (KK23 x1 x2 x3 x4 M)) (x1 : Nat) (x2 : Nat) (x3 : Nat) (x4 : Int32) (M : Mem) : AW l E fL_law (fun _ => room_1) (PQL Z E b L xs) 111 false ce sl 1597 [(0, .ref b), (1, .ref (ad E x1)), (2, .ref (ad E x2)), (3, .ref (ad E x3)), (4, .int x4)] [] M (zL_law_B1597 L xs KK23 x1 x2 x3 x4 M) := by
  unfold zL_law_B1597
  refine AW.aload_n (pc := 1597) dL_law_1597 rfl 1 rfl ?_
  refine AW.aload_n (pc := 1598) dL_law_1598 rfl 0 rfl ?_
  refine AW.iload (pc := 1599) dL_law_1599 4 rfl ?_
  refine AW.iconst (pc := 1601) dL_law_1601 ci_1 ?_
  refine AW.iadd (pc := 1602) dL_law_1602 ?_
  refine AW.chk (fun g1 => ?_)
  refine AW.sld (pc := 1603) dL_law_1603 g1 ?_
  refine AW.aload_n (pc := 1604) dL_law_1604 rfl 3 rfl ?_
  refine AW.callW [.ref (ad E x1), .int (xs (Int32.toNatClampNeg (x4 + 1))), .ref (ad E x3)] [] (pc := 1605) dL_law_1605 mlL_188 mwL_priced rfl rfl (fun _ => okR_L (by decide) (by omega) (by omega)) (kL_priced l E hst 1000 (by decide) 111 (Nat.le_refl 111) x1 (xs (Int32.toNatClampNeg (x4 + 1))) x3 M) rfl (Nat.le_of_ble_eq_true rfl) (fun v2 M3 => ?_)
  refine AW.istore (pc := 1608) [1, 2, 3, 4, 5, 0] [(0, .ref b), (1, .ref (ad E x1)), (2, .ref (ad E x2)), (3, .ref (ad E x3)), (4, .int x4), (5, .int v2)] dL_law_1608 (by decide) rfl ?_
  refine AW.aload_n (pc := 1610) dL_law_1610 rfl 2 rfl ?_
  refine AW.aload_n (pc := 1611) dL_law_1611 rfl 0 rfl ?_
  refine AW.iload (pc := 1612) dL_law_1612 4 rfl ?_
  refine AW.iconst (pc := 1614) dL_law_1614 ci_1 ?_
  refine AW.iadd (pc := 1615) dL_law_1615 ?_
  refine AW.chk (fun g4 => ?_)
  refine AW.sld (pc := 1616) dL_law_1616 g4 ?_
  refine AW.chk (fun g7 => ?_)
  refine AW.cV1i (pc := 1617) dL_law_1617 mlL_190 mbX12_priced rfl g7 (kct g7 rfl (Nat.le_refl 111)) (fun _ => okR_L (by decide) (by omega) (by omega)) (kX12_priced l E 1000 (by decide) 111 (Nat.le_refl 111) false x2 (xs (Int32.toNatClampNeg (x4 + 1))) M3) (Nat.le_of_ble_eq_true rfl) (fun v5 M6 => ?_)
  refine AW.istore (pc := 1620) [1, 2, 3, 4, 5, 6, 0] [(0, .ref b), (1, .ref (ad E x1)), (2, .ref (ad E x2)), (3, .ref (ad E x3)), (4, .int x4), (5, .int v2), (6, .int v5)] dL_law_1620 (by decide) rfl ?_
  refine AW.aload_n (pc := 1622) dL_law_1622 rfl 2 rfl ?_
  refine AW.cV0i (pc := 1623) dL_law_1623 mlL_125 mbX12_thrown rfl g7 (kct g7 rfl (Nat.le_refl 111)) (fun _ => okR_L (by decide) (by omega) (by omega)) (kX12_thrown l E 1000 (by decide) 111 (Nat.le_refl 111) false x2 M6) (Nat.le_of_ble_eq_true rfl) (fun v8 M9 => ?_)
  refine AW.iload (pc := 1626) dL_law_1626 5 rfl ?_
  refine AW.icmp_eq (pc := 1628) 1633 dL_law_1628 (by decide) (fun h10 => ?_) (fun h10 => ?_)
  · refine AW.iload (pc := 1633) dL_law_1633 5 rfl ?_
    refine AW.if_ne (pc := 1635) 1650 dL_law_1635 (by decide) (fun h11 => ?_) (fun h11 => ?_)
    · refine AW.aload_n (pc := 1638) dL_law_1638 rfl 3 rfl ?_
      refine AW.iconst (pc := 1639) dL_law_1639 ci_0 ?_
      refine AW.chk (fun g12 => ?_)
      refine AW.lald (pc := 1640) dL_law_1640 (k0e g12.1) (kct (k0e g12.1) rfl (Nat.le_refl 111)) g12.2 ?_
      refine AW.iload (pc := 1641) dL_law_1641 6 rfl ?_
      refine AW.i2l (pc := 1643) dL_law_1643 ?_
      refine AW.lcmp (pc := 1644) dL_law_1644 ?_
      refine AW.if_eq (pc := 1645) 1650 dL_law_1645 (by decide) (fun h13 => ?_) (fun h13 => ?_)
      · exact AW.sub [0, 1, 2, 3, 4] rfl (kL_law_B1650 l E hst Z hZ b L xs (ce + 1) (sl + 6) (by omega) (by omega) KK23 hKK23 x1 x2 x3 x4 M9)
      · refine AW.iconst (pc := 1648) dL_law_1648 ci_0 ?_
        exact AW.lend0 (pc := 1649) (by decide)
    · exact AW.sub [0, 1, 2, 3, 4] rfl (kL_law_B1650 l E hst Z hZ b L xs (ce + 1) (sl + 6) (by omega) (by omega) KK23 hKK23 x1 x2 x3 x4 M9)
  · refine AW.iconst (pc := 1631) dL_law_1631 ci_0 ?_
    exact AW.lend0 (pc := 1632) (by decide)
set_option maxRecDepth 20000 in
set_option maxHeartbeats 4000000 in
theorem kL_law_B1594 (l : Launch) (E : Ev) (hst : l.stackTraces = false) (Z : List Frame → Array Value → State → State → Prop) (hZ : LEnd l Z) (b L : Nat) (xs : Nat → Int32) (ce sl : Nat) (hce : ce ≤ 601024) (hsl : sl ≤ 7293034) (KK23 : Nat → Nat → Nat → Int32 → Mem → Option (Int32 × Mem)) (hKK23 : ∀ (x1 : Nat) (x2 : Nat) (x3 : Nat) (x4 : Int32) (M : Mem), AW l E fL_law (fun _ => room_1) (PQL Z E b L xs) 111 false ce sl 23 [(0, .ref b), (1, .ref (ad E x1)), (2, .ref (ad E x2)), (3, .ref (ad E x3)), (4, .int x4)] [] M (KK23 x1 x2 x3 x4 M)) (x1 : Nat) (x2 : Nat) (x3 : Nat) (x4 : Int32) (M : Mem) : AW l E fL_law (fun _ => room_1) (PQL Z E b L xs) 111 false ce sl 1594 [(0, .ref b), (1, .ref (ad E x1)), (2, .ref (ad E x2)), (3, .ref (ad E x3)), (4, .int x4)] [] M (zL_law_B1594 L xs KK23 x1 x2 x3 x4 M) := by
  unfold zL_law_B1594
  refine AW.goto (pc := 1594) 2480 dL_law_1594 (by decide) ?_
  exact (kL_law_B2480 l E hst Z hZ b L xs ce sl (by omega) (by omega) KK23 hKK23 x1 x2 x3 x4 M)
set_option maxRecDepth 20000 in
set_option maxHeartbeats 4000000 in
theorem kL_law_B1517 (l : Launch) (E : Ev) (hst : l.stackTraces = false) (Z : List Frame → Array Value → State → State → Prop) (hZ : LEnd l Z) (b L : Nat) (xs : Nat → Int32) (ce sl : Nat) (hce : ce + 1 ≤ 601024) (hsl : sl + 6 ≤ 7293034) (KK23 : Nat → Nat → Nat → Int32 → Mem → Option (Int32 × Mem)) (hKK23 : ∀ (x1 : Nat) (x2 : Nat) (x3 : Nat) (x4 : Int32) (M : Mem), AW l E fL_law (fun _ => room_1) (PQL Z E b L xs) 111 false (ce + 1) (sl + 6) 23 [(0, .ref b), (1, .ref (ad E x1)), (2, .ref (ad E x2)), (3, .ref (ad E x3)), (4, .int x4)] [] M (KK23 x1 x2 x3 x4 M)) (x1 : Nat) (x2 : Nat) (x3 : Nat) (x4 : Int32) (M : Mem) : AW l E fL_law (fun _ => room_1) (PQL Z E b L xs) 111 false ce sl 1517 [(0, .ref b), (1, .ref (ad E x1)), (2, .ref (ad E x2)), (3, .ref (ad E x3)), (4, .int x4)] [] M (zL_law_B1517 L xs KK23 x1 x2 x3 x4 M) := by
  unfold zL_law_B1517
  refine AW.aload_n (pc := 1517) dL_law_1517 rfl 1 rfl ?_
  refine AW.aload_n (pc := 1518) dL_law_1518 rfl 0 rfl ?_
  refine AW.iload (pc := 1519) dL_law_1519 4 rfl ?_
  refine AW.iconst (pc := 1521) dL_law_1521 ci_1 ?_
  refine AW.iadd (pc := 1522) dL_law_1522 ?_
  refine AW.chk (fun g1 => ?_)
  refine AW.sld (pc := 1523) dL_law_1523 g1 ?_
  refine AW.aload_n (pc := 1524) dL_law_1524 rfl 0 rfl ?_
  refine AW.iload (pc := 1525) dL_law_1525 4 rfl ?_
  refine AW.iconst (pc := 1527) dL_law_1527 ci_2 ?_
  refine AW.iadd (pc := 1528) dL_law_1528 ?_
  refine AW.chk (fun g2 => ?_)
  refine AW.sld (pc := 1529) dL_law_1529 g2 ?_
  refine AW.aload_n (pc := 1530) dL_law_1530 rfl 0 rfl ?_
  refine AW.iload (pc := 1531) dL_law_1531 4 rfl ?_
  refine AW.iconst (pc := 1533) dL_law_1533 ci_3 ?_
  refine AW.iadd (pc := 1534) dL_law_1534 ?_
  refine AW.chk (fun g3 => ?_)
  refine AW.sld (pc := 1535) dL_law_1535 g3 ?_
  refine AW.aload_n (pc := 1536) dL_law_1536 rfl 3 rfl ?_
  refine AW.callW [.ref (ad E x1), .int (xs (Int32.toNatClampNeg (x4 + 1))), .int (xs (Int32.toNatClampNeg (x4 + 2))), .int (xs (Int32.toNatClampNeg (x4 + 3))), .ref (ad E x3)] [] (pc := 1537) dL_law_1537 mlL_185 mwL_price rfl rfl (fun _ => okR_L (by decide) (by omega) (by omega)) (kL_price l E hst 1000 (by decide) 111 (Nat.le_refl 111) x1 (xs (Int32.toNatClampNeg (x4 + 1))) (xs (Int32.toNatClampNeg (x4 + 2))) (xs (Int32.toNatClampNeg (x4 + 3))) x3 M) rfl (Nat.le_of_ble_eq_true rfl) (fun v4 M5 => ?_)
  refine AW.istore (pc := 1540) [1, 2, 3, 4, 5, 0] [(0, .ref b), (1, .ref (ad E x1)), (2, .ref (ad E x2)), (3, .ref (ad E x3)), (4, .int x4), (5, .int v4)] dL_law_1540 (by decide) rfl ?_
  refine AW.aload_n (pc := 1542) dL_law_1542 rfl 2 rfl ?_
  refine AW.aload_n (pc := 1543) dL_law_1543 rfl 0 rfl ?_
  refine AW.iload (pc := 1544) dL_law_1544 4 rfl ?_
  refine AW.iconst (pc := 1546) dL_law_1546 ci_1 ?_
  refine AW.iadd (pc := 1547) dL_law_1547 ?_
  refine AW.chk (fun g6 => ?_)
  refine AW.sld (pc := 1548) dL_law_1548 g6 ?_
  refine AW.aload_n (pc := 1549) dL_law_1549 rfl 0 rfl ?_
  refine AW.iload (pc := 1550) dL_law_1550 4 rfl ?_
  refine AW.iconst (pc := 1552) dL_law_1552 ci_2 ?_
  refine AW.iadd (pc := 1553) dL_law_1553 ?_
  refine AW.chk (fun g7 => ?_)
  refine AW.sld (pc := 1554) dL_law_1554 g7 ?_
  refine AW.aload_n (pc := 1555) dL_law_1555 rfl 0 rfl ?_
  refine AW.iload (pc := 1556) dL_law_1556 4 rfl ?_
  refine AW.iconst (pc := 1558) dL_law_1558 ci_3 ?_
  refine AW.iadd (pc := 1559) dL_law_1559 ?_
  refine AW.chk (fun g8 => ?_)
  refine AW.sld (pc := 1560) dL_law_1560 g8 ?_
  refine AW.chk (fun g11 => ?_)
  refine AW.cV3i (pc := 1561) dL_law_1561 mlL_187 mbX12_price rfl g11 (kct g11 rfl (Nat.le_refl 111)) (fun _ => okR_L (by decide) (by omega) (by omega)) (kX12_price l E 1000 (by decide) 111 (Nat.le_refl 111) false x2 (xs (Int32.toNatClampNeg (x4 + 1))) (xs (Int32.toNatClampNeg (x4 + 2))) (xs (Int32.toNatClampNeg (x4 + 3))) M5) (Nat.le_of_ble_eq_true rfl) (fun v9 M10 => ?_)
  refine AW.istore (pc := 1564) [1, 2, 3, 4, 5, 6, 0] [(0, .ref b), (1, .ref (ad E x1)), (2, .ref (ad E x2)), (3, .ref (ad E x3)), (4, .int x4), (5, .int v4), (6, .int v9)] dL_law_1564 (by decide) rfl ?_
  refine AW.aload_n (pc := 1566) dL_law_1566 rfl 2 rfl ?_
  refine AW.cV0i (pc := 1567) dL_law_1567 mlL_125 mbX12_thrown rfl g11 (kct g11 rfl (Nat.le_refl 111)) (fun _ => okR_L (by decide) (by omega) (by omega)) (kX12_thrown l E 1000 (by decide) 111 (Nat.le_refl 111) false x2 M10) (Nat.le_of_ble_eq_true rfl) (fun v12 M13 => ?_)
  refine AW.iload (pc := 1570) dL_law_1570 5 rfl ?_
  refine AW.icmp_eq (pc := 1572) 1577 dL_law_1572 (by decide) (fun h14 => ?_) (fun h14 => ?_)
  · refine AW.iload (pc := 1577) dL_law_1577 5 rfl ?_
    refine AW.if_ne (pc := 1579) 1594 dL_law_1579 (by decide) (fun h15 => ?_) (fun h15 => ?_)
    · refine AW.aload_n (pc := 1582) dL_law_1582 rfl 3 rfl ?_
      refine AW.iconst (pc := 1583) dL_law_1583 ci_0 ?_
      refine AW.chk (fun g16 => ?_)
      refine AW.lald (pc := 1584) dL_law_1584 (k0e g16.1) (kct (k0e g16.1) rfl (Nat.le_refl 111)) g16.2 ?_
      refine AW.iload (pc := 1585) dL_law_1585 6 rfl ?_
      refine AW.i2l (pc := 1587) dL_law_1587 ?_
      refine AW.lcmp (pc := 1588) dL_law_1588 ?_
      refine AW.if_eq (pc := 1589) 1594 dL_law_1589 (by decide) (fun h17 => ?_) (fun h17 => ?_)
      · exact AW.sub [0, 1, 2, 3, 4] rfl (kL_law_B1594 l E hst Z hZ b L xs (ce + 1) (sl + 6) (by omega) (by omega) KK23 hKK23 x1 x2 x3 x4 M13)
      · refine AW.iconst (pc := 1592) dL_law_1592 ci_0 ?_
        exact AW.lend0 (pc := 1593) (by decide)
    · exact AW.sub [0, 1, 2, 3, 4] rfl (kL_law_B1594 l E hst Z hZ b L xs (ce + 1) (sl + 6) (by omega) (by omega) KK23 hKK23 x1 x2 x3 x4 M13)
  · refine AW.iconst (pc := 1575) dL_law_1575 ci_0 ?_
    exact AW.lend0 (pc := 1576) (by decide)
set_option maxRecDepth 20000 in
set_option maxHeartbeats 4000000 in
theorem kL_law_B1514 (l : Launch) (E : Ev) (hst : l.stackTraces = false) (Z : List Frame → Array Value → State → State → Prop) (hZ : LEnd l Z) (b L : Nat) (xs : Nat → Int32) (ce sl : Nat) (hce : ce ≤ 601024) (hsl : sl ≤ 7293034) (KK23 : Nat → Nat → Nat → Int32 → Mem → Option (Int32 × Mem)) (hKK23 : ∀ (x1 : Nat) (x2 : Nat) (x3 : Nat) (x4 : Int32) (M : Mem), AW l E fL_law (fun _ => room_1) (PQL Z E b L xs) 111 false ce sl 23 [(0, .ref b), (1, .ref (ad E x1)), (2, .ref (ad E x2)), (3, .ref (ad E x3)), (4, .int x4)] [] M (KK23 x1 x2 x3 x4 M)) (x1 : Nat) (x2 : Nat) (x3 : Nat) (x4 : Int32) (M : Mem) : AW l E fL_law (fun _ => room_1) (PQL Z E b L xs) 111 false ce sl 1514 [(0, .ref b), (1, .ref (ad E x1)), (2, .ref (ad E x2)), (3, .ref (ad E x3)), (4, .int x4)] [] M (zL_law_B1514 L xs KK23 x1 x2 x3 x4 M) := by
  unfold zL_law_B1514
  refine AW.goto (pc := 1514) 2480 dL_law_1514 (by decide) ?_
  exact (kL_law_B2480 l E hst Z hZ b L xs ce sl (by omega) (by omega) KK23 hKK23 x1 x2 x3 x4 M)
set_option maxRecDepth 20000 in
set_option maxHeartbeats 4000000 in
theorem kL_law_B1449 (l : Launch) (E : Ev) (hst : l.stackTraces = false) (Z : List Frame → Array Value → State → State → Prop) (hZ : LEnd l Z) (b L : Nat) (xs : Nat → Int32) (ce sl : Nat) (hce : ce + 1 ≤ 601024) (hsl : sl + 6 ≤ 7293034) (KK23 : Nat → Nat → Nat → Int32 → Mem → Option (Int32 × Mem)) (hKK23 : ∀ (x1 : Nat) (x2 : Nat) (x3 : Nat) (x4 : Int32) (M : Mem), AW l E fL_law (fun _ => room_1) (PQL Z E b L xs) 111 false (ce + 1) (sl + 6) 23 [(0, .ref b), (1, .ref (ad E x1)), (2, .ref (ad E x2)), (3, .ref (ad E x3)), (4, .int x4)] [] M (KK23 x1 x2 x3 x4 M)) (x1 : Nat) (x2 : Nat) (x3 : Nat) (x4 : Int32) (M : Mem) : AW l E fL_law (fun _ => room_1) (PQL Z E b L xs) 111 false ce sl 1449 [(0, .ref b), (1, .ref (ad E x1)), (2, .ref (ad E x2)), (3, .ref (ad E x3)), (4, .int x4)] [] M (zL_law_B1449 L xs KK23 x1 x2 x3 x4 M) := by
  unfold zL_law_B1449
  refine AW.aload_n (pc := 1449) dL_law_1449 rfl 1 rfl ?_
  refine AW.aload_n (pc := 1450) dL_law_1450 rfl 0 rfl ?_
  refine AW.iload (pc := 1451) dL_law_1451 4 rfl ?_
  refine AW.iconst (pc := 1453) dL_law_1453 ci_1 ?_
  refine AW.iadd (pc := 1454) dL_law_1454 ?_
  refine AW.chk (fun g1 => ?_)
  refine AW.sld (pc := 1455) dL_law_1455 g1 ?_
  refine AW.aload_n (pc := 1456) dL_law_1456 rfl 0 rfl ?_
  refine AW.iload (pc := 1457) dL_law_1457 4 rfl ?_
  refine AW.iconst (pc := 1459) dL_law_1459 ci_2 ?_
  refine AW.iadd (pc := 1460) dL_law_1460 ?_
  refine AW.chk (fun g2 => ?_)
  refine AW.sld (pc := 1461) dL_law_1461 g2 ?_
  refine AW.aload_n (pc := 1462) dL_law_1462 rfl 3 rfl ?_
  refine AW.callW [.ref (ad E x1), .int (xs (Int32.toNatClampNeg (x4 + 1))), .int (xs (Int32.toNatClampNeg (x4 + 2))), .ref (ad E x3)] [] (pc := 1463) dL_law_1463 mlL_182 mwL_seeded rfl rfl (fun _ => okR_L (by decide) (by omega) (by omega)) (kL_seeded l E hst 1000 (by decide) 111 (Nat.le_refl 111) x1 (xs (Int32.toNatClampNeg (x4 + 1))) (xs (Int32.toNatClampNeg (x4 + 2))) x3 M) rfl (Nat.le_of_ble_eq_true rfl) (fun v3 M4 => ?_)
  refine AW.istore (pc := 1466) [1, 2, 3, 4, 5, 0] [(0, .ref b), (1, .ref (ad E x1)), (2, .ref (ad E x2)), (3, .ref (ad E x3)), (4, .int x4), (5, .int v3)] dL_law_1466 (by decide) rfl ?_
  refine AW.aload_n (pc := 1468) dL_law_1468 rfl 2 rfl ?_
  refine AW.aload_n (pc := 1469) dL_law_1469 rfl 0 rfl ?_
  refine AW.iload (pc := 1470) dL_law_1470 4 rfl ?_
  refine AW.iconst (pc := 1472) dL_law_1472 ci_1 ?_
  refine AW.iadd (pc := 1473) dL_law_1473 ?_
  refine AW.chk (fun g5 => ?_)
  refine AW.sld (pc := 1474) dL_law_1474 g5 ?_
  refine AW.aload_n (pc := 1475) dL_law_1475 rfl 0 rfl ?_
  refine AW.iload (pc := 1476) dL_law_1476 4 rfl ?_
  refine AW.iconst (pc := 1478) dL_law_1478 ci_2 ?_
  refine AW.iadd (pc := 1479) dL_law_1479 ?_
  refine AW.chk (fun g6 => ?_)
  refine AW.sld (pc := 1480) dL_law_1480 g6 ?_
  refine AW.chk (fun g9 => ?_)
  refine AW.cV2i (pc := 1481) dL_law_1481 mlL_184 mbX12_seeded rfl g9 (kct g9 rfl (Nat.le_refl 111)) (fun _ => okR_L (by decide) (by omega) (by omega)) (kX12_seeded l E 1000 (by decide) 111 (Nat.le_refl 111) false x2 (xs (Int32.toNatClampNeg (x4 + 1))) (xs (Int32.toNatClampNeg (x4 + 2))) M4) (Nat.le_of_ble_eq_true rfl) (fun v7 M8 => ?_)
  refine AW.istore (pc := 1484) [1, 2, 3, 4, 5, 6, 0] [(0, .ref b), (1, .ref (ad E x1)), (2, .ref (ad E x2)), (3, .ref (ad E x3)), (4, .int x4), (5, .int v3), (6, .int v7)] dL_law_1484 (by decide) rfl ?_
  refine AW.aload_n (pc := 1486) dL_law_1486 rfl 2 rfl ?_
  refine AW.cV0i (pc := 1487) dL_law_1487 mlL_125 mbX12_thrown rfl g9 (kct g9 rfl (Nat.le_refl 111)) (fun _ => okR_L (by decide) (by omega) (by omega)) (kX12_thrown l E 1000 (by decide) 111 (Nat.le_refl 111) false x2 M8) (Nat.le_of_ble_eq_true rfl) (fun v10 M11 => ?_)
  refine AW.iload (pc := 1490) dL_law_1490 5 rfl ?_
  refine AW.icmp_eq (pc := 1492) 1497 dL_law_1492 (by decide) (fun h12 => ?_) (fun h12 => ?_)
  · refine AW.iload (pc := 1497) dL_law_1497 5 rfl ?_
    refine AW.if_ne (pc := 1499) 1514 dL_law_1499 (by decide) (fun h13 => ?_) (fun h13 => ?_)
    · refine AW.aload_n (pc := 1502) dL_law_1502 rfl 3 rfl ?_
      refine AW.iconst (pc := 1503) dL_law_1503 ci_0 ?_
      refine AW.chk (fun g14 => ?_)
      refine AW.lald (pc := 1504) dL_law_1504 (k0e g14.1) (kct (k0e g14.1) rfl (Nat.le_refl 111)) g14.2 ?_
      refine AW.iload (pc := 1505) dL_law_1505 6 rfl ?_
      refine AW.i2l (pc := 1507) dL_law_1507 ?_
      refine AW.lcmp (pc := 1508) dL_law_1508 ?_
      refine AW.if_eq (pc := 1509) 1514 dL_law_1509 (by decide) (fun h15 => ?_) (fun h15 => ?_)
      · exact AW.sub [0, 1, 2, 3, 4] rfl (kL_law_B1514 l E hst Z hZ b L xs (ce + 1) (sl + 6) (by omega) (by omega) KK23 hKK23 x1 x2 x3 x4 M11)
      · refine AW.iconst (pc := 1512) dL_law_1512 ci_0 ?_
        exact AW.lend0 (pc := 1513) (by decide)
    · exact AW.sub [0, 1, 2, 3, 4] rfl (kL_law_B1514 l E hst Z hZ b L xs (ce + 1) (sl + 6) (by omega) (by omega) KK23 hKK23 x1 x2 x3 x4 M11)
  · refine AW.iconst (pc := 1495) dL_law_1495 ci_0 ?_
    exact AW.lend0 (pc := 1496) (by decide)
set_option maxRecDepth 20000 in
set_option maxHeartbeats 4000000 in
theorem kL_law_B1446 (l : Launch) (E : Ev) (hst : l.stackTraces = false) (Z : List Frame → Array Value → State → State → Prop) (hZ : LEnd l Z) (b L : Nat) (xs : Nat → Int32) (ce sl : Nat) (hce : ce ≤ 601024) (hsl : sl ≤ 7293034) (KK23 : Nat → Nat → Nat → Int32 → Mem → Option (Int32 × Mem)) (hKK23 : ∀ (x1 : Nat) (x2 : Nat) (x3 : Nat) (x4 : Int32) (M : Mem), AW l E fL_law (fun _ => room_1) (PQL Z E b L xs) 111 false ce sl 23 [(0, .ref b), (1, .ref (ad E x1)), (2, .ref (ad E x2)), (3, .ref (ad E x3)), (4, .int x4)] [] M (KK23 x1 x2 x3 x4 M)) (x1 : Nat) (x2 : Nat) (x3 : Nat) (x4 : Int32) (M : Mem) : AW l E fL_law (fun _ => room_1) (PQL Z E b L xs) 111 false ce sl 1446 [(0, .ref b), (1, .ref (ad E x1)), (2, .ref (ad E x2)), (3, .ref (ad E x3)), (4, .int x4)] [] M (zL_law_B1446 L xs KK23 x1 x2 x3 x4 M) := by
  unfold zL_law_B1446
  refine AW.goto (pc := 1446) 2480 dL_law_1446 (by decide) ?_
  exact (kL_law_B2480 l E hst Z hZ b L xs ce sl (by omega) (by omega) KK23 hKK23 x1 x2 x3 x4 M)
set_option maxRecDepth 20000 in
set_option maxHeartbeats 4000000 in
theorem kL_law_B1381 (l : Launch) (E : Ev) (hst : l.stackTraces = false) (Z : List Frame → Array Value → State → State → Prop) (hZ : LEnd l Z) (b L : Nat) (xs : Nat → Int32) (ce sl : Nat) (hce : ce + 1 ≤ 601024) (hsl : sl + 6 ≤ 7293034) (KK23 : Nat → Nat → Nat → Int32 → Mem → Option (Int32 × Mem)) (hKK23 : ∀ (x1 : Nat) (x2 : Nat) (x3 : Nat) (x4 : Int32) (M : Mem), AW l E fL_law (fun _ => room_1) (PQL Z E b L xs) 111 false (ce + 1) (sl + 6) 23 [(0, .ref b), (1, .ref (ad E x1)), (2, .ref (ad E x2)), (3, .ref (ad E x3)), (4, .int x4)] [] M (KK23 x1 x2 x3 x4 M)) (x1 : Nat) (x2 : Nat) (x3 : Nat) (x4 : Int32) (M : Mem) : AW l E fL_law (fun _ => room_1) (PQL Z E b L xs) 111 false ce sl 1381 [(0, .ref b), (1, .ref (ad E x1)), (2, .ref (ad E x2)), (3, .ref (ad E x3)), (4, .int x4)] [] M (zL_law_B1381 L xs KK23 x1 x2 x3 x4 M) := by
  unfold zL_law_B1381
  refine AW.aload_n (pc := 1381) dL_law_1381 rfl 1 rfl ?_
  refine AW.aload_n (pc := 1382) dL_law_1382 rfl 0 rfl ?_
  refine AW.iload (pc := 1383) dL_law_1383 4 rfl ?_
  refine AW.iconst (pc := 1385) dL_law_1385 ci_1 ?_
  refine AW.iadd (pc := 1386) dL_law_1386 ?_
  refine AW.chk (fun g1 => ?_)
  refine AW.sld (pc := 1387) dL_law_1387 g1 ?_
  refine AW.aload_n (pc := 1388) dL_law_1388 rfl 0 rfl ?_
  refine AW.iload (pc := 1389) dL_law_1389 4 rfl ?_
  refine AW.iconst (pc := 1391) dL_law_1391 ci_2 ?_
  refine AW.iadd (pc := 1392) dL_law_1392 ?_
  refine AW.chk (fun g2 => ?_)
  refine AW.sld (pc := 1393) dL_law_1393 g2 ?_
  refine AW.aload_n (pc := 1394) dL_law_1394 rfl 3 rfl ?_
  refine AW.callW [.ref (ad E x1), .int (xs (Int32.toNatClampNeg (x4 + 1))), .int (xs (Int32.toNatClampNeg (x4 + 2))), .ref (ad E x3)] [] (pc := 1395) dL_law_1395 mlL_179 mwL_card rfl rfl (fun _ => okR_L (by decide) (by omega) (by omega)) (kL_card l E hst 1000 (by decide) 111 (Nat.le_refl 111) x1 (xs (Int32.toNatClampNeg (x4 + 1))) (xs (Int32.toNatClampNeg (x4 + 2))) x3 M) rfl (Nat.le_of_ble_eq_true rfl) (fun v3 M4 => ?_)
  refine AW.istore (pc := 1398) [1, 2, 3, 4, 5, 0] [(0, .ref b), (1, .ref (ad E x1)), (2, .ref (ad E x2)), (3, .ref (ad E x3)), (4, .int x4), (5, .int v3)] dL_law_1398 (by decide) rfl ?_
  refine AW.aload_n (pc := 1400) dL_law_1400 rfl 2 rfl ?_
  refine AW.aload_n (pc := 1401) dL_law_1401 rfl 0 rfl ?_
  refine AW.iload (pc := 1402) dL_law_1402 4 rfl ?_
  refine AW.iconst (pc := 1404) dL_law_1404 ci_1 ?_
  refine AW.iadd (pc := 1405) dL_law_1405 ?_
  refine AW.chk (fun g5 => ?_)
  refine AW.sld (pc := 1406) dL_law_1406 g5 ?_
  refine AW.aload_n (pc := 1407) dL_law_1407 rfl 0 rfl ?_
  refine AW.iload (pc := 1408) dL_law_1408 4 rfl ?_
  refine AW.iconst (pc := 1410) dL_law_1410 ci_2 ?_
  refine AW.iadd (pc := 1411) dL_law_1411 ?_
  refine AW.chk (fun g6 => ?_)
  refine AW.sld (pc := 1412) dL_law_1412 g6 ?_
  refine AW.chk (fun g9 => ?_)
  refine AW.cV2i (pc := 1413) dL_law_1413 mlL_181 mbX12_card rfl g9 (kct g9 rfl (Nat.le_refl 111)) (fun _ => okR_L (by decide) (by omega) (by omega)) (kX12_card l E 1000 (by decide) 111 (Nat.le_refl 111) false x2 (xs (Int32.toNatClampNeg (x4 + 1))) (xs (Int32.toNatClampNeg (x4 + 2))) M4) (Nat.le_of_ble_eq_true rfl) (fun v7 M8 => ?_)
  refine AW.istore (pc := 1416) [1, 2, 3, 4, 5, 6, 0] [(0, .ref b), (1, .ref (ad E x1)), (2, .ref (ad E x2)), (3, .ref (ad E x3)), (4, .int x4), (5, .int v3), (6, .int v7)] dL_law_1416 (by decide) rfl ?_
  refine AW.aload_n (pc := 1418) dL_law_1418 rfl 2 rfl ?_
  refine AW.cV0i (pc := 1419) dL_law_1419 mlL_125 mbX12_thrown rfl g9 (kct g9 rfl (Nat.le_refl 111)) (fun _ => okR_L (by decide) (by omega) (by omega)) (kX12_thrown l E 1000 (by decide) 111 (Nat.le_refl 111) false x2 M8) (Nat.le_of_ble_eq_true rfl) (fun v10 M11 => ?_)
  refine AW.iload (pc := 1422) dL_law_1422 5 rfl ?_
  refine AW.icmp_eq (pc := 1424) 1429 dL_law_1424 (by decide) (fun h12 => ?_) (fun h12 => ?_)
  · refine AW.iload (pc := 1429) dL_law_1429 5 rfl ?_
    refine AW.if_ne (pc := 1431) 1446 dL_law_1431 (by decide) (fun h13 => ?_) (fun h13 => ?_)
    · refine AW.aload_n (pc := 1434) dL_law_1434 rfl 3 rfl ?_
      refine AW.iconst (pc := 1435) dL_law_1435 ci_0 ?_
      refine AW.chk (fun g14 => ?_)
      refine AW.lald (pc := 1436) dL_law_1436 (k0e g14.1) (kct (k0e g14.1) rfl (Nat.le_refl 111)) g14.2 ?_
      refine AW.iload (pc := 1437) dL_law_1437 6 rfl ?_
      refine AW.i2l (pc := 1439) dL_law_1439 ?_
      refine AW.lcmp (pc := 1440) dL_law_1440 ?_
      refine AW.if_eq (pc := 1441) 1446 dL_law_1441 (by decide) (fun h15 => ?_) (fun h15 => ?_)
      · exact AW.sub [0, 1, 2, 3, 4] rfl (kL_law_B1446 l E hst Z hZ b L xs (ce + 1) (sl + 6) (by omega) (by omega) KK23 hKK23 x1 x2 x3 x4 M11)
      · refine AW.iconst (pc := 1444) dL_law_1444 ci_0 ?_
        exact AW.lend0 (pc := 1445) (by decide)
    · exact AW.sub [0, 1, 2, 3, 4] rfl (kL_law_B1446 l E hst Z hZ b L xs (ce + 1) (sl + 6) (by omega) (by omega) KK23 hKK23 x1 x2 x3 x4 M11)
  · refine AW.iconst (pc := 1427) dL_law_1427 ci_0 ?_
    exact AW.lend0 (pc := 1428) (by decide)
set_option maxRecDepth 20000 in
set_option maxHeartbeats 4000000 in
theorem kL_law_B1378 (l : Launch) (E : Ev) (hst : l.stackTraces = false) (Z : List Frame → Array Value → State → State → Prop) (hZ : LEnd l Z) (b L : Nat) (xs : Nat → Int32) (ce sl : Nat) (hce : ce ≤ 601024) (hsl : sl ≤ 7293034) (KK23 : Nat → Nat → Nat → Int32 → Mem → Option (Int32 × Mem)) (hKK23 : ∀ (x1 : Nat) (x2 : Nat) (x3 : Nat) (x4 : Int32) (M : Mem), AW l E fL_law (fun _ => room_1) (PQL Z E b L xs) 111 false ce sl 23 [(0, .ref b), (1, .ref (ad E x1)), (2, .ref (ad E x2)), (3, .ref (ad E x3)), (4, .int x4)] [] M (KK23 x1 x2 x3 x4 M)) (x1 : Nat) (x2 : Nat) (x3 : Nat) (x4 : Int32) (M : Mem) : AW l E fL_law (fun _ => room_1) (PQL Z E b L xs) 111 false ce sl 1378 [(0, .ref b), (1, .ref (ad E x1)), (2, .ref (ad E x2)), (3, .ref (ad E x3)), (4, .int x4)] [] M (zL_law_B1378 L xs KK23 x1 x2 x3 x4 M) := by
  unfold zL_law_B1378
  refine AW.goto (pc := 1378) 2480 dL_law_1378 (by decide) ?_
  exact (kL_law_B2480 l E hst Z hZ b L xs ce sl (by omega) (by omega) KK23 hKK23 x1 x2 x3 x4 M)
set_option maxRecDepth 20000 in
set_option maxHeartbeats 4000000 in
theorem kL_law_B1301 (l : Launch) (E : Ev) (hst : l.stackTraces = false) (Z : List Frame → Array Value → State → State → Prop) (hZ : LEnd l Z) (b L : Nat) (xs : Nat → Int32) (ce sl : Nat) (hce : ce + 1 ≤ 601024) (hsl : sl + 6 ≤ 7293034) (KK23 : Nat → Nat → Nat → Int32 → Mem → Option (Int32 × Mem)) (hKK23 : ∀ (x1 : Nat) (x2 : Nat) (x3 : Nat) (x4 : Int32) (M : Mem), AW l E fL_law (fun _ => room_1) (PQL Z E b L xs) 111 false (ce + 1) (sl + 6) 23 [(0, .ref b), (1, .ref (ad E x1)), (2, .ref (ad E x2)), (3, .ref (ad E x3)), (4, .int x4)] [] M (KK23 x1 x2 x3 x4 M)) (x1 : Nat) (x2 : Nat) (x3 : Nat) (x4 : Int32) (M : Mem) : AW l E fL_law (fun _ => room_1) (PQL Z E b L xs) 111 false ce sl 1301 [(0, .ref b), (1, .ref (ad E x1)), (2, .ref (ad E x2)), (3, .ref (ad E x3)), (4, .int x4)] [] M (zL_law_B1301 L xs KK23 x1 x2 x3 x4 M) := by
  unfold zL_law_B1301
  refine AW.aload_n (pc := 1301) dL_law_1301 rfl 1 rfl ?_
  refine AW.aload_n (pc := 1302) dL_law_1302 rfl 0 rfl ?_
  refine AW.iload (pc := 1303) dL_law_1303 4 rfl ?_
  refine AW.iconst (pc := 1305) dL_law_1305 ci_1 ?_
  refine AW.iadd (pc := 1306) dL_law_1306 ?_
  refine AW.chk (fun g1 => ?_)
  refine AW.sld (pc := 1307) dL_law_1307 g1 ?_
  refine AW.aload_n (pc := 1308) dL_law_1308 rfl 0 rfl ?_
  refine AW.iload (pc := 1309) dL_law_1309 4 rfl ?_
  refine AW.iconst (pc := 1311) dL_law_1311 ci_2 ?_
  refine AW.iadd (pc := 1312) dL_law_1312 ?_
  refine AW.chk (fun g2 => ?_)
  refine AW.sld (pc := 1313) dL_law_1313 g2 ?_
  refine AW.aload_n (pc := 1314) dL_law_1314 rfl 0 rfl ?_
  refine AW.iload (pc := 1315) dL_law_1315 4 rfl ?_
  refine AW.iconst (pc := 1317) dL_law_1317 ci_3 ?_
  refine AW.iadd (pc := 1318) dL_law_1318 ?_
  refine AW.chk (fun g3 => ?_)
  refine AW.sld (pc := 1319) dL_law_1319 g3 ?_
  refine AW.aload_n (pc := 1320) dL_law_1320 rfl 3 rfl ?_
  refine AW.callW [.ref (ad E x1), .int (xs (Int32.toNatClampNeg (x4 + 1))), .int (xs (Int32.toNatClampNeg (x4 + 2))), .int (xs (Int32.toNatClampNeg (x4 + 3))), .ref (ad E x3)] [] (pc := 1321) dL_law_1321 mlL_176 mwL_would rfl rfl (fun _ => okR_L (by decide) (by omega) (by omega)) (kL_would l E hst 1000 (by decide) 111 (Nat.le_refl 111) x1 (xs (Int32.toNatClampNeg (x4 + 1))) (xs (Int32.toNatClampNeg (x4 + 2))) (xs (Int32.toNatClampNeg (x4 + 3))) x3 M) rfl (Nat.le_of_ble_eq_true rfl) (fun v4 M5 => ?_)
  refine AW.istore (pc := 1324) [1, 2, 3, 4, 5, 0] [(0, .ref b), (1, .ref (ad E x1)), (2, .ref (ad E x2)), (3, .ref (ad E x3)), (4, .int x4), (5, .int v4)] dL_law_1324 (by decide) rfl ?_
  refine AW.aload_n (pc := 1326) dL_law_1326 rfl 2 rfl ?_
  refine AW.aload_n (pc := 1327) dL_law_1327 rfl 0 rfl ?_
  refine AW.iload (pc := 1328) dL_law_1328 4 rfl ?_
  refine AW.iconst (pc := 1330) dL_law_1330 ci_1 ?_
  refine AW.iadd (pc := 1331) dL_law_1331 ?_
  refine AW.chk (fun g6 => ?_)
  refine AW.sld (pc := 1332) dL_law_1332 g6 ?_
  refine AW.aload_n (pc := 1333) dL_law_1333 rfl 0 rfl ?_
  refine AW.iload (pc := 1334) dL_law_1334 4 rfl ?_
  refine AW.iconst (pc := 1336) dL_law_1336 ci_2 ?_
  refine AW.iadd (pc := 1337) dL_law_1337 ?_
  refine AW.chk (fun g7 => ?_)
  refine AW.sld (pc := 1338) dL_law_1338 g7 ?_
  refine AW.aload_n (pc := 1339) dL_law_1339 rfl 0 rfl ?_
  refine AW.iload (pc := 1340) dL_law_1340 4 rfl ?_
  refine AW.iconst (pc := 1342) dL_law_1342 ci_3 ?_
  refine AW.iadd (pc := 1343) dL_law_1343 ?_
  refine AW.chk (fun g8 => ?_)
  refine AW.sld (pc := 1344) dL_law_1344 g8 ?_
  refine AW.chk (fun g11 => ?_)
  refine AW.cV3i (pc := 1345) dL_law_1345 mlL_178 mbX12_would rfl g11 (kct g11 rfl (Nat.le_refl 111)) (fun _ => okR_L (by decide) (by omega) (by omega)) (kX12_would l E 1000 (by decide) 111 (Nat.le_refl 111) false x2 (xs (Int32.toNatClampNeg (x4 + 1))) (xs (Int32.toNatClampNeg (x4 + 2))) (xs (Int32.toNatClampNeg (x4 + 3))) M5) (Nat.le_of_ble_eq_true rfl) (fun v9 M10 => ?_)
  refine AW.istore (pc := 1348) [1, 2, 3, 4, 5, 6, 0] [(0, .ref b), (1, .ref (ad E x1)), (2, .ref (ad E x2)), (3, .ref (ad E x3)), (4, .int x4), (5, .int v4), (6, .int v9)] dL_law_1348 (by decide) rfl ?_
  refine AW.aload_n (pc := 1350) dL_law_1350 rfl 2 rfl ?_
  refine AW.cV0i (pc := 1351) dL_law_1351 mlL_125 mbX12_thrown rfl g11 (kct g11 rfl (Nat.le_refl 111)) (fun _ => okR_L (by decide) (by omega) (by omega)) (kX12_thrown l E 1000 (by decide) 111 (Nat.le_refl 111) false x2 M10) (Nat.le_of_ble_eq_true rfl) (fun v12 M13 => ?_)
  refine AW.iload (pc := 1354) dL_law_1354 5 rfl ?_
  refine AW.icmp_eq (pc := 1356) 1361 dL_law_1356 (by decide) (fun h14 => ?_) (fun h14 => ?_)
  · refine AW.iload (pc := 1361) dL_law_1361 5 rfl ?_
    refine AW.if_ne (pc := 1363) 1378 dL_law_1363 (by decide) (fun h15 => ?_) (fun h15 => ?_)
    · refine AW.aload_n (pc := 1366) dL_law_1366 rfl 3 rfl ?_
      refine AW.iconst (pc := 1367) dL_law_1367 ci_0 ?_
      refine AW.chk (fun g16 => ?_)
      refine AW.lald (pc := 1368) dL_law_1368 (k0e g16.1) (kct (k0e g16.1) rfl (Nat.le_refl 111)) g16.2 ?_
      refine AW.iload (pc := 1369) dL_law_1369 6 rfl ?_
      refine AW.i2l (pc := 1371) dL_law_1371 ?_
      refine AW.lcmp (pc := 1372) dL_law_1372 ?_
      refine AW.if_eq (pc := 1373) 1378 dL_law_1373 (by decide) (fun h17 => ?_) (fun h17 => ?_)
      · exact AW.sub [0, 1, 2, 3, 4] rfl (kL_law_B1378 l E hst Z hZ b L xs (ce + 1) (sl + 6) (by omega) (by omega) KK23 hKK23 x1 x2 x3 x4 M13)
      · refine AW.iconst (pc := 1376) dL_law_1376 ci_0 ?_
        exact AW.lend0 (pc := 1377) (by decide)
    · exact AW.sub [0, 1, 2, 3, 4] rfl (kL_law_B1378 l E hst Z hZ b L xs (ce + 1) (sl + 6) (by omega) (by omega) KK23 hKK23 x1 x2 x3 x4 M13)
  · refine AW.iconst (pc := 1359) dL_law_1359 ci_0 ?_
    exact AW.lend0 (pc := 1360) (by decide)
set_option maxRecDepth 20000 in
set_option maxHeartbeats 4000000 in
theorem kL_law_B1298 (l : Launch) (E : Ev) (hst : l.stackTraces = false) (Z : List Frame → Array Value → State → State → Prop) (hZ : LEnd l Z) (b L : Nat) (xs : Nat → Int32) (ce sl : Nat) (hce : ce ≤ 601024) (hsl : sl ≤ 7293034) (KK23 : Nat → Nat → Nat → Int32 → Mem → Option (Int32 × Mem)) (hKK23 : ∀ (x1 : Nat) (x2 : Nat) (x3 : Nat) (x4 : Int32) (M : Mem), AW l E fL_law (fun _ => room_1) (PQL Z E b L xs) 111 false ce sl 23 [(0, .ref b), (1, .ref (ad E x1)), (2, .ref (ad E x2)), (3, .ref (ad E x3)), (4, .int x4)] [] M (KK23 x1 x2 x3 x4 M)) (x1 : Nat) (x2 : Nat) (x3 : Nat) (x4 : Int32) (M : Mem) : AW l E fL_law (fun _ => room_1) (PQL Z E b L xs) 111 false ce sl 1298 [(0, .ref b), (1, .ref (ad E x1)), (2, .ref (ad E x2)), (3, .ref (ad E x3)), (4, .int x4)] [] M (zL_law_B1298 L xs KK23 x1 x2 x3 x4 M) := by
  unfold zL_law_B1298
  refine AW.goto (pc := 1298) 2480 dL_law_1298 (by decide) ?_
  exact (kL_law_B2480 l E hst Z hZ b L xs ce sl (by omega) (by omega) KK23 hKK23 x1 x2 x3 x4 M)
set_option maxRecDepth 20000 in
set_option maxHeartbeats 4000000 in
theorem kL_law_B1209 (l : Launch) (E : Ev) (hst : l.stackTraces = false) (Z : List Frame → Array Value → State → State → Prop) (hZ : LEnd l Z) (b L : Nat) (xs : Nat → Int32) (ce sl : Nat) (hce : ce + 1 ≤ 601024) (hsl : sl + 6 ≤ 7293034) (KK23 : Nat → Nat → Nat → Int32 → Mem → Option (Int32 × Mem)) (hKK23 : ∀ (x1 : Nat) (x2 : Nat) (x3 : Nat) (x4 : Int32) (M : Mem), AW l E fL_law (fun _ => room_1) (PQL Z E b L xs) 111 false (ce + 1) (sl + 6) 23 [(0, .ref b), (1, .ref (ad E x1)), (2, .ref (ad E x2)), (3, .ref (ad E x3)), (4, .int x4)] [] M (KK23 x1 x2 x3 x4 M)) (x1 : Nat) (x2 : Nat) (x3 : Nat) (x4 : Int32) (M : Mem) : AW l E fL_law (fun _ => room_1) (PQL Z E b L xs) 111 false ce sl 1209 [(0, .ref b), (1, .ref (ad E x1)), (2, .ref (ad E x2)), (3, .ref (ad E x3)), (4, .int x4)] [] M (zL_law_B1209 L xs KK23 x1 x2 x3 x4 M) := by
  unfold zL_law_B1209
  refine AW.aload_n (pc := 1209) dL_law_1209 rfl 1 rfl ?_
  refine AW.aload_n (pc := 1210) dL_law_1210 rfl 0 rfl ?_
  refine AW.iload (pc := 1211) dL_law_1211 4 rfl ?_
  refine AW.iconst (pc := 1213) dL_law_1213 ci_1 ?_
  refine AW.iadd (pc := 1214) dL_law_1214 ?_
  refine AW.chk (fun g1 => ?_)
  refine AW.sld (pc := 1215) dL_law_1215 g1 ?_
  refine AW.aload_n (pc := 1216) dL_law_1216 rfl 0 rfl ?_
  refine AW.iload (pc := 1217) dL_law_1217 4 rfl ?_
  refine AW.iconst (pc := 1219) dL_law_1219 ci_2 ?_
  refine AW.iadd (pc := 1220) dL_law_1220 ?_
  refine AW.chk (fun g2 => ?_)
  refine AW.sld (pc := 1221) dL_law_1221 g2 ?_
  refine AW.aload_n (pc := 1222) dL_law_1222 rfl 0 rfl ?_
  refine AW.iload (pc := 1223) dL_law_1223 4 rfl ?_
  refine AW.iconst (pc := 1225) dL_law_1225 ci_3 ?_
  refine AW.iadd (pc := 1226) dL_law_1226 ?_
  refine AW.chk (fun g3 => ?_)
  refine AW.sld (pc := 1227) dL_law_1227 g3 ?_
  refine AW.aload_n (pc := 1228) dL_law_1228 rfl 0 rfl ?_
  refine AW.iload (pc := 1229) dL_law_1229 4 rfl ?_
  refine AW.iconst (pc := 1231) dL_law_1231 ci_4 ?_
  refine AW.iadd (pc := 1232) dL_law_1232 ?_
  refine AW.chk (fun g4 => ?_)
  refine AW.sld (pc := 1233) dL_law_1233 g4 ?_
  refine AW.aload_n (pc := 1234) dL_law_1234 rfl 3 rfl ?_
  refine AW.callW [.ref (ad E x1), .int (xs (Int32.toNatClampNeg (x4 + 1))), .int (xs (Int32.toNatClampNeg (x4 + 2))), .int (xs (Int32.toNatClampNeg (x4 + 3))), .int (xs (Int32.toNatClampNeg (x4 + 4))), .ref (ad E x3)] [] (pc := 1235) dL_law_1235 mlL_172 mwL_best rfl rfl (fun _ => okR_L (by decide) (by omega) (by omega)) (kL_best l E hst 1000 (by decide) 111 (Nat.le_refl 111) x1 (xs (Int32.toNatClampNeg (x4 + 1))) (xs (Int32.toNatClampNeg (x4 + 2))) (xs (Int32.toNatClampNeg (x4 + 3))) (xs (Int32.toNatClampNeg (x4 + 4))) x3 M) rfl (Nat.le_of_ble_eq_true rfl) (fun v5 M6 => ?_)
  refine AW.istore (pc := 1238) [1, 2, 3, 4, 5, 0] [(0, .ref b), (1, .ref (ad E x1)), (2, .ref (ad E x2)), (3, .ref (ad E x3)), (4, .int x4), (5, .int v5)] dL_law_1238 (by decide) rfl ?_
  refine AW.aload_n (pc := 1240) dL_law_1240 rfl 2 rfl ?_
  refine AW.aload_n (pc := 1241) dL_law_1241 rfl 0 rfl ?_
  refine AW.iload (pc := 1242) dL_law_1242 4 rfl ?_
  refine AW.iconst (pc := 1244) dL_law_1244 ci_1 ?_
  refine AW.iadd (pc := 1245) dL_law_1245 ?_
  refine AW.chk (fun g7 => ?_)
  refine AW.sld (pc := 1246) dL_law_1246 g7 ?_
  refine AW.aload_n (pc := 1247) dL_law_1247 rfl 0 rfl ?_
  refine AW.iload (pc := 1248) dL_law_1248 4 rfl ?_
  refine AW.iconst (pc := 1250) dL_law_1250 ci_2 ?_
  refine AW.iadd (pc := 1251) dL_law_1251 ?_
  refine AW.chk (fun g8 => ?_)
  refine AW.sld (pc := 1252) dL_law_1252 g8 ?_
  refine AW.aload_n (pc := 1253) dL_law_1253 rfl 0 rfl ?_
  refine AW.iload (pc := 1254) dL_law_1254 4 rfl ?_
  refine AW.iconst (pc := 1256) dL_law_1256 ci_3 ?_
  refine AW.iadd (pc := 1257) dL_law_1257 ?_
  refine AW.chk (fun g9 => ?_)
  refine AW.sld (pc := 1258) dL_law_1258 g9 ?_
  refine AW.aload_n (pc := 1259) dL_law_1259 rfl 0 rfl ?_
  refine AW.iload (pc := 1260) dL_law_1260 4 rfl ?_
  refine AW.iconst (pc := 1262) dL_law_1262 ci_4 ?_
  refine AW.iadd (pc := 1263) dL_law_1263 ?_
  refine AW.chk (fun g10 => ?_)
  refine AW.sld (pc := 1264) dL_law_1264 g10 ?_
  refine AW.chk (fun g13 => ?_)
  refine AW.cV4i (pc := 1265) dL_law_1265 mlL_175 mbX12_best rfl g13 (kct g13 rfl (Nat.le_refl 111)) (fun _ => okR_L (by decide) (by omega) (by omega)) (kX12_best l E 1000 (by decide) 111 (Nat.le_refl 111) false x2 (xs (Int32.toNatClampNeg (x4 + 1))) (xs (Int32.toNatClampNeg (x4 + 2))) (xs (Int32.toNatClampNeg (x4 + 3))) (xs (Int32.toNatClampNeg (x4 + 4))) M6) (Nat.le_of_ble_eq_true rfl) (fun v11 M12 => ?_)
  refine AW.istore (pc := 1268) [1, 2, 3, 4, 5, 6, 0] [(0, .ref b), (1, .ref (ad E x1)), (2, .ref (ad E x2)), (3, .ref (ad E x3)), (4, .int x4), (5, .int v5), (6, .int v11)] dL_law_1268 (by decide) rfl ?_
  refine AW.aload_n (pc := 1270) dL_law_1270 rfl 2 rfl ?_
  refine AW.cV0i (pc := 1271) dL_law_1271 mlL_125 mbX12_thrown rfl g13 (kct g13 rfl (Nat.le_refl 111)) (fun _ => okR_L (by decide) (by omega) (by omega)) (kX12_thrown l E 1000 (by decide) 111 (Nat.le_refl 111) false x2 M12) (Nat.le_of_ble_eq_true rfl) (fun v14 M15 => ?_)
  refine AW.iload (pc := 1274) dL_law_1274 5 rfl ?_
  refine AW.icmp_eq (pc := 1276) 1281 dL_law_1276 (by decide) (fun h16 => ?_) (fun h16 => ?_)
  · refine AW.iload (pc := 1281) dL_law_1281 5 rfl ?_
    refine AW.if_ne (pc := 1283) 1298 dL_law_1283 (by decide) (fun h17 => ?_) (fun h17 => ?_)
    · refine AW.aload_n (pc := 1286) dL_law_1286 rfl 3 rfl ?_
      refine AW.iconst (pc := 1287) dL_law_1287 ci_0 ?_
      refine AW.chk (fun g18 => ?_)
      refine AW.lald (pc := 1288) dL_law_1288 (k0e g18.1) (kct (k0e g18.1) rfl (Nat.le_refl 111)) g18.2 ?_
      refine AW.iload (pc := 1289) dL_law_1289 6 rfl ?_
      refine AW.i2l (pc := 1291) dL_law_1291 ?_
      refine AW.lcmp (pc := 1292) dL_law_1292 ?_
      refine AW.if_eq (pc := 1293) 1298 dL_law_1293 (by decide) (fun h19 => ?_) (fun h19 => ?_)
      · exact AW.sub [0, 1, 2, 3, 4] rfl (kL_law_B1298 l E hst Z hZ b L xs (ce + 1) (sl + 6) (by omega) (by omega) KK23 hKK23 x1 x2 x3 x4 M15)
      · refine AW.iconst (pc := 1296) dL_law_1296 ci_0 ?_
        exact AW.lend0 (pc := 1297) (by decide)
    · exact AW.sub [0, 1, 2, 3, 4] rfl (kL_law_B1298 l E hst Z hZ b L xs (ce + 1) (sl + 6) (by omega) (by omega) KK23 hKK23 x1 x2 x3 x4 M15)
  · refine AW.iconst (pc := 1279) dL_law_1279 ci_0 ?_
    exact AW.lend0 (pc := 1280) (by decide)
set_option maxRecDepth 20000 in
set_option maxHeartbeats 4000000 in
theorem kL_law_B1206 (l : Launch) (E : Ev) (hst : l.stackTraces = false) (Z : List Frame → Array Value → State → State → Prop) (hZ : LEnd l Z) (b L : Nat) (xs : Nat → Int32) (ce sl : Nat) (hce : ce ≤ 601024) (hsl : sl ≤ 7293034) (KK23 : Nat → Nat → Nat → Int32 → Mem → Option (Int32 × Mem)) (hKK23 : ∀ (x1 : Nat) (x2 : Nat) (x3 : Nat) (x4 : Int32) (M : Mem), AW l E fL_law (fun _ => room_1) (PQL Z E b L xs) 111 false ce sl 23 [(0, .ref b), (1, .ref (ad E x1)), (2, .ref (ad E x2)), (3, .ref (ad E x3)), (4, .int x4)] [] M (KK23 x1 x2 x3 x4 M)) (x1 : Nat) (x2 : Nat) (x3 : Nat) (x4 : Int32) (M : Mem) : AW l E fL_law (fun _ => room_1) (PQL Z E b L xs) 111 false ce sl 1206 [(0, .ref b), (1, .ref (ad E x1)), (2, .ref (ad E x2)), (3, .ref (ad E x3)), (4, .int x4)] [] M (zL_law_B1206 L xs KK23 x1 x2 x3 x4 M) := by
  unfold zL_law_B1206
  refine AW.goto (pc := 1206) 2480 dL_law_1206 (by decide) ?_
  exact (kL_law_B2480 l E hst Z hZ b L xs ce sl (by omega) (by omega) KK23 hKK23 x1 x2 x3 x4 M)
set_option maxRecDepth 20000 in
set_option maxHeartbeats 4000000 in
theorem kL_law_B1129 (l : Launch) (E : Ev) (hst : l.stackTraces = false) (Z : List Frame → Array Value → State → State → Prop) (hZ : LEnd l Z) (b L : Nat) (xs : Nat → Int32) (ce sl : Nat) (hce : ce + 1 ≤ 601024) (hsl : sl + 6 ≤ 7293034) (KK23 : Nat → Nat → Nat → Int32 → Mem → Option (Int32 × Mem)) (hKK23 : ∀ (x1 : Nat) (x2 : Nat) (x3 : Nat) (x4 : Int32) (M : Mem), AW l E fL_law (fun _ => room_1) (PQL Z E b L xs) 111 false (ce + 1) (sl + 6) 23 [(0, .ref b), (1, .ref (ad E x1)), (2, .ref (ad E x2)), (3, .ref (ad E x3)), (4, .int x4)] [] M (KK23 x1 x2 x3 x4 M)) (x1 : Nat) (x2 : Nat) (x3 : Nat) (x4 : Int32) (M : Mem) : AW l E fL_law (fun _ => room_1) (PQL Z E b L xs) 111 false ce sl 1129 [(0, .ref b), (1, .ref (ad E x1)), (2, .ref (ad E x2)), (3, .ref (ad E x3)), (4, .int x4)] [] M (zL_law_B1129 L xs KK23 x1 x2 x3 x4 M) := by
  unfold zL_law_B1129
  refine AW.aload_n (pc := 1129) dL_law_1129 rfl 1 rfl ?_
  refine AW.aload_n (pc := 1130) dL_law_1130 rfl 0 rfl ?_
  refine AW.iload (pc := 1131) dL_law_1131 4 rfl ?_
  refine AW.iconst (pc := 1133) dL_law_1133 ci_1 ?_
  refine AW.iadd (pc := 1134) dL_law_1134 ?_
  refine AW.chk (fun g1 => ?_)
  refine AW.sld (pc := 1135) dL_law_1135 g1 ?_
  refine AW.aload_n (pc := 1136) dL_law_1136 rfl 0 rfl ?_
  refine AW.iload (pc := 1137) dL_law_1137 4 rfl ?_
  refine AW.iconst (pc := 1139) dL_law_1139 ci_2 ?_
  refine AW.iadd (pc := 1140) dL_law_1140 ?_
  refine AW.chk (fun g2 => ?_)
  refine AW.sld (pc := 1141) dL_law_1141 g2 ?_
  refine AW.aload_n (pc := 1142) dL_law_1142 rfl 0 rfl ?_
  refine AW.iload (pc := 1143) dL_law_1143 4 rfl ?_
  refine AW.iconst (pc := 1145) dL_law_1145 ci_3 ?_
  refine AW.iadd (pc := 1146) dL_law_1146 ?_
  refine AW.chk (fun g3 => ?_)
  refine AW.sld (pc := 1147) dL_law_1147 g3 ?_
  refine AW.aload_n (pc := 1148) dL_law_1148 rfl 3 rfl ?_
  refine AW.callW [.ref (ad E x1), .int (xs (Int32.toNatClampNeg (x4 + 1))), .int (xs (Int32.toNatClampNeg (x4 + 2))), .int (xs (Int32.toNatClampNeg (x4 + 3))), .ref (ad E x3)] [] (pc := 1149) dL_law_1149 mlL_169 mwL_rest rfl rfl (fun _ => okR_L (by decide) (by omega) (by omega)) (kL_rest l E hst 1000 (by decide) 111 (Nat.le_refl 111) x1 (xs (Int32.toNatClampNeg (x4 + 1))) (xs (Int32.toNatClampNeg (x4 + 2))) (xs (Int32.toNatClampNeg (x4 + 3))) x3 M) rfl (Nat.le_of_ble_eq_true rfl) (fun v4 M5 => ?_)
  refine AW.istore (pc := 1152) [1, 2, 3, 4, 5, 0] [(0, .ref b), (1, .ref (ad E x1)), (2, .ref (ad E x2)), (3, .ref (ad E x3)), (4, .int x4), (5, .int v4)] dL_law_1152 (by decide) rfl ?_
  refine AW.aload_n (pc := 1154) dL_law_1154 rfl 2 rfl ?_
  refine AW.aload_n (pc := 1155) dL_law_1155 rfl 0 rfl ?_
  refine AW.iload (pc := 1156) dL_law_1156 4 rfl ?_
  refine AW.iconst (pc := 1158) dL_law_1158 ci_1 ?_
  refine AW.iadd (pc := 1159) dL_law_1159 ?_
  refine AW.chk (fun g6 => ?_)
  refine AW.sld (pc := 1160) dL_law_1160 g6 ?_
  refine AW.aload_n (pc := 1161) dL_law_1161 rfl 0 rfl ?_
  refine AW.iload (pc := 1162) dL_law_1162 4 rfl ?_
  refine AW.iconst (pc := 1164) dL_law_1164 ci_2 ?_
  refine AW.iadd (pc := 1165) dL_law_1165 ?_
  refine AW.chk (fun g7 => ?_)
  refine AW.sld (pc := 1166) dL_law_1166 g7 ?_
  refine AW.aload_n (pc := 1167) dL_law_1167 rfl 0 rfl ?_
  refine AW.iload (pc := 1168) dL_law_1168 4 rfl ?_
  refine AW.iconst (pc := 1170) dL_law_1170 ci_3 ?_
  refine AW.iadd (pc := 1171) dL_law_1171 ?_
  refine AW.chk (fun g8 => ?_)
  refine AW.sld (pc := 1172) dL_law_1172 g8 ?_
  refine AW.chk (fun g11 => ?_)
  refine AW.cV3i (pc := 1173) dL_law_1173 mlL_171 mbX12_rest rfl g11 (kct g11 rfl (Nat.le_refl 111)) (fun _ => okR_L (by decide) (by omega) (by omega)) (kX12_rest l E 1000 (by decide) 111 (Nat.le_refl 111) false x2 (xs (Int32.toNatClampNeg (x4 + 1))) (xs (Int32.toNatClampNeg (x4 + 2))) (xs (Int32.toNatClampNeg (x4 + 3))) M5) (Nat.le_of_ble_eq_true rfl) (fun v9 M10 => ?_)
  refine AW.istore (pc := 1176) [1, 2, 3, 4, 5, 6, 0] [(0, .ref b), (1, .ref (ad E x1)), (2, .ref (ad E x2)), (3, .ref (ad E x3)), (4, .int x4), (5, .int v4), (6, .int v9)] dL_law_1176 (by decide) rfl ?_
  refine AW.aload_n (pc := 1178) dL_law_1178 rfl 2 rfl ?_
  refine AW.cV0i (pc := 1179) dL_law_1179 mlL_125 mbX12_thrown rfl g11 (kct g11 rfl (Nat.le_refl 111)) (fun _ => okR_L (by decide) (by omega) (by omega)) (kX12_thrown l E 1000 (by decide) 111 (Nat.le_refl 111) false x2 M10) (Nat.le_of_ble_eq_true rfl) (fun v12 M13 => ?_)
  refine AW.iload (pc := 1182) dL_law_1182 5 rfl ?_
  refine AW.icmp_eq (pc := 1184) 1189 dL_law_1184 (by decide) (fun h14 => ?_) (fun h14 => ?_)
  · refine AW.iload (pc := 1189) dL_law_1189 5 rfl ?_
    refine AW.if_ne (pc := 1191) 1206 dL_law_1191 (by decide) (fun h15 => ?_) (fun h15 => ?_)
    · refine AW.aload_n (pc := 1194) dL_law_1194 rfl 3 rfl ?_
      refine AW.iconst (pc := 1195) dL_law_1195 ci_0 ?_
      refine AW.chk (fun g16 => ?_)
      refine AW.lald (pc := 1196) dL_law_1196 (k0e g16.1) (kct (k0e g16.1) rfl (Nat.le_refl 111)) g16.2 ?_
      refine AW.iload (pc := 1197) dL_law_1197 6 rfl ?_
      refine AW.i2l (pc := 1199) dL_law_1199 ?_
      refine AW.lcmp (pc := 1200) dL_law_1200 ?_
      refine AW.if_eq (pc := 1201) 1206 dL_law_1201 (by decide) (fun h17 => ?_) (fun h17 => ?_)
      · exact AW.sub [0, 1, 2, 3, 4] rfl (kL_law_B1206 l E hst Z hZ b L xs (ce + 1) (sl + 6) (by omega) (by omega) KK23 hKK23 x1 x2 x3 x4 M13)
      · refine AW.iconst (pc := 1204) dL_law_1204 ci_0 ?_
        exact AW.lend0 (pc := 1205) (by decide)
    · exact AW.sub [0, 1, 2, 3, 4] rfl (kL_law_B1206 l E hst Z hZ b L xs (ce + 1) (sl + 6) (by omega) (by omega) KK23 hKK23 x1 x2 x3 x4 M13)
  · refine AW.iconst (pc := 1187) dL_law_1187 ci_0 ?_
    exact AW.lend0 (pc := 1188) (by decide)
set_option maxRecDepth 20000 in
set_option maxHeartbeats 4000000 in
theorem kL_law_B1126 (l : Launch) (E : Ev) (hst : l.stackTraces = false) (Z : List Frame → Array Value → State → State → Prop) (hZ : LEnd l Z) (b L : Nat) (xs : Nat → Int32) (ce sl : Nat) (hce : ce ≤ 601024) (hsl : sl ≤ 7293034) (KK23 : Nat → Nat → Nat → Int32 → Mem → Option (Int32 × Mem)) (hKK23 : ∀ (x1 : Nat) (x2 : Nat) (x3 : Nat) (x4 : Int32) (M : Mem), AW l E fL_law (fun _ => room_1) (PQL Z E b L xs) 111 false ce sl 23 [(0, .ref b), (1, .ref (ad E x1)), (2, .ref (ad E x2)), (3, .ref (ad E x3)), (4, .int x4)] [] M (KK23 x1 x2 x3 x4 M)) (x1 : Nat) (x2 : Nat) (x3 : Nat) (x4 : Int32) (M : Mem) : AW l E fL_law (fun _ => room_1) (PQL Z E b L xs) 111 false ce sl 1126 [(0, .ref b), (1, .ref (ad E x1)), (2, .ref (ad E x2)), (3, .ref (ad E x3)), (4, .int x4)] [] M (zL_law_B1126 L xs KK23 x1 x2 x3 x4 M) := by
  unfold zL_law_B1126
  refine AW.goto (pc := 1126) 2480 dL_law_1126 (by decide) ?_
  exact (kL_law_B2480 l E hst Z hZ b L xs ce sl (by omega) (by omega) KK23 hKK23 x1 x2 x3 x4 M)
set_option maxRecDepth 20000 in
set_option maxHeartbeats 4000000 in
theorem kL_law_B1061 (l : Launch) (E : Ev) (hst : l.stackTraces = false) (Z : List Frame → Array Value → State → State → Prop) (hZ : LEnd l Z) (b L : Nat) (xs : Nat → Int32) (ce sl : Nat) (hce : ce + 1 ≤ 601024) (hsl : sl + 6 ≤ 7293034) (KK23 : Nat → Nat → Nat → Int32 → Mem → Option (Int32 × Mem)) (hKK23 : ∀ (x1 : Nat) (x2 : Nat) (x3 : Nat) (x4 : Int32) (M : Mem), AW l E fL_law (fun _ => room_1) (PQL Z E b L xs) 111 false (ce + 1) (sl + 6) 23 [(0, .ref b), (1, .ref (ad E x1)), (2, .ref (ad E x2)), (3, .ref (ad E x3)), (4, .int x4)] [] M (KK23 x1 x2 x3 x4 M)) (x1 : Nat) (x2 : Nat) (x3 : Nat) (x4 : Int32) (M : Mem) : AW l E fL_law (fun _ => room_1) (PQL Z E b L xs) 111 false ce sl 1061 [(0, .ref b), (1, .ref (ad E x1)), (2, .ref (ad E x2)), (3, .ref (ad E x3)), (4, .int x4)] [] M (zL_law_B1061 L xs KK23 x1 x2 x3 x4 M) := by
  unfold zL_law_B1061
  refine AW.aload_n (pc := 1061) dL_law_1061 rfl 1 rfl ?_
  refine AW.aload_n (pc := 1062) dL_law_1062 rfl 0 rfl ?_
  refine AW.iload (pc := 1063) dL_law_1063 4 rfl ?_
  refine AW.iconst (pc := 1065) dL_law_1065 ci_1 ?_
  refine AW.iadd (pc := 1066) dL_law_1066 ?_
  refine AW.chk (fun g1 => ?_)
  refine AW.sld (pc := 1067) dL_law_1067 g1 ?_
  refine AW.aload_n (pc := 1068) dL_law_1068 rfl 0 rfl ?_
  refine AW.iload (pc := 1069) dL_law_1069 4 rfl ?_
  refine AW.iconst (pc := 1071) dL_law_1071 ci_2 ?_
  refine AW.iadd (pc := 1072) dL_law_1072 ?_
  refine AW.chk (fun g2 => ?_)
  refine AW.sld (pc := 1073) dL_law_1073 g2 ?_
  refine AW.aload_n (pc := 1074) dL_law_1074 rfl 3 rfl ?_
  refine AW.callW [.ref (ad E x1), .int (xs (Int32.toNatClampNeg (x4 + 1))), .int (xs (Int32.toNatClampNeg (x4 + 2))), .ref (ad E x3)] [] (pc := 1075) dL_law_1075 mlL_166 mwL_turn rfl rfl (fun _ => okR_L (by decide) (by omega) (by omega)) (kL_turn l E hst 1000 (by decide) 111 (Nat.le_refl 111) x1 (xs (Int32.toNatClampNeg (x4 + 1))) (xs (Int32.toNatClampNeg (x4 + 2))) x3 M) rfl (Nat.le_of_ble_eq_true rfl) (fun v3 M4 => ?_)
  refine AW.istore (pc := 1078) [1, 2, 3, 4, 5, 0] [(0, .ref b), (1, .ref (ad E x1)), (2, .ref (ad E x2)), (3, .ref (ad E x3)), (4, .int x4), (5, .int v3)] dL_law_1078 (by decide) rfl ?_
  refine AW.aload_n (pc := 1080) dL_law_1080 rfl 2 rfl ?_
  refine AW.aload_n (pc := 1081) dL_law_1081 rfl 0 rfl ?_
  refine AW.iload (pc := 1082) dL_law_1082 4 rfl ?_
  refine AW.iconst (pc := 1084) dL_law_1084 ci_1 ?_
  refine AW.iadd (pc := 1085) dL_law_1085 ?_
  refine AW.chk (fun g5 => ?_)
  refine AW.sld (pc := 1086) dL_law_1086 g5 ?_
  refine AW.aload_n (pc := 1087) dL_law_1087 rfl 0 rfl ?_
  refine AW.iload (pc := 1088) dL_law_1088 4 rfl ?_
  refine AW.iconst (pc := 1090) dL_law_1090 ci_2 ?_
  refine AW.iadd (pc := 1091) dL_law_1091 ?_
  refine AW.chk (fun g6 => ?_)
  refine AW.sld (pc := 1092) dL_law_1092 g6 ?_
  refine AW.chk (fun g9 => ?_)
  refine AW.cV2i (pc := 1093) dL_law_1093 mlL_168 mbX12_turn rfl g9 (kct g9 rfl (Nat.le_refl 111)) (fun _ => okR_L (by decide) (by omega) (by omega)) (kX12_turn l E 1000 (by decide) 111 (Nat.le_refl 111) false x2 (xs (Int32.toNatClampNeg (x4 + 1))) (xs (Int32.toNatClampNeg (x4 + 2))) M4) (Nat.le_of_ble_eq_true rfl) (fun v7 M8 => ?_)
  refine AW.istore (pc := 1096) [1, 2, 3, 4, 5, 6, 0] [(0, .ref b), (1, .ref (ad E x1)), (2, .ref (ad E x2)), (3, .ref (ad E x3)), (4, .int x4), (5, .int v3), (6, .int v7)] dL_law_1096 (by decide) rfl ?_
  refine AW.aload_n (pc := 1098) dL_law_1098 rfl 2 rfl ?_
  refine AW.cV0i (pc := 1099) dL_law_1099 mlL_125 mbX12_thrown rfl g9 (kct g9 rfl (Nat.le_refl 111)) (fun _ => okR_L (by decide) (by omega) (by omega)) (kX12_thrown l E 1000 (by decide) 111 (Nat.le_refl 111) false x2 M8) (Nat.le_of_ble_eq_true rfl) (fun v10 M11 => ?_)
  refine AW.iload (pc := 1102) dL_law_1102 5 rfl ?_
  refine AW.icmp_eq (pc := 1104) 1109 dL_law_1104 (by decide) (fun h12 => ?_) (fun h12 => ?_)
  · refine AW.iload (pc := 1109) dL_law_1109 5 rfl ?_
    refine AW.if_ne (pc := 1111) 1126 dL_law_1111 (by decide) (fun h13 => ?_) (fun h13 => ?_)
    · refine AW.aload_n (pc := 1114) dL_law_1114 rfl 3 rfl ?_
      refine AW.iconst (pc := 1115) dL_law_1115 ci_0 ?_
      refine AW.chk (fun g14 => ?_)
      refine AW.lald (pc := 1116) dL_law_1116 (k0e g14.1) (kct (k0e g14.1) rfl (Nat.le_refl 111)) g14.2 ?_
      refine AW.iload (pc := 1117) dL_law_1117 6 rfl ?_
      refine AW.i2l (pc := 1119) dL_law_1119 ?_
      refine AW.lcmp (pc := 1120) dL_law_1120 ?_
      refine AW.if_eq (pc := 1121) 1126 dL_law_1121 (by decide) (fun h15 => ?_) (fun h15 => ?_)
      · exact AW.sub [0, 1, 2, 3, 4] rfl (kL_law_B1126 l E hst Z hZ b L xs (ce + 1) (sl + 6) (by omega) (by omega) KK23 hKK23 x1 x2 x3 x4 M11)
      · refine AW.iconst (pc := 1124) dL_law_1124 ci_0 ?_
        exact AW.lend0 (pc := 1125) (by decide)
    · exact AW.sub [0, 1, 2, 3, 4] rfl (kL_law_B1126 l E hst Z hZ b L xs (ce + 1) (sl + 6) (by omega) (by omega) KK23 hKK23 x1 x2 x3 x4 M11)
  · refine AW.iconst (pc := 1107) dL_law_1107 ci_0 ?_
    exact AW.lend0 (pc := 1108) (by decide)
set_option maxRecDepth 20000 in
set_option maxHeartbeats 4000000 in
theorem kL_law_B1058 (l : Launch) (E : Ev) (hst : l.stackTraces = false) (Z : List Frame → Array Value → State → State → Prop) (hZ : LEnd l Z) (b L : Nat) (xs : Nat → Int32) (ce sl : Nat) (hce : ce ≤ 601024) (hsl : sl ≤ 7293034) (KK23 : Nat → Nat → Nat → Int32 → Mem → Option (Int32 × Mem)) (hKK23 : ∀ (x1 : Nat) (x2 : Nat) (x3 : Nat) (x4 : Int32) (M : Mem), AW l E fL_law (fun _ => room_1) (PQL Z E b L xs) 111 false ce sl 23 [(0, .ref b), (1, .ref (ad E x1)), (2, .ref (ad E x2)), (3, .ref (ad E x3)), (4, .int x4)] [] M (KK23 x1 x2 x3 x4 M)) (x1 : Nat) (x2 : Nat) (x3 : Nat) (x4 : Int32) (M : Mem) : AW l E fL_law (fun _ => room_1) (PQL Z E b L xs) 111 false ce sl 1058 [(0, .ref b), (1, .ref (ad E x1)), (2, .ref (ad E x2)), (3, .ref (ad E x3)), (4, .int x4)] [] M (zL_law_B1058 L xs KK23 x1 x2 x3 x4 M) := by
  unfold zL_law_B1058
  refine AW.goto (pc := 1058) 2480 dL_law_1058 (by decide) ?_
  exact (kL_law_B2480 l E hst Z hZ b L xs ce sl (by omega) (by omega) KK23 hKK23 x1 x2 x3 x4 M)
set_option maxRecDepth 20000 in
set_option maxHeartbeats 4000000 in
theorem kL_law_B993 (l : Launch) (E : Ev) (hst : l.stackTraces = false) (Z : List Frame → Array Value → State → State → Prop) (hZ : LEnd l Z) (b L : Nat) (xs : Nat → Int32) (ce sl : Nat) (hce : ce + 1 ≤ 601024) (hsl : sl + 6 ≤ 7293034) (KK23 : Nat → Nat → Nat → Int32 → Mem → Option (Int32 × Mem)) (hKK23 : ∀ (x1 : Nat) (x2 : Nat) (x3 : Nat) (x4 : Int32) (M : Mem), AW l E fL_law (fun _ => room_1) (PQL Z E b L xs) 111 false (ce + 1) (sl + 6) 23 [(0, .ref b), (1, .ref (ad E x1)), (2, .ref (ad E x2)), (3, .ref (ad E x3)), (4, .int x4)] [] M (KK23 x1 x2 x3 x4 M)) (x1 : Nat) (x2 : Nat) (x3 : Nat) (x4 : Int32) (M : Mem) : AW l E fL_law (fun _ => room_1) (PQL Z E b L xs) 111 false ce sl 993 [(0, .ref b), (1, .ref (ad E x1)), (2, .ref (ad E x2)), (3, .ref (ad E x3)), (4, .int x4)] [] M (zL_law_B993 L xs KK23 x1 x2 x3 x4 M) := by
  unfold zL_law_B993
  refine AW.aload_n (pc := 993) dL_law_993 rfl 1 rfl ?_
  refine AW.aload_n (pc := 994) dL_law_994 rfl 0 rfl ?_
  refine AW.iload (pc := 995) dL_law_995 4 rfl ?_
  refine AW.iconst (pc := 997) dL_law_997 ci_1 ?_
  refine AW.iadd (pc := 998) dL_law_998 ?_
  refine AW.chk (fun g1 => ?_)
  refine AW.sld (pc := 999) dL_law_999 g1 ?_
  refine AW.aload_n (pc := 1000) dL_law_1000 rfl 0 rfl ?_
  refine AW.iload (pc := 1001) dL_law_1001 4 rfl ?_
  refine AW.iconst (pc := 1003) dL_law_1003 ci_2 ?_
  refine AW.iadd (pc := 1004) dL_law_1004 ?_
  refine AW.chk (fun g2 => ?_)
  refine AW.sld (pc := 1005) dL_law_1005 g2 ?_
  refine AW.aload_n (pc := 1006) dL_law_1006 rfl 3 rfl ?_
  refine AW.callW [.ref (ad E x1), .int (xs (Int32.toNatClampNeg (x4 + 1))), .int (xs (Int32.toNatClampNeg (x4 + 2))), .ref (ad E x3)] [] (pc := 1007) dL_law_1007 mlL_163 mwL_drift rfl rfl (fun _ => okR_L (by decide) (by omega) (by omega)) (kL_drift l E hst 1000 (by decide) 111 (Nat.le_refl 111) x1 (xs (Int32.toNatClampNeg (x4 + 1))) (xs (Int32.toNatClampNeg (x4 + 2))) x3 M) rfl (Nat.le_of_ble_eq_true rfl) (fun v3 M4 => ?_)
  refine AW.istore (pc := 1010) [1, 2, 3, 4, 5, 0] [(0, .ref b), (1, .ref (ad E x1)), (2, .ref (ad E x2)), (3, .ref (ad E x3)), (4, .int x4), (5, .int v3)] dL_law_1010 (by decide) rfl ?_
  refine AW.aload_n (pc := 1012) dL_law_1012 rfl 2 rfl ?_
  refine AW.aload_n (pc := 1013) dL_law_1013 rfl 0 rfl ?_
  refine AW.iload (pc := 1014) dL_law_1014 4 rfl ?_
  refine AW.iconst (pc := 1016) dL_law_1016 ci_1 ?_
  refine AW.iadd (pc := 1017) dL_law_1017 ?_
  refine AW.chk (fun g5 => ?_)
  refine AW.sld (pc := 1018) dL_law_1018 g5 ?_
  refine AW.aload_n (pc := 1019) dL_law_1019 rfl 0 rfl ?_
  refine AW.iload (pc := 1020) dL_law_1020 4 rfl ?_
  refine AW.iconst (pc := 1022) dL_law_1022 ci_2 ?_
  refine AW.iadd (pc := 1023) dL_law_1023 ?_
  refine AW.chk (fun g6 => ?_)
  refine AW.sld (pc := 1024) dL_law_1024 g6 ?_
  refine AW.chk (fun g9 => ?_)
  refine AW.cV2i (pc := 1025) dL_law_1025 mlL_165 mbX12_drift rfl g9 (kct g9 rfl (Nat.le_refl 111)) (fun _ => okR_L (by decide) (by omega) (by omega)) (kX12_drift l E 1000 (by decide) 111 (Nat.le_refl 111) false x2 (xs (Int32.toNatClampNeg (x4 + 1))) (xs (Int32.toNatClampNeg (x4 + 2))) M4) (Nat.le_of_ble_eq_true rfl) (fun v7 M8 => ?_)
  refine AW.istore (pc := 1028) [1, 2, 3, 4, 5, 6, 0] [(0, .ref b), (1, .ref (ad E x1)), (2, .ref (ad E x2)), (3, .ref (ad E x3)), (4, .int x4), (5, .int v3), (6, .int v7)] dL_law_1028 (by decide) rfl ?_
  refine AW.aload_n (pc := 1030) dL_law_1030 rfl 2 rfl ?_
  refine AW.cV0i (pc := 1031) dL_law_1031 mlL_125 mbX12_thrown rfl g9 (kct g9 rfl (Nat.le_refl 111)) (fun _ => okR_L (by decide) (by omega) (by omega)) (kX12_thrown l E 1000 (by decide) 111 (Nat.le_refl 111) false x2 M8) (Nat.le_of_ble_eq_true rfl) (fun v10 M11 => ?_)
  refine AW.iload (pc := 1034) dL_law_1034 5 rfl ?_
  refine AW.icmp_eq (pc := 1036) 1041 dL_law_1036 (by decide) (fun h12 => ?_) (fun h12 => ?_)
  · refine AW.iload (pc := 1041) dL_law_1041 5 rfl ?_
    refine AW.if_ne (pc := 1043) 1058 dL_law_1043 (by decide) (fun h13 => ?_) (fun h13 => ?_)
    · refine AW.aload_n (pc := 1046) dL_law_1046 rfl 3 rfl ?_
      refine AW.iconst (pc := 1047) dL_law_1047 ci_0 ?_
      refine AW.chk (fun g14 => ?_)
      refine AW.lald (pc := 1048) dL_law_1048 (k0e g14.1) (kct (k0e g14.1) rfl (Nat.le_refl 111)) g14.2 ?_
      refine AW.iload (pc := 1049) dL_law_1049 6 rfl ?_
      refine AW.i2l (pc := 1051) dL_law_1051 ?_
      refine AW.lcmp (pc := 1052) dL_law_1052 ?_
      refine AW.if_eq (pc := 1053) 1058 dL_law_1053 (by decide) (fun h15 => ?_) (fun h15 => ?_)
      · exact AW.sub [0, 1, 2, 3, 4] rfl (kL_law_B1058 l E hst Z hZ b L xs (ce + 1) (sl + 6) (by omega) (by omega) KK23 hKK23 x1 x2 x3 x4 M11)
      · refine AW.iconst (pc := 1056) dL_law_1056 ci_0 ?_
        exact AW.lend0 (pc := 1057) (by decide)
    · exact AW.sub [0, 1, 2, 3, 4] rfl (kL_law_B1058 l E hst Z hZ b L xs (ce + 1) (sl + 6) (by omega) (by omega) KK23 hKK23 x1 x2 x3 x4 M11)
  · refine AW.iconst (pc := 1039) dL_law_1039 ci_0 ?_
    exact AW.lend0 (pc := 1040) (by decide)
set_option maxRecDepth 20000 in
set_option maxHeartbeats 4000000 in
theorem kL_law_B990 (l : Launch) (E : Ev) (hst : l.stackTraces = false) (Z : List Frame → Array Value → State → State → Prop) (hZ : LEnd l Z) (b L : Nat) (xs : Nat → Int32) (ce sl : Nat) (hce : ce ≤ 601024) (hsl : sl ≤ 7293034) (KK23 : Nat → Nat → Nat → Int32 → Mem → Option (Int32 × Mem)) (hKK23 : ∀ (x1 : Nat) (x2 : Nat) (x3 : Nat) (x4 : Int32) (M : Mem), AW l E fL_law (fun _ => room_1) (PQL Z E b L xs) 111 false ce sl 23 [(0, .ref b), (1, .ref (ad E x1)), (2, .ref (ad E x2)), (3, .ref (ad E x3)), (4, .int x4)] [] M (KK23 x1 x2 x3 x4 M)) (x1 : Nat) (x2 : Nat) (x3 : Nat) (x4 : Int32) (M : Mem) : AW l E fL_law (fun _ => room_1) (PQL Z E b L xs) 111 false ce sl 990 [(0, .ref b), (1, .ref (ad E x1)), (2, .ref (ad E x2)), (3, .ref (ad E x3)), (4, .int x4)] [] M (zL_law_B990 L xs KK23 x1 x2 x3 x4 M) := by
  unfold zL_law_B990
  refine AW.goto (pc := 990) 2480 dL_law_990 (by decide) ?_
  exact (kL_law_B2480 l E hst Z hZ b L xs ce sl (by omega) (by omega) KK23 hKK23 x1 x2 x3 x4 M)
set_option maxRecDepth 20000 in
set_option maxHeartbeats 4000000 in
theorem kL_law_B913 (l : Launch) (E : Ev) (hst : l.stackTraces = false) (Z : List Frame → Array Value → State → State → Prop) (hZ : LEnd l Z) (b L : Nat) (xs : Nat → Int32) (ce sl : Nat) (hce : ce + 1 ≤ 601024) (hsl : sl + 6 ≤ 7293034) (KK23 : Nat → Nat → Nat → Int32 → Mem → Option (Int32 × Mem)) (hKK23 : ∀ (x1 : Nat) (x2 : Nat) (x3 : Nat) (x4 : Int32) (M : Mem), AW l E fL_law (fun _ => room_1) (PQL Z E b L xs) 111 false (ce + 1) (sl + 6) 23 [(0, .ref b), (1, .ref (ad E x1)), (2, .ref (ad E x2)), (3, .ref (ad E x3)), (4, .int x4)] [] M (KK23 x1 x2 x3 x4 M)) (x1 : Nat) (x2 : Nat) (x3 : Nat) (x4 : Int32) (M : Mem) : AW l E fL_law (fun _ => room_1) (PQL Z E b L xs) 111 false ce sl 913 [(0, .ref b), (1, .ref (ad E x1)), (2, .ref (ad E x2)), (3, .ref (ad E x3)), (4, .int x4)] [] M (zL_law_B913 L xs KK23 x1 x2 x3 x4 M) := by
  unfold zL_law_B913
  refine AW.aload_n (pc := 913) dL_law_913 rfl 1 rfl ?_
  refine AW.aload_n (pc := 914) dL_law_914 rfl 0 rfl ?_
  refine AW.iload (pc := 915) dL_law_915 4 rfl ?_
  refine AW.iconst (pc := 917) dL_law_917 ci_1 ?_
  refine AW.iadd (pc := 918) dL_law_918 ?_
  refine AW.chk (fun g1 => ?_)
  refine AW.sld (pc := 919) dL_law_919 g1 ?_
  refine AW.aload_n (pc := 920) dL_law_920 rfl 0 rfl ?_
  refine AW.iload (pc := 921) dL_law_921 4 rfl ?_
  refine AW.iconst (pc := 923) dL_law_923 ci_2 ?_
  refine AW.iadd (pc := 924) dL_law_924 ?_
  refine AW.chk (fun g2 => ?_)
  refine AW.sld (pc := 925) dL_law_925 g2 ?_
  refine AW.aload_n (pc := 926) dL_law_926 rfl 0 rfl ?_
  refine AW.iload (pc := 927) dL_law_927 4 rfl ?_
  refine AW.iconst (pc := 929) dL_law_929 ci_3 ?_
  refine AW.iadd (pc := 930) dL_law_930 ?_
  refine AW.chk (fun g3 => ?_)
  refine AW.sld (pc := 931) dL_law_931 g3 ?_
  refine AW.aload_n (pc := 932) dL_law_932 rfl 3 rfl ?_
  refine AW.callW [.ref (ad E x1), .int (xs (Int32.toNatClampNeg (x4 + 1))), .int (xs (Int32.toNatClampNeg (x4 + 2))), .int (xs (Int32.toNatClampNeg (x4 + 3))), .ref (ad E x3)] [] (pc := 933) dL_law_933 mlL_160 mwL_cases rfl rfl (fun _ => okR_L (by decide) (by omega) (by omega)) (kL_cases l E hst 1000 (by decide) 111 (Nat.le_refl 111) x1 (xs (Int32.toNatClampNeg (x4 + 1))) (xs (Int32.toNatClampNeg (x4 + 2))) (xs (Int32.toNatClampNeg (x4 + 3))) x3 M) rfl (Nat.le_of_ble_eq_true rfl) (fun v4 M5 => ?_)
  refine AW.istore (pc := 936) [1, 2, 3, 4, 5, 0] [(0, .ref b), (1, .ref (ad E x1)), (2, .ref (ad E x2)), (3, .ref (ad E x3)), (4, .int x4), (5, .int v4)] dL_law_936 (by decide) rfl ?_
  refine AW.aload_n (pc := 938) dL_law_938 rfl 2 rfl ?_
  refine AW.aload_n (pc := 939) dL_law_939 rfl 0 rfl ?_
  refine AW.iload (pc := 940) dL_law_940 4 rfl ?_
  refine AW.iconst (pc := 942) dL_law_942 ci_1 ?_
  refine AW.iadd (pc := 943) dL_law_943 ?_
  refine AW.chk (fun g6 => ?_)
  refine AW.sld (pc := 944) dL_law_944 g6 ?_
  refine AW.aload_n (pc := 945) dL_law_945 rfl 0 rfl ?_
  refine AW.iload (pc := 946) dL_law_946 4 rfl ?_
  refine AW.iconst (pc := 948) dL_law_948 ci_2 ?_
  refine AW.iadd (pc := 949) dL_law_949 ?_
  refine AW.chk (fun g7 => ?_)
  refine AW.sld (pc := 950) dL_law_950 g7 ?_
  refine AW.aload_n (pc := 951) dL_law_951 rfl 0 rfl ?_
  refine AW.iload (pc := 952) dL_law_952 4 rfl ?_
  refine AW.iconst (pc := 954) dL_law_954 ci_3 ?_
  refine AW.iadd (pc := 955) dL_law_955 ?_
  refine AW.chk (fun g8 => ?_)
  refine AW.sld (pc := 956) dL_law_956 g8 ?_
  refine AW.chk (fun g11 => ?_)
  refine AW.cV3i (pc := 957) dL_law_957 mlL_162 mbX12_cases rfl g11 (kct g11 rfl (Nat.le_refl 111)) (fun _ => okR_L (by decide) (by omega) (by omega)) (kX12_cases l E 1000 (by decide) 111 (Nat.le_refl 111) false x2 (xs (Int32.toNatClampNeg (x4 + 1))) (xs (Int32.toNatClampNeg (x4 + 2))) (xs (Int32.toNatClampNeg (x4 + 3))) M5) (Nat.le_of_ble_eq_true rfl) (fun v9 M10 => ?_)
  refine AW.istore (pc := 960) [1, 2, 3, 4, 5, 6, 0] [(0, .ref b), (1, .ref (ad E x1)), (2, .ref (ad E x2)), (3, .ref (ad E x3)), (4, .int x4), (5, .int v4), (6, .int v9)] dL_law_960 (by decide) rfl ?_
  refine AW.aload_n (pc := 962) dL_law_962 rfl 2 rfl ?_
  refine AW.cV0i (pc := 963) dL_law_963 mlL_125 mbX12_thrown rfl g11 (kct g11 rfl (Nat.le_refl 111)) (fun _ => okR_L (by decide) (by omega) (by omega)) (kX12_thrown l E 1000 (by decide) 111 (Nat.le_refl 111) false x2 M10) (Nat.le_of_ble_eq_true rfl) (fun v12 M13 => ?_)
  refine AW.iload (pc := 966) dL_law_966 5 rfl ?_
  refine AW.icmp_eq (pc := 968) 973 dL_law_968 (by decide) (fun h14 => ?_) (fun h14 => ?_)
  · refine AW.iload (pc := 973) dL_law_973 5 rfl ?_
    refine AW.if_ne (pc := 975) 990 dL_law_975 (by decide) (fun h15 => ?_) (fun h15 => ?_)
    · refine AW.aload_n (pc := 978) dL_law_978 rfl 3 rfl ?_
      refine AW.iconst (pc := 979) dL_law_979 ci_0 ?_
      refine AW.chk (fun g16 => ?_)
      refine AW.lald (pc := 980) dL_law_980 (k0e g16.1) (kct (k0e g16.1) rfl (Nat.le_refl 111)) g16.2 ?_
      refine AW.iload (pc := 981) dL_law_981 6 rfl ?_
      refine AW.i2l (pc := 983) dL_law_983 ?_
      refine AW.lcmp (pc := 984) dL_law_984 ?_
      refine AW.if_eq (pc := 985) 990 dL_law_985 (by decide) (fun h17 => ?_) (fun h17 => ?_)
      · exact AW.sub [0, 1, 2, 3, 4] rfl (kL_law_B990 l E hst Z hZ b L xs (ce + 1) (sl + 6) (by omega) (by omega) KK23 hKK23 x1 x2 x3 x4 M13)
      · refine AW.iconst (pc := 988) dL_law_988 ci_0 ?_
        exact AW.lend0 (pc := 989) (by decide)
    · exact AW.sub [0, 1, 2, 3, 4] rfl (kL_law_B990 l E hst Z hZ b L xs (ce + 1) (sl + 6) (by omega) (by omega) KK23 hKK23 x1 x2 x3 x4 M13)
  · refine AW.iconst (pc := 971) dL_law_971 ci_0 ?_
    exact AW.lend0 (pc := 972) (by decide)
set_option maxRecDepth 20000 in
set_option maxHeartbeats 4000000 in
theorem kL_law_B910 (l : Launch) (E : Ev) (hst : l.stackTraces = false) (Z : List Frame → Array Value → State → State → Prop) (hZ : LEnd l Z) (b L : Nat) (xs : Nat → Int32) (ce sl : Nat) (hce : ce ≤ 601024) (hsl : sl ≤ 7293034) (KK23 : Nat → Nat → Nat → Int32 → Mem → Option (Int32 × Mem)) (hKK23 : ∀ (x1 : Nat) (x2 : Nat) (x3 : Nat) (x4 : Int32) (M : Mem), AW l E fL_law (fun _ => room_1) (PQL Z E b L xs) 111 false ce sl 23 [(0, .ref b), (1, .ref (ad E x1)), (2, .ref (ad E x2)), (3, .ref (ad E x3)), (4, .int x4)] [] M (KK23 x1 x2 x3 x4 M)) (x1 : Nat) (x2 : Nat) (x3 : Nat) (x4 : Int32) (M : Mem) : AW l E fL_law (fun _ => room_1) (PQL Z E b L xs) 111 false ce sl 910 [(0, .ref b), (1, .ref (ad E x1)), (2, .ref (ad E x2)), (3, .ref (ad E x3)), (4, .int x4)] [] M (zL_law_B910 L xs KK23 x1 x2 x3 x4 M) := by
  unfold zL_law_B910
  refine AW.goto (pc := 910) 2480 dL_law_910 (by decide) ?_
  exact (kL_law_B2480 l E hst Z hZ b L xs ce sl (by omega) (by omega) KK23 hKK23 x1 x2 x3 x4 M)
set_option maxRecDepth 20000 in
set_option maxHeartbeats 4000000 in
theorem kL_law_B833 (l : Launch) (E : Ev) (hst : l.stackTraces = false) (Z : List Frame → Array Value → State → State → Prop) (hZ : LEnd l Z) (b L : Nat) (xs : Nat → Int32) (ce sl : Nat) (hce : ce + 1 ≤ 601024) (hsl : sl + 6 ≤ 7293034) (KK23 : Nat → Nat → Nat → Int32 → Mem → Option (Int32 × Mem)) (hKK23 : ∀ (x1 : Nat) (x2 : Nat) (x3 : Nat) (x4 : Int32) (M : Mem), AW l E fL_law (fun _ => room_1) (PQL Z E b L xs) 111 false (ce + 1) (sl + 6) 23 [(0, .ref b), (1, .ref (ad E x1)), (2, .ref (ad E x2)), (3, .ref (ad E x3)), (4, .int x4)] [] M (KK23 x1 x2 x3 x4 M)) (x1 : Nat) (x2 : Nat) (x3 : Nat) (x4 : Int32) (M : Mem) : AW l E fL_law (fun _ => room_1) (PQL Z E b L xs) 111 false ce sl 833 [(0, .ref b), (1, .ref (ad E x1)), (2, .ref (ad E x2)), (3, .ref (ad E x3)), (4, .int x4)] [] M (zL_law_B833 L xs KK23 x1 x2 x3 x4 M) := by
  unfold zL_law_B833
  refine AW.aload_n (pc := 833) dL_law_833 rfl 1 rfl ?_
  refine AW.aload_n (pc := 834) dL_law_834 rfl 0 rfl ?_
  refine AW.iload (pc := 835) dL_law_835 4 rfl ?_
  refine AW.iconst (pc := 837) dL_law_837 ci_1 ?_
  refine AW.iadd (pc := 838) dL_law_838 ?_
  refine AW.chk (fun g1 => ?_)
  refine AW.sld (pc := 839) dL_law_839 g1 ?_
  refine AW.aload_n (pc := 840) dL_law_840 rfl 0 rfl ?_
  refine AW.iload (pc := 841) dL_law_841 4 rfl ?_
  refine AW.iconst (pc := 843) dL_law_843 ci_2 ?_
  refine AW.iadd (pc := 844) dL_law_844 ?_
  refine AW.chk (fun g2 => ?_)
  refine AW.sld (pc := 845) dL_law_845 g2 ?_
  refine AW.aload_n (pc := 846) dL_law_846 rfl 0 rfl ?_
  refine AW.iload (pc := 847) dL_law_847 4 rfl ?_
  refine AW.iconst (pc := 849) dL_law_849 ci_3 ?_
  refine AW.iadd (pc := 850) dL_law_850 ?_
  refine AW.chk (fun g3 => ?_)
  refine AW.sld (pc := 851) dL_law_851 g3 ?_
  refine AW.aload_n (pc := 852) dL_law_852 rfl 3 rfl ?_
  refine AW.callW [.ref (ad E x1), .int (xs (Int32.toNatClampNeg (x4 + 1))), .int (xs (Int32.toNatClampNeg (x4 + 2))), .int (xs (Int32.toNatClampNeg (x4 + 3))), .ref (ad E x3)] [] (pc := 853) dL_law_853 mlL_157 mwL_coin rfl rfl (fun _ => okR_L (by decide) (by omega) (by omega)) (kL_coin l E hst 1000 (by decide) 111 (Nat.le_refl 111) x1 (xs (Int32.toNatClampNeg (x4 + 1))) (xs (Int32.toNatClampNeg (x4 + 2))) (xs (Int32.toNatClampNeg (x4 + 3))) x3 M) rfl (Nat.le_of_ble_eq_true rfl) (fun v4 M5 => ?_)
  refine AW.istore (pc := 856) [1, 2, 3, 4, 5, 0] [(0, .ref b), (1, .ref (ad E x1)), (2, .ref (ad E x2)), (3, .ref (ad E x3)), (4, .int x4), (5, .int v4)] dL_law_856 (by decide) rfl ?_
  refine AW.aload_n (pc := 858) dL_law_858 rfl 2 rfl ?_
  refine AW.aload_n (pc := 859) dL_law_859 rfl 0 rfl ?_
  refine AW.iload (pc := 860) dL_law_860 4 rfl ?_
  refine AW.iconst (pc := 862) dL_law_862 ci_1 ?_
  refine AW.iadd (pc := 863) dL_law_863 ?_
  refine AW.chk (fun g6 => ?_)
  refine AW.sld (pc := 864) dL_law_864 g6 ?_
  refine AW.aload_n (pc := 865) dL_law_865 rfl 0 rfl ?_
  refine AW.iload (pc := 866) dL_law_866 4 rfl ?_
  refine AW.iconst (pc := 868) dL_law_868 ci_2 ?_
  refine AW.iadd (pc := 869) dL_law_869 ?_
  refine AW.chk (fun g7 => ?_)
  refine AW.sld (pc := 870) dL_law_870 g7 ?_
  refine AW.aload_n (pc := 871) dL_law_871 rfl 0 rfl ?_
  refine AW.iload (pc := 872) dL_law_872 4 rfl ?_
  refine AW.iconst (pc := 874) dL_law_874 ci_3 ?_
  refine AW.iadd (pc := 875) dL_law_875 ?_
  refine AW.chk (fun g8 => ?_)
  refine AW.sld (pc := 876) dL_law_876 g8 ?_
  refine AW.chk (fun g11 => ?_)
  refine AW.cV3i (pc := 877) dL_law_877 mlL_159 mbX12_coin rfl g11 (kct g11 rfl (Nat.le_refl 111)) (fun _ => okR_L (by decide) (by omega) (by omega)) (kX12_coin l E 1000 (by decide) 111 (Nat.le_refl 111) false x2 (xs (Int32.toNatClampNeg (x4 + 1))) (xs (Int32.toNatClampNeg (x4 + 2))) (xs (Int32.toNatClampNeg (x4 + 3))) M5) (Nat.le_of_ble_eq_true rfl) (fun v9 M10 => ?_)
  refine AW.istore (pc := 880) [1, 2, 3, 4, 5, 6, 0] [(0, .ref b), (1, .ref (ad E x1)), (2, .ref (ad E x2)), (3, .ref (ad E x3)), (4, .int x4), (5, .int v4), (6, .int v9)] dL_law_880 (by decide) rfl ?_
  refine AW.aload_n (pc := 882) dL_law_882 rfl 2 rfl ?_
  refine AW.cV0i (pc := 883) dL_law_883 mlL_125 mbX12_thrown rfl g11 (kct g11 rfl (Nat.le_refl 111)) (fun _ => okR_L (by decide) (by omega) (by omega)) (kX12_thrown l E 1000 (by decide) 111 (Nat.le_refl 111) false x2 M10) (Nat.le_of_ble_eq_true rfl) (fun v12 M13 => ?_)
  refine AW.iload (pc := 886) dL_law_886 5 rfl ?_
  refine AW.icmp_eq (pc := 888) 893 dL_law_888 (by decide) (fun h14 => ?_) (fun h14 => ?_)
  · refine AW.iload (pc := 893) dL_law_893 5 rfl ?_
    refine AW.if_ne (pc := 895) 910 dL_law_895 (by decide) (fun h15 => ?_) (fun h15 => ?_)
    · refine AW.aload_n (pc := 898) dL_law_898 rfl 3 rfl ?_
      refine AW.iconst (pc := 899) dL_law_899 ci_0 ?_
      refine AW.chk (fun g16 => ?_)
      refine AW.lald (pc := 900) dL_law_900 (k0e g16.1) (kct (k0e g16.1) rfl (Nat.le_refl 111)) g16.2 ?_
      refine AW.iload (pc := 901) dL_law_901 6 rfl ?_
      refine AW.i2l (pc := 903) dL_law_903 ?_
      refine AW.lcmp (pc := 904) dL_law_904 ?_
      refine AW.if_eq (pc := 905) 910 dL_law_905 (by decide) (fun h17 => ?_) (fun h17 => ?_)
      · exact AW.sub [0, 1, 2, 3, 4] rfl (kL_law_B910 l E hst Z hZ b L xs (ce + 1) (sl + 6) (by omega) (by omega) KK23 hKK23 x1 x2 x3 x4 M13)
      · refine AW.iconst (pc := 908) dL_law_908 ci_0 ?_
        exact AW.lend0 (pc := 909) (by decide)
    · exact AW.sub [0, 1, 2, 3, 4] rfl (kL_law_B910 l E hst Z hZ b L xs (ce + 1) (sl + 6) (by omega) (by omega) KK23 hKK23 x1 x2 x3 x4 M13)
  · refine AW.iconst (pc := 891) dL_law_891 ci_0 ?_
    exact AW.lend0 (pc := 892) (by decide)
set_option maxRecDepth 20000 in
set_option maxHeartbeats 4000000 in
theorem kL_law_B830 (l : Launch) (E : Ev) (hst : l.stackTraces = false) (Z : List Frame → Array Value → State → State → Prop) (hZ : LEnd l Z) (b L : Nat) (xs : Nat → Int32) (ce sl : Nat) (hce : ce ≤ 601024) (hsl : sl ≤ 7293034) (KK23 : Nat → Nat → Nat → Int32 → Mem → Option (Int32 × Mem)) (hKK23 : ∀ (x1 : Nat) (x2 : Nat) (x3 : Nat) (x4 : Int32) (M : Mem), AW l E fL_law (fun _ => room_1) (PQL Z E b L xs) 111 false ce sl 23 [(0, .ref b), (1, .ref (ad E x1)), (2, .ref (ad E x2)), (3, .ref (ad E x3)), (4, .int x4)] [] M (KK23 x1 x2 x3 x4 M)) (x1 : Nat) (x2 : Nat) (x3 : Nat) (x4 : Int32) (M : Mem) : AW l E fL_law (fun _ => room_1) (PQL Z E b L xs) 111 false ce sl 830 [(0, .ref b), (1, .ref (ad E x1)), (2, .ref (ad E x2)), (3, .ref (ad E x3)), (4, .int x4)] [] M (zL_law_B830 L xs KK23 x1 x2 x3 x4 M) := by
  unfold zL_law_B830
  refine AW.goto (pc := 830) 2480 dL_law_830 (by decide) ?_
  exact (kL_law_B2480 l E hst Z hZ b L xs ce sl (by omega) (by omega) KK23 hKK23 x1 x2 x3 x4 M)
set_option maxRecDepth 20000 in
set_option maxHeartbeats 4000000 in
theorem kL_law_B824 (l : Launch) (E : Ev) (hst : l.stackTraces = false) (Z : List Frame → Array Value → State → State → Prop) (hZ : LEnd l Z) (b L : Nat) (xs : Nat → Int32) (ce sl : Nat) (hce : ce ≤ 601024) (hsl : sl ≤ 7293034) (KK23 : Nat → Nat → Nat → Int32 → Mem → Option (Int32 × Mem)) (hKK23 : ∀ (x1 : Nat) (x2 : Nat) (x3 : Nat) (x4 : Int32) (M : Mem), AW l E fL_law (fun _ => room_1) (PQL Z E b L xs) 111 false ce sl 23 [(0, .ref b), (1, .ref (ad E x1)), (2, .ref (ad E x2)), (3, .ref (ad E x3)), (4, .int x4)] [] M (KK23 x1 x2 x3 x4 M)) (x1 : Nat) (x2 : Nat) (x3 : Nat) (x4 : Int32) (s0 : Int64) (s1 : Int64) (M : Mem) : AW l E fL_law (fun _ => room_1) (PQL Z E b L xs) 111 false ce sl 824 [(0, .ref b), (1, .ref (ad E x1)), (2, .ref (ad E x2)), (3, .ref (ad E x3)), (4, .int x4)] [.long s1, .long s0] M (zL_law_B824 L xs KK23 x1 x2 x3 x4 s0 s1 M) := by
  unfold zL_law_B824
  refine AW.lcmp (pc := 824) dL_law_824 ?_
  refine AW.if_eq (pc := 825) 830 dL_law_825 (by decide) (fun h1 => ?_) (fun h1 => ?_)
  · exact (kL_law_B830 l E hst Z hZ b L xs ce sl (by omega) (by omega) KK23 hKK23 x1 x2 x3 x4 M)
  · refine AW.iconst (pc := 828) dL_law_828 ci_0 ?_
    exact AW.lend0 (pc := 829) (by decide)
set_option maxRecDepth 20000 in
set_option maxHeartbeats 4000000 in
theorem kL_law_B758 (l : Launch) (E : Ev) (hst : l.stackTraces = false) (Z : List Frame → Array Value → State → State → Prop) (hZ : LEnd l Z) (b L : Nat) (xs : Nat → Int32) (ce sl : Nat) (hce : ce + 1 ≤ 601024) (hsl : sl + 6 ≤ 7293034) (KK23 : Nat → Nat → Nat → Int32 → Mem → Option (Int32 × Mem)) (hKK23 : ∀ (x1 : Nat) (x2 : Nat) (x3 : Nat) (x4 : Int32) (M : Mem), AW l E fL_law (fun _ => room_1) (PQL Z E b L xs) 111 false (ce + 1) (sl + 6) 23 [(0, .ref b), (1, .ref (ad E x1)), (2, .ref (ad E x2)), (3, .ref (ad E x3)), (4, .int x4)] [] M (KK23 x1 x2 x3 x4 M)) (x1 : Nat) (x2 : Nat) (x3 : Nat) (x4 : Int32) (M : Mem) : AW l E fL_law (fun _ => room_1) (PQL Z E b L xs) 111 false ce sl 758 [(0, .ref b), (1, .ref (ad E x1)), (2, .ref (ad E x2)), (3, .ref (ad E x3)), (4, .int x4)] [] M (zL_law_B758 L xs KK23 x1 x2 x3 x4 M) := by
  unfold zL_law_B758
  refine AW.aload_n (pc := 758) dL_law_758 rfl 1 rfl ?_
  refine AW.aload_n (pc := 759) dL_law_759 rfl 0 rfl ?_
  refine AW.iload (pc := 760) dL_law_760 4 rfl ?_
  refine AW.iconst (pc := 762) dL_law_762 ci_1 ?_
  refine AW.iadd (pc := 763) dL_law_763 ?_
  refine AW.chk (fun g1 => ?_)
  refine AW.sld (pc := 764) dL_law_764 g1 ?_
  refine AW.aload_n (pc := 765) dL_law_765 rfl 0 rfl ?_
  refine AW.iload (pc := 766) dL_law_766 4 rfl ?_
  refine AW.iconst (pc := 768) dL_law_768 ci_2 ?_
  refine AW.iadd (pc := 769) dL_law_769 ?_
  refine AW.chk (fun g2 => ?_)
  refine AW.sld (pc := 770) dL_law_770 g2 ?_
  refine AW.aload_n (pc := 771) dL_law_771 rfl 3 rfl ?_
  refine AW.callW [.ref (ad E x1), .int (xs (Int32.toNatClampNeg (x4 + 1))), .int (xs (Int32.toNatClampNeg (x4 + 2))), .ref (ad E x3)] [] (pc := 772) dL_law_772 mlL_154 mwL_set rfl rfl (fun _ => okR_L (by decide) (by omega) (by omega)) (kL_set l E hst 1000 (by decide) 111 (Nat.le_refl 111) x1 (xs (Int32.toNatClampNeg (x4 + 1))) (xs (Int32.toNatClampNeg (x4 + 2))) x3 M) rfl (Nat.le_of_ble_eq_true rfl) (fun v3 M4 => ?_)
  refine AW.istore (pc := 775) [1, 2, 3, 4, 5, 0] [(0, .ref b), (1, .ref (ad E x1)), (2, .ref (ad E x2)), (3, .ref (ad E x3)), (4, .int x4), (5, .int v3)] dL_law_775 (by decide) rfl ?_
  refine AW.aload_n (pc := 777) dL_law_777 rfl 2 rfl ?_
  refine AW.aload_n (pc := 778) dL_law_778 rfl 0 rfl ?_
  refine AW.iload (pc := 779) dL_law_779 4 rfl ?_
  refine AW.iconst (pc := 781) dL_law_781 ci_1 ?_
  refine AW.iadd (pc := 782) dL_law_782 ?_
  refine AW.chk (fun g5 => ?_)
  refine AW.sld (pc := 783) dL_law_783 g5 ?_
  refine AW.aload_n (pc := 784) dL_law_784 rfl 0 rfl ?_
  refine AW.iload (pc := 785) dL_law_785 4 rfl ?_
  refine AW.iconst (pc := 787) dL_law_787 ci_2 ?_
  refine AW.iadd (pc := 788) dL_law_788 ?_
  refine AW.chk (fun g6 => ?_)
  refine AW.sld (pc := 789) dL_law_789 g6 ?_
  refine AW.chk (fun g9 => ?_)
  refine AW.cV2i (pc := 790) dL_law_790 mlL_156 mbX12_set rfl g9 (kct g9 rfl (Nat.le_refl 111)) (fun _ => okR_L (by decide) (by omega) (by omega)) (kX12_set l E 1000 (by decide) 111 (Nat.le_refl 111) false x2 (xs (Int32.toNatClampNeg (x4 + 1))) (xs (Int32.toNatClampNeg (x4 + 2))) M4) (Nat.le_of_ble_eq_true rfl) (fun v7 M8 => ?_)
  refine AW.istore (pc := 793) [1, 2, 3, 4, 5, 6, 0] [(0, .ref b), (1, .ref (ad E x1)), (2, .ref (ad E x2)), (3, .ref (ad E x3)), (4, .int x4), (5, .int v3), (6, .int v7)] dL_law_793 (by decide) rfl ?_
  refine AW.aload_n (pc := 795) dL_law_795 rfl 2 rfl ?_
  refine AW.cV0i (pc := 796) dL_law_796 mlL_125 mbX12_thrown rfl g9 (kct g9 rfl (Nat.le_refl 111)) (fun _ => okR_L (by decide) (by omega) (by omega)) (kX12_thrown l E 1000 (by decide) 111 (Nat.le_refl 111) false x2 M8) (Nat.le_of_ble_eq_true rfl) (fun v10 M11 => ?_)
  refine AW.iload (pc := 799) dL_law_799 5 rfl ?_
  refine AW.icmp_eq (pc := 801) 806 dL_law_801 (by decide) (fun h12 => ?_) (fun h12 => ?_)
  · refine AW.iload (pc := 806) dL_law_806 5 rfl ?_
    refine AW.if_ne (pc := 808) 830 dL_law_808 (by decide) (fun h13 => ?_) (fun h13 => ?_)
    · refine AW.aload_n (pc := 811) dL_law_811 rfl 3 rfl ?_
      refine AW.iconst (pc := 812) dL_law_812 ci_0 ?_
      refine AW.chk (fun g14 => ?_)
      refine AW.lald (pc := 813) dL_law_813 (k0e g14.1) (kct (k0e g14.1) rfl (Nat.le_refl 111)) g14.2 ?_
      refine AW.iload (pc := 814) dL_law_814 6 rfl ?_
      refine AW.if_eq (pc := 816) 823 dL_law_816 (by decide) (fun h15 => ?_) (fun h15 => ?_)
      · refine AW.lconst (pc := 823) dL_law_823 cl_0 ?_
        exact AW.sub [0, 1, 2, 3, 4] rfl (kL_law_B824 l E hst Z hZ b L xs (ce + 1) (sl + 6) (by omega) (by omega) KK23 hKK23 x1 x2 x3 x4 (mL M11 x3 (Int32.toNatClampNeg 0)) 0 M11)
      · refine AW.lconst (pc := 819) dL_law_819 cl_1 ?_
        refine AW.goto (pc := 820) 824 dL_law_820 (by decide) ?_
        exact AW.sub [0, 1, 2, 3, 4] rfl (kL_law_B824 l E hst Z hZ b L xs (ce + 1) (sl + 6) (by omega) (by omega) KK23 hKK23 x1 x2 x3 x4 (mL M11 x3 (Int32.toNatClampNeg 0)) 1 M11)
    · exact AW.sub [0, 1, 2, 3, 4] rfl (kL_law_B830 l E hst Z hZ b L xs (ce + 1) (sl + 6) (by omega) (by omega) KK23 hKK23 x1 x2 x3 x4 M11)
  · refine AW.iconst (pc := 804) dL_law_804 ci_0 ?_
    exact AW.lend0 (pc := 805) (by decide)
set_option maxRecDepth 20000 in
set_option maxHeartbeats 4000000 in
theorem kL_law_B710 (l : Launch) (E : Ev) (hst : l.stackTraces = false) (Z : List Frame → Array Value → State → State → Prop) (hZ : LEnd l Z) (b L : Nat) (xs : Nat → Int32) (ce sl : Nat) (hce : ce + 1 ≤ 601024) (hsl : sl + 6 ≤ 7293034) (KK23 : Nat → Nat → Nat → Int32 → Mem → Option (Int32 × Mem)) (hKK23 : ∀ (x1 : Nat) (x2 : Nat) (x3 : Nat) (x4 : Int32) (M : Mem), AW l E fL_law (fun _ => room_1) (PQL Z E b L xs) 111 false (ce + 1) (sl + 6) 23 [(0, .ref b), (1, .ref (ad E x1)), (2, .ref (ad E x2)), (3, .ref (ad E x3)), (4, .int x4)] [] M (KK23 x1 x2 x3 x4 M)) (x1 : Nat) (x2 : Nat) (x3 : Nat) (x4 : Int32) (M : Mem) : AW l E fL_law (fun _ => room_1) (PQL Z E b L xs) 111 false ce sl 710 [(0, .ref b), (1, .ref (ad E x1)), (2, .ref (ad E x2)), (3, .ref (ad E x3)), (4, .int x4)] [] M (zL_law_B710 L xs KK23 x1 x2 x3 x4 M) := by
  unfold zL_law_B710
  refine AW.aload_n (pc := 710) dL_law_710 rfl 1 rfl ?_
  refine AW.aload_n (pc := 711) dL_law_711 rfl 0 rfl ?_
  refine AW.iload (pc := 712) dL_law_712 4 rfl ?_
  refine AW.iconst (pc := 714) dL_law_714 ci_1 ?_
  refine AW.iadd (pc := 715) dL_law_715 ?_
  refine AW.chk (fun g1 => ?_)
  refine AW.sld (pc := 716) dL_law_716 g1 ?_
  refine AW.aload_n (pc := 717) dL_law_717 rfl 0 rfl ?_
  refine AW.iload (pc := 718) dL_law_718 4 rfl ?_
  refine AW.iconst (pc := 720) dL_law_720 ci_2 ?_
  refine AW.iadd (pc := 721) dL_law_721 ?_
  refine AW.chk (fun g2 => ?_)
  refine AW.sld (pc := 722) dL_law_722 g2 ?_
  refine AW.callW [.ref (ad E x1), .int (xs (Int32.toNatClampNeg (x4 + 1))), .int (xs (Int32.toNatClampNeg (x4 + 2)))] [] (pc := 723) dL_law_723 mlL_150 mwL_seed rfl rfl (fun _ => okR_L (by decide) (by omega) (by omega)) (kL_seed l E hst 1000 (by decide) 111 (Nat.le_refl 111) x1 (xs (Int32.toNatClampNeg (x4 + 1))) (xs (Int32.toNatClampNeg (x4 + 2))) M) rfl (Nat.le_of_ble_eq_true rfl) (fun v3 M4 => ?_)
  refine AW.istore (pc := 726) [1, 2, 3, 4, 5, 0] [(0, .ref b), (1, .ref (ad E x1)), (2, .ref (ad E x2)), (3, .ref (ad E x3)), (4, .int x4), (5, .int v3)] dL_law_726 (by decide) rfl ?_
  refine AW.aload_n (pc := 728) dL_law_728 rfl 2 rfl ?_
  refine AW.aload_n (pc := 729) dL_law_729 rfl 0 rfl ?_
  refine AW.iload (pc := 730) dL_law_730 4 rfl ?_
  refine AW.iconst (pc := 732) dL_law_732 ci_1 ?_
  refine AW.iadd (pc := 733) dL_law_733 ?_
  refine AW.chk (fun g5 => ?_)
  refine AW.sld (pc := 734) dL_law_734 g5 ?_
  refine AW.aload_n (pc := 735) dL_law_735 rfl 0 rfl ?_
  refine AW.iload (pc := 736) dL_law_736 4 rfl ?_
  refine AW.iconst (pc := 738) dL_law_738 ci_2 ?_
  refine AW.iadd (pc := 739) dL_law_739 ?_
  refine AW.chk (fun g6 => ?_)
  refine AW.sld (pc := 740) dL_law_740 g6 ?_
  refine AW.chk (fun g8 => ?_)
  refine AW.cV2v (pc := 741) dL_law_741 mlL_153 mbX12_seed rfl g8 (kct g8 rfl (Nat.le_refl 111)) (fun _ => okR_L (by decide) (by omega) (by omega)) (kX12_seed l E 1000 (by decide) 111 (Nat.le_refl 111) false x2 (xs (Int32.toNatClampNeg (x4 + 1))) (xs (Int32.toNatClampNeg (x4 + 2))) M4) (Nat.le_of_ble_eq_true rfl) (fun _ M7 => ?_)
  refine AW.aload_n (pc := 744) dL_law_744 rfl 2 rfl ?_
  refine AW.cV0i (pc := 745) dL_law_745 mlL_125 mbX12_thrown rfl g8 (kct g8 rfl (Nat.le_refl 111)) (fun _ => okR_L (by decide) (by omega) (by omega)) (kX12_thrown l E 1000 (by decide) 111 (Nat.le_refl 111) false x2 M7) (Nat.le_of_ble_eq_true rfl) (fun v9 M10 => ?_)
  refine AW.iload (pc := 748) dL_law_748 5 rfl ?_
  refine AW.icmp_eq (pc := 750) 755 dL_law_750 (by decide) (fun h11 => ?_) (fun h11 => ?_)
  · refine AW.goto (pc := 755) 2480 dL_law_755 (by decide) ?_
    exact AW.sub [0, 1, 2, 3, 4] rfl (kL_law_B2480 l E hst Z hZ b L xs (ce + 1) (sl + 6) (by omega) (by omega) KK23 hKK23 x1 x2 x3 x4 M10)
  · refine AW.iconst (pc := 753) dL_law_753 ci_0 ?_
    exact AW.lend0 (pc := 754) (by decide)
set_option maxRecDepth 20000 in
set_option maxHeartbeats 4000000 in
theorem kL_law_B707 (l : Launch) (E : Ev) (hst : l.stackTraces = false) (Z : List Frame → Array Value → State → State → Prop) (hZ : LEnd l Z) (b L : Nat) (xs : Nat → Int32) (ce sl : Nat) (hce : ce ≤ 601024) (hsl : sl ≤ 7293034) (KK23 : Nat → Nat → Nat → Int32 → Mem → Option (Int32 × Mem)) (hKK23 : ∀ (x1 : Nat) (x2 : Nat) (x3 : Nat) (x4 : Int32) (M : Mem), AW l E fL_law (fun _ => room_1) (PQL Z E b L xs) 111 false ce sl 23 [(0, .ref b), (1, .ref (ad E x1)), (2, .ref (ad E x2)), (3, .ref (ad E x3)), (4, .int x4)] [] M (KK23 x1 x2 x3 x4 M)) (x1 : Nat) (x2 : Nat) (x3 : Nat) (x4 : Int32) (M : Mem) : AW l E fL_law (fun _ => room_1) (PQL Z E b L xs) 111 false ce sl 707 [(0, .ref b), (1, .ref (ad E x1)), (2, .ref (ad E x2)), (3, .ref (ad E x3)), (4, .int x4)] [] M (zL_law_B707 L xs KK23 x1 x2 x3 x4 M) := by
  unfold zL_law_B707
  refine AW.goto (pc := 707) 2480 dL_law_707 (by decide) ?_
  exact (kL_law_B2480 l E hst Z hZ b L xs ce sl (by omega) (by omega) KK23 hKK23 x1 x2 x3 x4 M)
set_option maxRecDepth 20000 in
set_option maxHeartbeats 4000000 in
theorem kL_law_B630 (l : Launch) (E : Ev) (hst : l.stackTraces = false) (Z : List Frame → Array Value → State → State → Prop) (hZ : LEnd l Z) (b L : Nat) (xs : Nat → Int32) (ce sl : Nat) (hce : ce + 1 ≤ 601024) (hsl : sl + 6 ≤ 7293034) (KK23 : Nat → Nat → Nat → Int32 → Mem → Option (Int32 × Mem)) (hKK23 : ∀ (x1 : Nat) (x2 : Nat) (x3 : Nat) (x4 : Int32) (M : Mem), AW l E fL_law (fun _ => room_1) (PQL Z E b L xs) 111 false (ce + 1) (sl + 6) 23 [(0, .ref b), (1, .ref (ad E x1)), (2, .ref (ad E x2)), (3, .ref (ad E x3)), (4, .int x4)] [] M (KK23 x1 x2 x3 x4 M)) (x1 : Nat) (x2 : Nat) (x3 : Nat) (x4 : Int32) (M : Mem) : AW l E fL_law (fun _ => room_1) (PQL Z E b L xs) 111 false ce sl 630 [(0, .ref b), (1, .ref (ad E x1)), (2, .ref (ad E x2)), (3, .ref (ad E x3)), (4, .int x4)] [] M (zL_law_B630 L xs KK23 x1 x2 x3 x4 M) := by
  unfold zL_law_B630
  refine AW.aload_n (pc := 630) dL_law_630 rfl 1 rfl ?_
  refine AW.aload_n (pc := 631) dL_law_631 rfl 0 rfl ?_
  refine AW.iload (pc := 632) dL_law_632 4 rfl ?_
  refine AW.iconst (pc := 634) dL_law_634 ci_1 ?_
  refine AW.iadd (pc := 635) dL_law_635 ?_
  refine AW.chk (fun g1 => ?_)
  refine AW.sld (pc := 636) dL_law_636 g1 ?_
  refine AW.aload_n (pc := 637) dL_law_637 rfl 0 rfl ?_
  refine AW.iload (pc := 638) dL_law_638 4 rfl ?_
  refine AW.iconst (pc := 640) dL_law_640 ci_2 ?_
  refine AW.iadd (pc := 641) dL_law_641 ?_
  refine AW.chk (fun g2 => ?_)
  refine AW.sld (pc := 642) dL_law_642 g2 ?_
  refine AW.aload_n (pc := 643) dL_law_643 rfl 0 rfl ?_
  refine AW.iload (pc := 644) dL_law_644 4 rfl ?_
  refine AW.iconst (pc := 646) dL_law_646 ci_3 ?_
  refine AW.iadd (pc := 647) dL_law_647 ?_
  refine AW.chk (fun g3 => ?_)
  refine AW.sld (pc := 648) dL_law_648 g3 ?_
  refine AW.aload_n (pc := 649) dL_law_649 rfl 3 rfl ?_
  refine AW.callW [.ref (ad E x1), .int (xs (Int32.toNatClampNeg (x4 + 1))), .int (xs (Int32.toNatClampNeg (x4 + 2))), .int (xs (Int32.toNatClampNeg (x4 + 3))), .ref (ad E x3)] [] (pc := 650) dL_law_650 mlL_147 mwL_next rfl rfl (fun _ => okR_L (by decide) (by omega) (by omega)) (kL_next l E hst 1000 (by decide) 111 (Nat.le_refl 111) x1 (xs (Int32.toNatClampNeg (x4 + 1))) (xs (Int32.toNatClampNeg (x4 + 2))) (xs (Int32.toNatClampNeg (x4 + 3))) x3 M) rfl (Nat.le_of_ble_eq_true rfl) (fun v4 M5 => ?_)
  refine AW.istore (pc := 653) [1, 2, 3, 4, 5, 0] [(0, .ref b), (1, .ref (ad E x1)), (2, .ref (ad E x2)), (3, .ref (ad E x3)), (4, .int x4), (5, .int v4)] dL_law_653 (by decide) rfl ?_
  refine AW.aload_n (pc := 655) dL_law_655 rfl 2 rfl ?_
  refine AW.aload_n (pc := 656) dL_law_656 rfl 0 rfl ?_
  refine AW.iload (pc := 657) dL_law_657 4 rfl ?_
  refine AW.iconst (pc := 659) dL_law_659 ci_1 ?_
  refine AW.iadd (pc := 660) dL_law_660 ?_
  refine AW.chk (fun g6 => ?_)
  refine AW.sld (pc := 661) dL_law_661 g6 ?_
  refine AW.aload_n (pc := 662) dL_law_662 rfl 0 rfl ?_
  refine AW.iload (pc := 663) dL_law_663 4 rfl ?_
  refine AW.iconst (pc := 665) dL_law_665 ci_2 ?_
  refine AW.iadd (pc := 666) dL_law_666 ?_
  refine AW.chk (fun g7 => ?_)
  refine AW.sld (pc := 667) dL_law_667 g7 ?_
  refine AW.aload_n (pc := 668) dL_law_668 rfl 0 rfl ?_
  refine AW.iload (pc := 669) dL_law_669 4 rfl ?_
  refine AW.iconst (pc := 671) dL_law_671 ci_3 ?_
  refine AW.iadd (pc := 672) dL_law_672 ?_
  refine AW.chk (fun g8 => ?_)
  refine AW.sld (pc := 673) dL_law_673 g8 ?_
  refine AW.chk (fun g11 => ?_)
  refine AW.cV3i (pc := 674) dL_law_674 mlL_149 mbX12_next rfl g11 (kct g11 rfl (Nat.le_refl 111)) (fun _ => okR_L (by decide) (by omega) (by omega)) (kX12_next l E 1000 (by decide) 111 (Nat.le_refl 111) false x2 (xs (Int32.toNatClampNeg (x4 + 1))) (xs (Int32.toNatClampNeg (x4 + 2))) (xs (Int32.toNatClampNeg (x4 + 3))) M5) (Nat.le_of_ble_eq_true rfl) (fun v9 M10 => ?_)
  refine AW.istore (pc := 677) [1, 2, 3, 4, 5, 6, 0] [(0, .ref b), (1, .ref (ad E x1)), (2, .ref (ad E x2)), (3, .ref (ad E x3)), (4, .int x4), (5, .int v4), (6, .int v9)] dL_law_677 (by decide) rfl ?_
  refine AW.aload_n (pc := 679) dL_law_679 rfl 2 rfl ?_
  refine AW.cV0i (pc := 680) dL_law_680 mlL_125 mbX12_thrown rfl g11 (kct g11 rfl (Nat.le_refl 111)) (fun _ => okR_L (by decide) (by omega) (by omega)) (kX12_thrown l E 1000 (by decide) 111 (Nat.le_refl 111) false x2 M10) (Nat.le_of_ble_eq_true rfl) (fun v12 M13 => ?_)
  refine AW.iload (pc := 683) dL_law_683 5 rfl ?_
  refine AW.icmp_eq (pc := 685) 690 dL_law_685 (by decide) (fun h14 => ?_) (fun h14 => ?_)
  · refine AW.iload (pc := 690) dL_law_690 5 rfl ?_
    refine AW.if_ne (pc := 692) 707 dL_law_692 (by decide) (fun h15 => ?_) (fun h15 => ?_)
    · refine AW.aload_n (pc := 695) dL_law_695 rfl 3 rfl ?_
      refine AW.iconst (pc := 696) dL_law_696 ci_0 ?_
      refine AW.chk (fun g16 => ?_)
      refine AW.lald (pc := 697) dL_law_697 (k0e g16.1) (kct (k0e g16.1) rfl (Nat.le_refl 111)) g16.2 ?_
      refine AW.iload (pc := 698) dL_law_698 6 rfl ?_
      refine AW.i2l (pc := 700) dL_law_700 ?_
      refine AW.lcmp (pc := 701) dL_law_701 ?_
      refine AW.if_eq (pc := 702) 707 dL_law_702 (by decide) (fun h17 => ?_) (fun h17 => ?_)
      · exact AW.sub [0, 1, 2, 3, 4] rfl (kL_law_B707 l E hst Z hZ b L xs (ce + 1) (sl + 6) (by omega) (by omega) KK23 hKK23 x1 x2 x3 x4 M13)
      · refine AW.iconst (pc := 705) dL_law_705 ci_0 ?_
        exact AW.lend0 (pc := 706) (by decide)
    · exact AW.sub [0, 1, 2, 3, 4] rfl (kL_law_B707 l E hst Z hZ b L xs (ce + 1) (sl + 6) (by omega) (by omega) KK23 hKK23 x1 x2 x3 x4 M13)
  · refine AW.iconst (pc := 688) dL_law_688 ci_0 ?_
    exact AW.lend0 (pc := 689) (by decide)
set_option maxRecDepth 20000 in
set_option maxHeartbeats 4000000 in
theorem kL_law_B627 (l : Launch) (E : Ev) (hst : l.stackTraces = false) (Z : List Frame → Array Value → State → State → Prop) (hZ : LEnd l Z) (b L : Nat) (xs : Nat → Int32) (ce sl : Nat) (hce : ce ≤ 601024) (hsl : sl ≤ 7293034) (KK23 : Nat → Nat → Nat → Int32 → Mem → Option (Int32 × Mem)) (hKK23 : ∀ (x1 : Nat) (x2 : Nat) (x3 : Nat) (x4 : Int32) (M : Mem), AW l E fL_law (fun _ => room_1) (PQL Z E b L xs) 111 false ce sl 23 [(0, .ref b), (1, .ref (ad E x1)), (2, .ref (ad E x2)), (3, .ref (ad E x3)), (4, .int x4)] [] M (KK23 x1 x2 x3 x4 M)) (x1 : Nat) (x2 : Nat) (x3 : Nat) (x4 : Int32) (M : Mem) : AW l E fL_law (fun _ => room_1) (PQL Z E b L xs) 111 false ce sl 627 [(0, .ref b), (1, .ref (ad E x1)), (2, .ref (ad E x2)), (3, .ref (ad E x3)), (4, .int x4)] [] M (zL_law_B627 L xs KK23 x1 x2 x3 x4 M) := by
  unfold zL_law_B627
  refine AW.goto (pc := 627) 2480 dL_law_627 (by decide) ?_
  exact (kL_law_B2480 l E hst Z hZ b L xs ce sl (by omega) (by omega) KK23 hKK23 x1 x2 x3 x4 M)
set_option maxRecDepth 20000 in
set_option maxHeartbeats 4000000 in
theorem kL_law_B550 (l : Launch) (E : Ev) (hst : l.stackTraces = false) (Z : List Frame → Array Value → State → State → Prop) (hZ : LEnd l Z) (b L : Nat) (xs : Nat → Int32) (ce sl : Nat) (hce : ce + 1 ≤ 601024) (hsl : sl + 6 ≤ 7293034) (KK23 : Nat → Nat → Nat → Int32 → Mem → Option (Int32 × Mem)) (hKK23 : ∀ (x1 : Nat) (x2 : Nat) (x3 : Nat) (x4 : Int32) (M : Mem), AW l E fL_law (fun _ => room_1) (PQL Z E b L xs) 111 false (ce + 1) (sl + 6) 23 [(0, .ref b), (1, .ref (ad E x1)), (2, .ref (ad E x2)), (3, .ref (ad E x3)), (4, .int x4)] [] M (KK23 x1 x2 x3 x4 M)) (x1 : Nat) (x2 : Nat) (x3 : Nat) (x4 : Int32) (M : Mem) : AW l E fL_law (fun _ => room_1) (PQL Z E b L xs) 111 false ce sl 550 [(0, .ref b), (1, .ref (ad E x1)), (2, .ref (ad E x2)), (3, .ref (ad E x3)), (4, .int x4)] [] M (zL_law_B550 L xs KK23 x1 x2 x3 x4 M) := by
  unfold zL_law_B550
  refine AW.aload_n (pc := 550) dL_law_550 rfl 1 rfl ?_
  refine AW.aload_n (pc := 551) dL_law_551 rfl 0 rfl ?_
  refine AW.iload (pc := 552) dL_law_552 4 rfl ?_
  refine AW.iconst (pc := 554) dL_law_554 ci_1 ?_
  refine AW.iadd (pc := 555) dL_law_555 ?_
  refine AW.chk (fun g1 => ?_)
  refine AW.sld (pc := 556) dL_law_556 g1 ?_
  refine AW.aload_n (pc := 557) dL_law_557 rfl 0 rfl ?_
  refine AW.iload (pc := 558) dL_law_558 4 rfl ?_
  refine AW.iconst (pc := 560) dL_law_560 ci_2 ?_
  refine AW.iadd (pc := 561) dL_law_561 ?_
  refine AW.chk (fun g2 => ?_)
  refine AW.sld (pc := 562) dL_law_562 g2 ?_
  refine AW.aload_n (pc := 563) dL_law_563 rfl 0 rfl ?_
  refine AW.iload (pc := 564) dL_law_564 4 rfl ?_
  refine AW.iconst (pc := 566) dL_law_566 ci_3 ?_
  refine AW.iadd (pc := 567) dL_law_567 ?_
  refine AW.chk (fun g3 => ?_)
  refine AW.sld (pc := 568) dL_law_568 g3 ?_
  refine AW.aload_n (pc := 569) dL_law_569 rfl 3 rfl ?_
  refine AW.callW [.ref (ad E x1), .int (xs (Int32.toNatClampNeg (x4 + 1))), .int (xs (Int32.toNatClampNeg (x4 + 2))), .int (xs (Int32.toNatClampNeg (x4 + 3))), .ref (ad E x3)] [] (pc := 570) dL_law_570 mlL_144 mwL_gives rfl rfl (fun _ => okR_L (by decide) (by omega) (by omega)) (kL_gives l E hst 1000 (by decide) 111 (Nat.le_refl 111) x1 (xs (Int32.toNatClampNeg (x4 + 1))) (xs (Int32.toNatClampNeg (x4 + 2))) (xs (Int32.toNatClampNeg (x4 + 3))) x3 M) rfl (Nat.le_of_ble_eq_true rfl) (fun v4 M5 => ?_)
  refine AW.istore (pc := 573) [1, 2, 3, 4, 5, 0] [(0, .ref b), (1, .ref (ad E x1)), (2, .ref (ad E x2)), (3, .ref (ad E x3)), (4, .int x4), (5, .int v4)] dL_law_573 (by decide) rfl ?_
  refine AW.aload_n (pc := 575) dL_law_575 rfl 2 rfl ?_
  refine AW.aload_n (pc := 576) dL_law_576 rfl 0 rfl ?_
  refine AW.iload (pc := 577) dL_law_577 4 rfl ?_
  refine AW.iconst (pc := 579) dL_law_579 ci_1 ?_
  refine AW.iadd (pc := 580) dL_law_580 ?_
  refine AW.chk (fun g6 => ?_)
  refine AW.sld (pc := 581) dL_law_581 g6 ?_
  refine AW.aload_n (pc := 582) dL_law_582 rfl 0 rfl ?_
  refine AW.iload (pc := 583) dL_law_583 4 rfl ?_
  refine AW.iconst (pc := 585) dL_law_585 ci_2 ?_
  refine AW.iadd (pc := 586) dL_law_586 ?_
  refine AW.chk (fun g7 => ?_)
  refine AW.sld (pc := 587) dL_law_587 g7 ?_
  refine AW.aload_n (pc := 588) dL_law_588 rfl 0 rfl ?_
  refine AW.iload (pc := 589) dL_law_589 4 rfl ?_
  refine AW.iconst (pc := 591) dL_law_591 ci_3 ?_
  refine AW.iadd (pc := 592) dL_law_592 ?_
  refine AW.chk (fun g8 => ?_)
  refine AW.sld (pc := 593) dL_law_593 g8 ?_
  refine AW.chk (fun g11 => ?_)
  refine AW.cV3i (pc := 594) dL_law_594 mlL_146 mbX12_gives rfl g11 (kct g11 rfl (Nat.le_refl 111)) (fun _ => okR_L (by decide) (by omega) (by omega)) (kX12_gives l E 1000 (by decide) 111 (Nat.le_refl 111) false x2 (xs (Int32.toNatClampNeg (x4 + 1))) (xs (Int32.toNatClampNeg (x4 + 2))) (xs (Int32.toNatClampNeg (x4 + 3))) M5) (Nat.le_of_ble_eq_true rfl) (fun v9 M10 => ?_)
  refine AW.istore (pc := 597) [1, 2, 3, 4, 5, 6, 0] [(0, .ref b), (1, .ref (ad E x1)), (2, .ref (ad E x2)), (3, .ref (ad E x3)), (4, .int x4), (5, .int v4), (6, .int v9)] dL_law_597 (by decide) rfl ?_
  refine AW.aload_n (pc := 599) dL_law_599 rfl 2 rfl ?_
  refine AW.cV0i (pc := 600) dL_law_600 mlL_125 mbX12_thrown rfl g11 (kct g11 rfl (Nat.le_refl 111)) (fun _ => okR_L (by decide) (by omega) (by omega)) (kX12_thrown l E 1000 (by decide) 111 (Nat.le_refl 111) false x2 M10) (Nat.le_of_ble_eq_true rfl) (fun v12 M13 => ?_)
  refine AW.iload (pc := 603) dL_law_603 5 rfl ?_
  refine AW.icmp_eq (pc := 605) 610 dL_law_605 (by decide) (fun h14 => ?_) (fun h14 => ?_)
  · refine AW.iload (pc := 610) dL_law_610 5 rfl ?_
    refine AW.if_ne (pc := 612) 627 dL_law_612 (by decide) (fun h15 => ?_) (fun h15 => ?_)
    · refine AW.aload_n (pc := 615) dL_law_615 rfl 3 rfl ?_
      refine AW.iconst (pc := 616) dL_law_616 ci_0 ?_
      refine AW.chk (fun g16 => ?_)
      refine AW.lald (pc := 617) dL_law_617 (k0e g16.1) (kct (k0e g16.1) rfl (Nat.le_refl 111)) g16.2 ?_
      refine AW.iload (pc := 618) dL_law_618 6 rfl ?_
      refine AW.i2l (pc := 620) dL_law_620 ?_
      refine AW.lcmp (pc := 621) dL_law_621 ?_
      refine AW.if_eq (pc := 622) 627 dL_law_622 (by decide) (fun h17 => ?_) (fun h17 => ?_)
      · exact AW.sub [0, 1, 2, 3, 4] rfl (kL_law_B627 l E hst Z hZ b L xs (ce + 1) (sl + 6) (by omega) (by omega) KK23 hKK23 x1 x2 x3 x4 M13)
      · refine AW.iconst (pc := 625) dL_law_625 ci_0 ?_
        exact AW.lend0 (pc := 626) (by decide)
    · exact AW.sub [0, 1, 2, 3, 4] rfl (kL_law_B627 l E hst Z hZ b L xs (ce + 1) (sl + 6) (by omega) (by omega) KK23 hKK23 x1 x2 x3 x4 M13)
  · refine AW.iconst (pc := 608) dL_law_608 ci_0 ?_
    exact AW.lend0 (pc := 609) (by decide)
set_option maxRecDepth 20000 in
set_option maxHeartbeats 4000000 in
theorem kL_law_B547 (l : Launch) (E : Ev) (hst : l.stackTraces = false) (Z : List Frame → Array Value → State → State → Prop) (hZ : LEnd l Z) (b L : Nat) (xs : Nat → Int32) (ce sl : Nat) (hce : ce ≤ 601024) (hsl : sl ≤ 7293034) (KK23 : Nat → Nat → Nat → Int32 → Mem → Option (Int32 × Mem)) (hKK23 : ∀ (x1 : Nat) (x2 : Nat) (x3 : Nat) (x4 : Int32) (M : Mem), AW l E fL_law (fun _ => room_1) (PQL Z E b L xs) 111 false ce sl 23 [(0, .ref b), (1, .ref (ad E x1)), (2, .ref (ad E x2)), (3, .ref (ad E x3)), (4, .int x4)] [] M (KK23 x1 x2 x3 x4 M)) (x1 : Nat) (x2 : Nat) (x3 : Nat) (x4 : Int32) (M : Mem) : AW l E fL_law (fun _ => room_1) (PQL Z E b L xs) 111 false ce sl 547 [(0, .ref b), (1, .ref (ad E x1)), (2, .ref (ad E x2)), (3, .ref (ad E x3)), (4, .int x4)] [] M (zL_law_B547 L xs KK23 x1 x2 x3 x4 M) := by
  unfold zL_law_B547
  refine AW.goto (pc := 547) 2480 dL_law_547 (by decide) ?_
  exact (kL_law_B2480 l E hst Z hZ b L xs ce sl (by omega) (by omega) KK23 hKK23 x1 x2 x3 x4 M)
set_option maxRecDepth 20000 in
set_option maxHeartbeats 4000000 in
theorem kL_law_B470 (l : Launch) (E : Ev) (hst : l.stackTraces = false) (Z : List Frame → Array Value → State → State → Prop) (hZ : LEnd l Z) (b L : Nat) (xs : Nat → Int32) (ce sl : Nat) (hce : ce + 1 ≤ 601024) (hsl : sl + 6 ≤ 7293034) (KK23 : Nat → Nat → Nat → Int32 → Mem → Option (Int32 × Mem)) (hKK23 : ∀ (x1 : Nat) (x2 : Nat) (x3 : Nat) (x4 : Int32) (M : Mem), AW l E fL_law (fun _ => room_1) (PQL Z E b L xs) 111 false (ce + 1) (sl + 6) 23 [(0, .ref b), (1, .ref (ad E x1)), (2, .ref (ad E x2)), (3, .ref (ad E x3)), (4, .int x4)] [] M (KK23 x1 x2 x3 x4 M)) (x1 : Nat) (x2 : Nat) (x3 : Nat) (x4 : Int32) (M : Mem) : AW l E fL_law (fun _ => room_1) (PQL Z E b L xs) 111 false ce sl 470 [(0, .ref b), (1, .ref (ad E x1)), (2, .ref (ad E x2)), (3, .ref (ad E x3)), (4, .int x4)] [] M (zL_law_B470 L xs KK23 x1 x2 x3 x4 M) := by
  unfold zL_law_B470
  refine AW.aload_n (pc := 470) dL_law_470 rfl 1 rfl ?_
  refine AW.aload_n (pc := 471) dL_law_471 rfl 0 rfl ?_
  refine AW.iload (pc := 472) dL_law_472 4 rfl ?_
  refine AW.iconst (pc := 474) dL_law_474 ci_1 ?_
  refine AW.iadd (pc := 475) dL_law_475 ?_
  refine AW.chk (fun g1 => ?_)
  refine AW.sld (pc := 476) dL_law_476 g1 ?_
  refine AW.aload_n (pc := 477) dL_law_477 rfl 0 rfl ?_
  refine AW.iload (pc := 478) dL_law_478 4 rfl ?_
  refine AW.iconst (pc := 480) dL_law_480 ci_2 ?_
  refine AW.iadd (pc := 481) dL_law_481 ?_
  refine AW.chk (fun g2 => ?_)
  refine AW.sld (pc := 482) dL_law_482 g2 ?_
  refine AW.aload_n (pc := 483) dL_law_483 rfl 0 rfl ?_
  refine AW.iload (pc := 484) dL_law_484 4 rfl ?_
  refine AW.iconst (pc := 486) dL_law_486 ci_3 ?_
  refine AW.iadd (pc := 487) dL_law_487 ?_
  refine AW.chk (fun g3 => ?_)
  refine AW.sld (pc := 488) dL_law_488 g3 ?_
  refine AW.aload_n (pc := 489) dL_law_489 rfl 3 rfl ?_
  refine AW.callW [.ref (ad E x1), .int (xs (Int32.toNatClampNeg (x4 + 1))), .int (xs (Int32.toNatClampNeg (x4 + 2))), .int (xs (Int32.toNatClampNeg (x4 + 3))), .ref (ad E x3)] [] (pc := 490) dL_law_490 mlL_140 mwL_sort rfl rfl (fun _ => okR_L (by decide) (by omega) (by omega)) (kL_sort l E hst 1000 (by decide) 111 (Nat.le_refl 111) x1 (xs (Int32.toNatClampNeg (x4 + 1))) (xs (Int32.toNatClampNeg (x4 + 2))) (xs (Int32.toNatClampNeg (x4 + 3))) x3 M) rfl (Nat.le_of_ble_eq_true rfl) (fun v4 M5 => ?_)
  refine AW.istore (pc := 493) [1, 2, 3, 4, 5, 0] [(0, .ref b), (1, .ref (ad E x1)), (2, .ref (ad E x2)), (3, .ref (ad E x3)), (4, .int x4), (5, .int v4)] dL_law_493 (by decide) rfl ?_
  refine AW.aload_n (pc := 495) dL_law_495 rfl 2 rfl ?_
  refine AW.aload_n (pc := 496) dL_law_496 rfl 0 rfl ?_
  refine AW.iload (pc := 497) dL_law_497 4 rfl ?_
  refine AW.iconst (pc := 499) dL_law_499 ci_1 ?_
  refine AW.iadd (pc := 500) dL_law_500 ?_
  refine AW.chk (fun g6 => ?_)
  refine AW.sld (pc := 501) dL_law_501 g6 ?_
  refine AW.aload_n (pc := 502) dL_law_502 rfl 0 rfl ?_
  refine AW.iload (pc := 503) dL_law_503 4 rfl ?_
  refine AW.iconst (pc := 505) dL_law_505 ci_2 ?_
  refine AW.iadd (pc := 506) dL_law_506 ?_
  refine AW.chk (fun g7 => ?_)
  refine AW.sld (pc := 507) dL_law_507 g7 ?_
  refine AW.aload_n (pc := 508) dL_law_508 rfl 0 rfl ?_
  refine AW.iload (pc := 509) dL_law_509 4 rfl ?_
  refine AW.iconst (pc := 511) dL_law_511 ci_3 ?_
  refine AW.iadd (pc := 512) dL_law_512 ?_
  refine AW.chk (fun g8 => ?_)
  refine AW.sld (pc := 513) dL_law_513 g8 ?_
  refine AW.chk (fun g11 => ?_)
  refine AW.cV3i (pc := 514) dL_law_514 mlL_143 mbX12_sort rfl g11 (kct g11 rfl (Nat.le_refl 111)) (fun _ => okR_L (by decide) (by omega) (by omega)) (kX12_sort l E 1000 (by decide) 111 (Nat.le_refl 111) false x2 (xs (Int32.toNatClampNeg (x4 + 1))) (xs (Int32.toNatClampNeg (x4 + 2))) (xs (Int32.toNatClampNeg (x4 + 3))) M5) (Nat.le_of_ble_eq_true rfl) (fun v9 M10 => ?_)
  refine AW.istore (pc := 517) [1, 2, 3, 4, 5, 6, 0] [(0, .ref b), (1, .ref (ad E x1)), (2, .ref (ad E x2)), (3, .ref (ad E x3)), (4, .int x4), (5, .int v4), (6, .int v9)] dL_law_517 (by decide) rfl ?_
  refine AW.aload_n (pc := 519) dL_law_519 rfl 2 rfl ?_
  refine AW.cV0i (pc := 520) dL_law_520 mlL_125 mbX12_thrown rfl g11 (kct g11 rfl (Nat.le_refl 111)) (fun _ => okR_L (by decide) (by omega) (by omega)) (kX12_thrown l E 1000 (by decide) 111 (Nat.le_refl 111) false x2 M10) (Nat.le_of_ble_eq_true rfl) (fun v12 M13 => ?_)
  refine AW.iload (pc := 523) dL_law_523 5 rfl ?_
  refine AW.icmp_eq (pc := 525) 530 dL_law_525 (by decide) (fun h14 => ?_) (fun h14 => ?_)
  · refine AW.iload (pc := 530) dL_law_530 5 rfl ?_
    refine AW.if_ne (pc := 532) 547 dL_law_532 (by decide) (fun h15 => ?_) (fun h15 => ?_)
    · refine AW.aload_n (pc := 535) dL_law_535 rfl 3 rfl ?_
      refine AW.iconst (pc := 536) dL_law_536 ci_0 ?_
      refine AW.chk (fun g16 => ?_)
      refine AW.lald (pc := 537) dL_law_537 (k0e g16.1) (kct (k0e g16.1) rfl (Nat.le_refl 111)) g16.2 ?_
      refine AW.iload (pc := 538) dL_law_538 6 rfl ?_
      refine AW.i2l (pc := 540) dL_law_540 ?_
      refine AW.lcmp (pc := 541) dL_law_541 ?_
      refine AW.if_eq (pc := 542) 547 dL_law_542 (by decide) (fun h17 => ?_) (fun h17 => ?_)
      · exact AW.sub [0, 1, 2, 3, 4] rfl (kL_law_B547 l E hst Z hZ b L xs (ce + 1) (sl + 6) (by omega) (by omega) KK23 hKK23 x1 x2 x3 x4 M13)
      · refine AW.iconst (pc := 545) dL_law_545 ci_0 ?_
        exact AW.lend0 (pc := 546) (by decide)
    · exact AW.sub [0, 1, 2, 3, 4] rfl (kL_law_B547 l E hst Z hZ b L xs (ce + 1) (sl + 6) (by omega) (by omega) KK23 hKK23 x1 x2 x3 x4 M13)
  · refine AW.iconst (pc := 528) dL_law_528 ci_0 ?_
    exact AW.lend0 (pc := 529) (by decide)
set_option maxRecDepth 20000 in
set_option maxHeartbeats 4000000 in
theorem kL_law_B467 (l : Launch) (E : Ev) (hst : l.stackTraces = false) (Z : List Frame → Array Value → State → State → Prop) (hZ : LEnd l Z) (b L : Nat) (xs : Nat → Int32) (ce sl : Nat) (hce : ce ≤ 601024) (hsl : sl ≤ 7293034) (KK23 : Nat → Nat → Nat → Int32 → Mem → Option (Int32 × Mem)) (hKK23 : ∀ (x1 : Nat) (x2 : Nat) (x3 : Nat) (x4 : Int32) (M : Mem), AW l E fL_law (fun _ => room_1) (PQL Z E b L xs) 111 false ce sl 23 [(0, .ref b), (1, .ref (ad E x1)), (2, .ref (ad E x2)), (3, .ref (ad E x3)), (4, .int x4)] [] M (KK23 x1 x2 x3 x4 M)) (x1 : Nat) (x2 : Nat) (x3 : Nat) (x4 : Int32) (M : Mem) : AW l E fL_law (fun _ => room_1) (PQL Z E b L xs) 111 false ce sl 467 [(0, .ref b), (1, .ref (ad E x1)), (2, .ref (ad E x2)), (3, .ref (ad E x3)), (4, .int x4)] [] M (zL_law_B467 L xs KK23 x1 x2 x3 x4 M) := by
  unfold zL_law_B467
  refine AW.goto (pc := 467) 2480 dL_law_467 (by decide) ?_
  exact (kL_law_B2480 l E hst Z hZ b L xs ce sl (by omega) (by omega) KK23 hKK23 x1 x2 x3 x4 M)
set_option maxRecDepth 20000 in
set_option maxHeartbeats 4000000 in
theorem kL_law_B402 (l : Launch) (E : Ev) (hst : l.stackTraces = false) (Z : List Frame → Array Value → State → State → Prop) (hZ : LEnd l Z) (b L : Nat) (xs : Nat → Int32) (ce sl : Nat) (hce : ce + 1 ≤ 601024) (hsl : sl + 6 ≤ 7293034) (KK23 : Nat → Nat → Nat → Int32 → Mem → Option (Int32 × Mem)) (hKK23 : ∀ (x1 : Nat) (x2 : Nat) (x3 : Nat) (x4 : Int32) (M : Mem), AW l E fL_law (fun _ => room_1) (PQL Z E b L xs) 111 false (ce + 1) (sl + 6) 23 [(0, .ref b), (1, .ref (ad E x1)), (2, .ref (ad E x2)), (3, .ref (ad E x3)), (4, .int x4)] [] M (KK23 x1 x2 x3 x4 M)) (x1 : Nat) (x2 : Nat) (x3 : Nat) (x4 : Int32) (M : Mem) : AW l E fL_law (fun _ => room_1) (PQL Z E b L xs) 111 false ce sl 402 [(0, .ref b), (1, .ref (ad E x1)), (2, .ref (ad E x2)), (3, .ref (ad E x3)), (4, .int x4)] [] M (zL_law_B402 L xs KK23 x1 x2 x3 x4 M) := by
  unfold zL_law_B402
  refine AW.aload_n (pc := 402) dL_law_402 rfl 1 rfl ?_
  refine AW.aload_n (pc := 403) dL_law_403 rfl 0 rfl ?_
  refine AW.iload (pc := 404) dL_law_404 4 rfl ?_
  refine AW.iconst (pc := 406) dL_law_406 ci_1 ?_
  refine AW.iadd (pc := 407) dL_law_407 ?_
  refine AW.chk (fun g1 => ?_)
  refine AW.sld (pc := 408) dL_law_408 g1 ?_
  refine AW.aload_n (pc := 409) dL_law_409 rfl 0 rfl ?_
  refine AW.iload (pc := 410) dL_law_410 4 rfl ?_
  refine AW.iconst (pc := 412) dL_law_412 ci_2 ?_
  refine AW.iadd (pc := 413) dL_law_413 ?_
  refine AW.chk (fun g2 => ?_)
  refine AW.sld (pc := 414) dL_law_414 g2 ?_
  refine AW.aload_n (pc := 415) dL_law_415 rfl 3 rfl ?_
  refine AW.callW [.ref (ad E x1), .int (xs (Int32.toNatClampNeg (x4 + 1))), .int (xs (Int32.toNatClampNeg (x4 + 2))), .ref (ad E x3)] [] (pc := 416) dL_law_416 mlL_137 mwL_about rfl rfl (fun _ => okR_L (by decide) (by omega) (by omega)) (kL_about l E hst 1000 (by decide) 111 (Nat.le_refl 111) x1 (xs (Int32.toNatClampNeg (x4 + 1))) (xs (Int32.toNatClampNeg (x4 + 2))) x3 M) rfl (Nat.le_of_ble_eq_true rfl) (fun v3 M4 => ?_)
  refine AW.istore (pc := 419) [1, 2, 3, 4, 5, 0] [(0, .ref b), (1, .ref (ad E x1)), (2, .ref (ad E x2)), (3, .ref (ad E x3)), (4, .int x4), (5, .int v3)] dL_law_419 (by decide) rfl ?_
  refine AW.aload_n (pc := 421) dL_law_421 rfl 2 rfl ?_
  refine AW.aload_n (pc := 422) dL_law_422 rfl 0 rfl ?_
  refine AW.iload (pc := 423) dL_law_423 4 rfl ?_
  refine AW.iconst (pc := 425) dL_law_425 ci_1 ?_
  refine AW.iadd (pc := 426) dL_law_426 ?_
  refine AW.chk (fun g5 => ?_)
  refine AW.sld (pc := 427) dL_law_427 g5 ?_
  refine AW.aload_n (pc := 428) dL_law_428 rfl 0 rfl ?_
  refine AW.iload (pc := 429) dL_law_429 4 rfl ?_
  refine AW.iconst (pc := 431) dL_law_431 ci_2 ?_
  refine AW.iadd (pc := 432) dL_law_432 ?_
  refine AW.chk (fun g6 => ?_)
  refine AW.sld (pc := 433) dL_law_433 g6 ?_
  refine AW.chk (fun g9 => ?_)
  refine AW.cV2i (pc := 434) dL_law_434 mlL_139 mbX12_about rfl g9 (kct g9 rfl (Nat.le_refl 111)) (fun _ => okR_L (by decide) (by omega) (by omega)) (kX12_about l E 1000 (by decide) 111 (Nat.le_refl 111) false x2 (xs (Int32.toNatClampNeg (x4 + 1))) (xs (Int32.toNatClampNeg (x4 + 2))) M4) (Nat.le_of_ble_eq_true rfl) (fun v7 M8 => ?_)
  refine AW.istore (pc := 437) [1, 2, 3, 4, 5, 6, 0] [(0, .ref b), (1, .ref (ad E x1)), (2, .ref (ad E x2)), (3, .ref (ad E x3)), (4, .int x4), (5, .int v3), (6, .int v7)] dL_law_437 (by decide) rfl ?_
  refine AW.aload_n (pc := 439) dL_law_439 rfl 2 rfl ?_
  refine AW.cV0i (pc := 440) dL_law_440 mlL_125 mbX12_thrown rfl g9 (kct g9 rfl (Nat.le_refl 111)) (fun _ => okR_L (by decide) (by omega) (by omega)) (kX12_thrown l E 1000 (by decide) 111 (Nat.le_refl 111) false x2 M8) (Nat.le_of_ble_eq_true rfl) (fun v10 M11 => ?_)
  refine AW.iload (pc := 443) dL_law_443 5 rfl ?_
  refine AW.icmp_eq (pc := 445) 450 dL_law_445 (by decide) (fun h12 => ?_) (fun h12 => ?_)
  · refine AW.iload (pc := 450) dL_law_450 5 rfl ?_
    refine AW.if_ne (pc := 452) 467 dL_law_452 (by decide) (fun h13 => ?_) (fun h13 => ?_)
    · refine AW.aload_n (pc := 455) dL_law_455 rfl 3 rfl ?_
      refine AW.iconst (pc := 456) dL_law_456 ci_0 ?_
      refine AW.chk (fun g14 => ?_)
      refine AW.lald (pc := 457) dL_law_457 (k0e g14.1) (kct (k0e g14.1) rfl (Nat.le_refl 111)) g14.2 ?_
      refine AW.iload (pc := 458) dL_law_458 6 rfl ?_
      refine AW.i2l (pc := 460) dL_law_460 ?_
      refine AW.lcmp (pc := 461) dL_law_461 ?_
      refine AW.if_eq (pc := 462) 467 dL_law_462 (by decide) (fun h15 => ?_) (fun h15 => ?_)
      · exact AW.sub [0, 1, 2, 3, 4] rfl (kL_law_B467 l E hst Z hZ b L xs (ce + 1) (sl + 6) (by omega) (by omega) KK23 hKK23 x1 x2 x3 x4 M11)
      · refine AW.iconst (pc := 465) dL_law_465 ci_0 ?_
        exact AW.lend0 (pc := 466) (by decide)
    · exact AW.sub [0, 1, 2, 3, 4] rfl (kL_law_B467 l E hst Z hZ b L xs (ce + 1) (sl + 6) (by omega) (by omega) KK23 hKK23 x1 x2 x3 x4 M11)
  · refine AW.iconst (pc := 448) dL_law_448 ci_0 ?_
    exact AW.lend0 (pc := 449) (by decide)
set_option maxRecDepth 20000 in
set_option maxHeartbeats 4000000 in
theorem kL_law_B399 (l : Launch) (E : Ev) (hst : l.stackTraces = false) (Z : List Frame → Array Value → State → State → Prop) (hZ : LEnd l Z) (b L : Nat) (xs : Nat → Int32) (ce sl : Nat) (hce : ce ≤ 601024) (hsl : sl ≤ 7293034) (KK23 : Nat → Nat → Nat → Int32 → Mem → Option (Int32 × Mem)) (hKK23 : ∀ (x1 : Nat) (x2 : Nat) (x3 : Nat) (x4 : Int32) (M : Mem), AW l E fL_law (fun _ => room_1) (PQL Z E b L xs) 111 false ce sl 23 [(0, .ref b), (1, .ref (ad E x1)), (2, .ref (ad E x2)), (3, .ref (ad E x3)), (4, .int x4)] [] M (KK23 x1 x2 x3 x4 M)) (x1 : Nat) (x2 : Nat) (x3 : Nat) (x4 : Int32) (M : Mem) : AW l E fL_law (fun _ => room_1) (PQL Z E b L xs) 111 false ce sl 399 [(0, .ref b), (1, .ref (ad E x1)), (2, .ref (ad E x2)), (3, .ref (ad E x3)), (4, .int x4)] [] M (zL_law_B399 L xs KK23 x1 x2 x3 x4 M) := by
  unfold zL_law_B399
  refine AW.goto (pc := 399) 2480 dL_law_399 (by decide) ?_
  exact (kL_law_B2480 l E hst Z hZ b L xs ce sl (by omega) (by omega) KK23 hKK23 x1 x2 x3 x4 M)
set_option maxRecDepth 20000 in
set_option maxHeartbeats 4000000 in
theorem kL_law_B346 (l : Launch) (E : Ev) (hst : l.stackTraces = false) (Z : List Frame → Array Value → State → State → Prop) (hZ : LEnd l Z) (b L : Nat) (xs : Nat → Int32) (ce sl : Nat) (hce : ce + 1 ≤ 601024) (hsl : sl + 6 ≤ 7293034) (KK23 : Nat → Nat → Nat → Int32 → Mem → Option (Int32 × Mem)) (hKK23 : ∀ (x1 : Nat) (x2 : Nat) (x3 : Nat) (x4 : Int32) (M : Mem), AW l E fL_law (fun _ => room_1) (PQL Z E b L xs) 111 false (ce + 1) (sl + 6) 23 [(0, .ref b), (1, .ref (ad E x1)), (2, .ref (ad E x2)), (3, .ref (ad E x3)), (4, .int x4)] [] M (KK23 x1 x2 x3 x4 M)) (x1 : Nat) (x2 : Nat) (x3 : Nat) (x4 : Int32) (M : Mem) : AW l E fL_law (fun _ => room_1) (PQL Z E b L xs) 111 false ce sl 346 [(0, .ref b), (1, .ref (ad E x1)), (2, .ref (ad E x2)), (3, .ref (ad E x3)), (4, .int x4)] [] M (zL_law_B346 L xs KK23 x1 x2 x3 x4 M) := by
  unfold zL_law_B346
  refine AW.aload_n (pc := 346) dL_law_346 rfl 1 rfl ?_
  refine AW.aload_n (pc := 347) dL_law_347 rfl 0 rfl ?_
  refine AW.iload (pc := 348) dL_law_348 4 rfl ?_
  refine AW.iconst (pc := 350) dL_law_350 ci_1 ?_
  refine AW.iadd (pc := 351) dL_law_351 ?_
  refine AW.chk (fun g1 => ?_)
  refine AW.sld (pc := 352) dL_law_352 g1 ?_
  refine AW.aload_n (pc := 353) dL_law_353 rfl 3 rfl ?_
  refine AW.callW [.ref (ad E x1), .int (xs (Int32.toNatClampNeg (x4 + 1))), .ref (ad E x3)] [] (pc := 354) dL_law_354 mlL_133 mwL_count rfl rfl (fun _ => okR_L (by decide) (by omega) (by omega)) (kL_count l E hst 1000 (by decide) 111 (Nat.le_refl 111) x1 (xs (Int32.toNatClampNeg (x4 + 1))) x3 M) rfl (Nat.le_of_ble_eq_true rfl) (fun v2 M3 => ?_)
  refine AW.istore (pc := 357) [1, 2, 3, 4, 5, 0] [(0, .ref b), (1, .ref (ad E x1)), (2, .ref (ad E x2)), (3, .ref (ad E x3)), (4, .int x4), (5, .int v2)] dL_law_357 (by decide) rfl ?_
  refine AW.aload_n (pc := 359) dL_law_359 rfl 2 rfl ?_
  refine AW.aload_n (pc := 360) dL_law_360 rfl 0 rfl ?_
  refine AW.iload (pc := 361) dL_law_361 4 rfl ?_
  refine AW.iconst (pc := 363) dL_law_363 ci_1 ?_
  refine AW.iadd (pc := 364) dL_law_364 ?_
  refine AW.chk (fun g4 => ?_)
  refine AW.sld (pc := 365) dL_law_365 g4 ?_
  refine AW.chk (fun g7 => ?_)
  refine AW.cV1i (pc := 366) dL_law_366 mlL_136 mbX12_count rfl g7 (kct g7 rfl (Nat.le_refl 111)) (fun _ => okR_L (by decide) (by omega) (by omega)) (kX12_count l E 1000 (by decide) 111 (Nat.le_refl 111) false x2 (xs (Int32.toNatClampNeg (x4 + 1))) M3) (Nat.le_of_ble_eq_true rfl) (fun v5 M6 => ?_)
  refine AW.istore (pc := 369) [1, 2, 3, 4, 5, 6, 0] [(0, .ref b), (1, .ref (ad E x1)), (2, .ref (ad E x2)), (3, .ref (ad E x3)), (4, .int x4), (5, .int v2), (6, .int v5)] dL_law_369 (by decide) rfl ?_
  refine AW.aload_n (pc := 371) dL_law_371 rfl 2 rfl ?_
  refine AW.cV0i (pc := 372) dL_law_372 mlL_125 mbX12_thrown rfl g7 (kct g7 rfl (Nat.le_refl 111)) (fun _ => okR_L (by decide) (by omega) (by omega)) (kX12_thrown l E 1000 (by decide) 111 (Nat.le_refl 111) false x2 M6) (Nat.le_of_ble_eq_true rfl) (fun v8 M9 => ?_)
  refine AW.iload (pc := 375) dL_law_375 5 rfl ?_
  refine AW.icmp_eq (pc := 377) 382 dL_law_377 (by decide) (fun h10 => ?_) (fun h10 => ?_)
  · refine AW.iload (pc := 382) dL_law_382 5 rfl ?_
    refine AW.if_ne (pc := 384) 399 dL_law_384 (by decide) (fun h11 => ?_) (fun h11 => ?_)
    · refine AW.aload_n (pc := 387) dL_law_387 rfl 3 rfl ?_
      refine AW.iconst (pc := 388) dL_law_388 ci_0 ?_
      refine AW.chk (fun g12 => ?_)
      refine AW.lald (pc := 389) dL_law_389 (k0e g12.1) (kct (k0e g12.1) rfl (Nat.le_refl 111)) g12.2 ?_
      refine AW.iload (pc := 390) dL_law_390 6 rfl ?_
      refine AW.i2l (pc := 392) dL_law_392 ?_
      refine AW.lcmp (pc := 393) dL_law_393 ?_
      refine AW.if_eq (pc := 394) 399 dL_law_394 (by decide) (fun h13 => ?_) (fun h13 => ?_)
      · exact AW.sub [0, 1, 2, 3, 4] rfl (kL_law_B399 l E hst Z hZ b L xs (ce + 1) (sl + 6) (by omega) (by omega) KK23 hKK23 x1 x2 x3 x4 M9)
      · refine AW.iconst (pc := 397) dL_law_397 ci_0 ?_
        exact AW.lend0 (pc := 398) (by decide)
    · exact AW.sub [0, 1, 2, 3, 4] rfl (kL_law_B399 l E hst Z hZ b L xs (ce + 1) (sl + 6) (by omega) (by omega) KK23 hKK23 x1 x2 x3 x4 M9)
  · refine AW.iconst (pc := 380) dL_law_380 ci_0 ?_
    exact AW.lend0 (pc := 381) (by decide)
set_option maxRecDepth 20000 in
set_option maxHeartbeats 4000000 in
theorem kL_law_B333 (l : Launch) (E : Ev) (hst : l.stackTraces = false) (Z : List Frame → Array Value → State → State → Prop) (hZ : LEnd l Z) (b L : Nat) (xs : Nat → Int32) (ce sl : Nat) (hce : ce + 1 ≤ 601024) (hsl : sl + 6 ≤ 7293034) (KK23 : Nat → Nat → Nat → Int32 → Mem → Option (Int32 × Mem)) (hKK23 : ∀ (x1 : Nat) (x2 : Nat) (x3 : Nat) (x4 : Int32) (M : Mem), AW l E fL_law (fun _ => room_1) (PQL Z E b L xs) 111 false (ce + 1) (sl + 6) 23 [(0, .ref b), (1, .ref (ad E x1)), (2, .ref (ad E x2)), (3, .ref (ad E x3)), (4, .int x4)] [] M (KK23 x1 x2 x3 x4 M)) (x1 : Nat) (x2 : Nat) (x3 : Nat) (x4 : Int32) (M : Mem) : AW l E fL_law (fun _ => room_1) (PQL Z E b L xs) 111 false ce sl 333 [(0, .ref b), (1, .ref (ad E x1)), (2, .ref (ad E x2)), (3, .ref (ad E x3)), (4, .int x4)] [] M (zL_law_B333 L xs KK23 x1 x2 x3 x4 M) := by
  unfold zL_law_B333
  refine AW.aload_n (pc := 333) dL_law_333 rfl 1 rfl ?_
  refine AW.chk (fun g3 => ?_)
  refine AW.cV0i (pc := 334) dL_law_334 mlL_129 mbX11_fault rfl g3 (kct g3 rfl (Nat.le_refl 111)) (fun _ => okR_L (by decide) (by omega) (by omega)) (kX11_fault l E 1000 (by decide) 111 (Nat.le_refl 111) false x1 M) (Nat.le_of_ble_eq_true rfl) (fun v1 M2 => ?_)
  refine AW.aload_n (pc := 337) dL_law_337 rfl 2 rfl ?_
  refine AW.chk (fun g6 => ?_)
  refine AW.cV0i (pc := 338) dL_law_338 mlL_132 mbX12_fault rfl g6 (kct g6 rfl (Nat.le_refl 111)) (fun _ => okR_L (by decide) (by omega) (by omega)) (kX12_fault l E 1000 (by decide) 111 (Nat.le_refl 111) false x2 M2) (Nat.le_of_ble_eq_true rfl) (fun v4 M5 => ?_)
  refine AW.icmp_eq (pc := 341) 2480 dL_law_341 (by decide) (fun h7 => ?_) (fun h7 => ?_)
  · exact AW.wide (Nat.le_succ _) (Nat.le_add_right _ 6) ((kL_law_B2480 l E hst Z hZ b L xs (ce + 1) (sl + 6) (by omega) (by omega) KK23 hKK23 x1 x2 x3 x4 M5))
  · refine AW.iconst (pc := 344) dL_law_344 ci_0 ?_
    exact AW.lend0 (pc := 345) (by decide)
set_option maxRecDepth 20000 in
set_option maxHeartbeats 4000000 in
theorem kL_law_B330 (l : Launch) (E : Ev) (hst : l.stackTraces = false) (Z : List Frame → Array Value → State → State → Prop) (hZ : LEnd l Z) (b L : Nat) (xs : Nat → Int32) (ce sl : Nat) (hce : ce ≤ 601024) (hsl : sl ≤ 7293034) (KK23 : Nat → Nat → Nat → Int32 → Mem → Option (Int32 × Mem)) (hKK23 : ∀ (x1 : Nat) (x2 : Nat) (x3 : Nat) (x4 : Int32) (M : Mem), AW l E fL_law (fun _ => room_1) (PQL Z E b L xs) 111 false ce sl 23 [(0, .ref b), (1, .ref (ad E x1)), (2, .ref (ad E x2)), (3, .ref (ad E x3)), (4, .int x4)] [] M (KK23 x1 x2 x3 x4 M)) (x1 : Nat) (x2 : Nat) (x3 : Nat) (x4 : Int32) (M : Mem) : AW l E fL_law (fun _ => room_1) (PQL Z E b L xs) 111 false ce sl 330 [(0, .ref b), (1, .ref (ad E x1)), (2, .ref (ad E x2)), (3, .ref (ad E x3)), (4, .int x4)] [] M (zL_law_B330 L xs KK23 x1 x2 x3 x4 M) := by
  unfold zL_law_B330
  refine AW.goto (pc := 330) 2480 dL_law_330 (by decide) ?_
  exact (kL_law_B2480 l E hst Z hZ b L xs ce sl (by omega) (by omega) KK23 hKK23 x1 x2 x3 x4 M)
set_option maxRecDepth 20000 in
set_option maxHeartbeats 4000000 in
theorem kL_law_B265 (l : Launch) (E : Ev) (hst : l.stackTraces = false) (Z : List Frame → Array Value → State → State → Prop) (hZ : LEnd l Z) (b L : Nat) (xs : Nat → Int32) (ce sl : Nat) (hce : ce + 1 ≤ 601024) (hsl : sl + 6 ≤ 7293034) (KK23 : Nat → Nat → Nat → Int32 → Mem → Option (Int32 × Mem)) (hKK23 : ∀ (x1 : Nat) (x2 : Nat) (x3 : Nat) (x4 : Int32) (M : Mem), AW l E fL_law (fun _ => room_1) (PQL Z E b L xs) 111 false (ce + 1) (sl + 6) 23 [(0, .ref b), (1, .ref (ad E x1)), (2, .ref (ad E x2)), (3, .ref (ad E x3)), (4, .int x4)] [] M (KK23 x1 x2 x3 x4 M)) (x1 : Nat) (x2 : Nat) (x3 : Nat) (x4 : Int32) (M : Mem) : AW l E fL_law (fun _ => room_1) (PQL Z E b L xs) 111 false ce sl 265 [(0, .ref b), (1, .ref (ad E x1)), (2, .ref (ad E x2)), (3, .ref (ad E x3)), (4, .int x4)] [] M (zL_law_B265 L xs KK23 x1 x2 x3 x4 M) := by
  unfold zL_law_B265
  refine AW.aload_n (pc := 265) dL_law_265 rfl 1 rfl ?_
  refine AW.aload_n (pc := 266) dL_law_266 rfl 0 rfl ?_
  refine AW.iload (pc := 267) dL_law_267 4 rfl ?_
  refine AW.iconst (pc := 269) dL_law_269 ci_1 ?_
  refine AW.iadd (pc := 270) dL_law_270 ?_
  refine AW.chk (fun g1 => ?_)
  refine AW.sld (pc := 271) dL_law_271 g1 ?_
  refine AW.aload_n (pc := 272) dL_law_272 rfl 0 rfl ?_
  refine AW.iload (pc := 273) dL_law_273 4 rfl ?_
  refine AW.iconst (pc := 275) dL_law_275 ci_2 ?_
  refine AW.iadd (pc := 276) dL_law_276 ?_
  refine AW.chk (fun g2 => ?_)
  refine AW.sld (pc := 277) dL_law_277 g2 ?_
  refine AW.aload_n (pc := 278) dL_law_278 rfl 3 rfl ?_
  refine AW.callW [.ref (ad E x1), .int (xs (Int32.toNatClampNeg (x4 + 1))), .int (xs (Int32.toNatClampNeg (x4 + 2))), .ref (ad E x3)] [] (pc := 279) dL_law_279 mlL_119 mwL_gate rfl rfl (fun _ => okR_L (by decide) (by omega) (by omega)) (kL_gate l E hst 1000 (by decide) 111 (Nat.le_refl 111) x1 (xs (Int32.toNatClampNeg (x4 + 1))) (xs (Int32.toNatClampNeg (x4 + 2))) x3 M) rfl (Nat.le_of_ble_eq_true rfl) (fun v3 M4 => ?_)
  refine AW.istore (pc := 282) [1, 2, 3, 4, 5, 0] [(0, .ref b), (1, .ref (ad E x1)), (2, .ref (ad E x2)), (3, .ref (ad E x3)), (4, .int x4), (5, .int v3)] dL_law_282 (by decide) rfl ?_
  refine AW.aload_n (pc := 284) dL_law_284 rfl 2 rfl ?_
  refine AW.aload_n (pc := 285) dL_law_285 rfl 0 rfl ?_
  refine AW.iload (pc := 286) dL_law_286 4 rfl ?_
  refine AW.iconst (pc := 288) dL_law_288 ci_1 ?_
  refine AW.iadd (pc := 289) dL_law_289 ?_
  refine AW.chk (fun g5 => ?_)
  refine AW.sld (pc := 290) dL_law_290 g5 ?_
  refine AW.aload_n (pc := 291) dL_law_291 rfl 0 rfl ?_
  refine AW.iload (pc := 292) dL_law_292 4 rfl ?_
  refine AW.iconst (pc := 294) dL_law_294 ci_2 ?_
  refine AW.iadd (pc := 295) dL_law_295 ?_
  refine AW.chk (fun g6 => ?_)
  refine AW.sld (pc := 296) dL_law_296 g6 ?_
  refine AW.chk (fun g9 => ?_)
  refine AW.cV2i (pc := 297) dL_law_297 mlL_124 mbX12_gate rfl g9 (kct g9 rfl (Nat.le_refl 111)) (fun _ => okR_L (by decide) (by omega) (by omega)) (kX12_gate l E 1000 (by decide) 111 (Nat.le_refl 111) false x2 (xs (Int32.toNatClampNeg (x4 + 1))) (xs (Int32.toNatClampNeg (x4 + 2))) M4) (Nat.le_of_ble_eq_true rfl) (fun v7 M8 => ?_)
  refine AW.istore (pc := 300) [1, 2, 3, 4, 5, 6, 0] [(0, .ref b), (1, .ref (ad E x1)), (2, .ref (ad E x2)), (3, .ref (ad E x3)), (4, .int x4), (5, .int v3), (6, .int v7)] dL_law_300 (by decide) rfl ?_
  refine AW.aload_n (pc := 302) dL_law_302 rfl 2 rfl ?_
  refine AW.cV0i (pc := 303) dL_law_303 mlL_125 mbX12_thrown rfl g9 (kct g9 rfl (Nat.le_refl 111)) (fun _ => okR_L (by decide) (by omega) (by omega)) (kX12_thrown l E 1000 (by decide) 111 (Nat.le_refl 111) false x2 M8) (Nat.le_of_ble_eq_true rfl) (fun v10 M11 => ?_)
  refine AW.iload (pc := 306) dL_law_306 5 rfl ?_
  refine AW.icmp_eq (pc := 308) 313 dL_law_308 (by decide) (fun h12 => ?_) (fun h12 => ?_)
  · refine AW.iload (pc := 313) dL_law_313 5 rfl ?_
    refine AW.if_ne (pc := 315) 330 dL_law_315 (by decide) (fun h13 => ?_) (fun h13 => ?_)
    · refine AW.aload_n (pc := 318) dL_law_318 rfl 3 rfl ?_
      refine AW.iconst (pc := 319) dL_law_319 ci_0 ?_
      refine AW.chk (fun g14 => ?_)
      refine AW.lald (pc := 320) dL_law_320 (k0e g14.1) (kct (k0e g14.1) rfl (Nat.le_refl 111)) g14.2 ?_
      refine AW.iload (pc := 321) dL_law_321 6 rfl ?_
      refine AW.i2l (pc := 323) dL_law_323 ?_
      refine AW.lcmp (pc := 324) dL_law_324 ?_
      refine AW.if_eq (pc := 325) 330 dL_law_325 (by decide) (fun h15 => ?_) (fun h15 => ?_)
      · exact AW.sub [0, 1, 2, 3, 4] rfl (kL_law_B330 l E hst Z hZ b L xs (ce + 1) (sl + 6) (by omega) (by omega) KK23 hKK23 x1 x2 x3 x4 M11)
      · refine AW.iconst (pc := 328) dL_law_328 ci_0 ?_
        exact AW.lend0 (pc := 329) (by decide)
    · exact AW.sub [0, 1, 2, 3, 4] rfl (kL_law_B330 l E hst Z hZ b L xs (ce + 1) (sl + 6) (by omega) (by omega) KK23 hKK23 x1 x2 x3 x4 M11)
  · refine AW.iconst (pc := 311) dL_law_311 ci_0 ?_
    exact AW.lend0 (pc := 312) (by decide)
set_option maxRecDepth 20000 in
set_option maxHeartbeats 4000000 in
theorem kL_law_B192 (l : Launch) (E : Ev) (hst : l.stackTraces = false) (Z : List Frame → Array Value → State → State → Prop) (hZ : LEnd l Z) (b L : Nat) (xs : Nat → Int32) (ce sl : Nat) (hce : ce + 1 ≤ 601024) (hsl : sl + 6 ≤ 7293034) (KK23 : Nat → Nat → Nat → Int32 → Mem → Option (Int32 × Mem)) (hKK23 : ∀ (x1 : Nat) (x2 : Nat) (x3 : Nat) (x4 : Int32) (M : Mem), AW l E fL_law (fun _ => room_1) (PQL Z E b L xs) 111 false (ce + 1) (sl + 6) 23 [(0, .ref b), (1, .ref (ad E x1)), (2, .ref (ad E x2)), (3, .ref (ad E x3)), (4, .int x4)] [] M (KK23 x1 x2 x3 x4 M)) (x1 : Nat) (x2 : Nat) (x3 : Nat) (x4 : Int32) (M : Mem) : AW l E fL_law (fun _ => room_1) (PQL Z E b L xs) 111 false ce sl 192 [(0, .ref b), (1, .ref (ad E x1)), (2, .ref (ad E x2)), (3, .ref (ad E x3)), (4, .int x4)] [] M (zL_law_B192 L xs KK23 x1 x2 x3 x4 M) := by
  unfold zL_law_B192
  refine AW.aload_n (pc := 192) dL_law_192 rfl 1 rfl ?_
  refine AW.aload_n (pc := 193) dL_law_193 rfl 0 rfl ?_
  refine AW.iload (pc := 194) dL_law_194 4 rfl ?_
  refine AW.iconst (pc := 196) dL_law_196 ci_1 ?_
  refine AW.iadd (pc := 197) dL_law_197 ?_
  refine AW.chk (fun g1 => ?_)
  refine AW.sld (pc := 198) dL_law_198 g1 ?_
  refine AW.aload_n (pc := 199) dL_law_199 rfl 0 rfl ?_
  refine AW.iload (pc := 200) dL_law_200 4 rfl ?_
  refine AW.iconst (pc := 202) dL_law_202 ci_2 ?_
  refine AW.iadd (pc := 203) dL_law_203 ?_
  refine AW.chk (fun g2 => ?_)
  refine AW.sld (pc := 204) dL_law_204 g2 ?_
  refine AW.aload_n (pc := 205) dL_law_205 rfl 0 rfl ?_
  refine AW.iload (pc := 206) dL_law_206 4 rfl ?_
  refine AW.iconst (pc := 208) dL_law_208 ci_3 ?_
  refine AW.iadd (pc := 209) dL_law_209 ?_
  refine AW.chk (fun g3 => ?_)
  refine AW.sld (pc := 210) dL_law_210 g3 ?_
  refine AW.aload_n (pc := 211) dL_law_211 rfl 0 rfl ?_
  refine AW.iload (pc := 212) dL_law_212 4 rfl ?_
  refine AW.iconst (pc := 214) dL_law_214 ci_4 ?_
  refine AW.iadd (pc := 215) dL_law_215 ?_
  refine AW.chk (fun g4 => ?_)
  refine AW.sld (pc := 216) dL_law_216 g4 ?_
  refine AW.aload_n (pc := 217) dL_law_217 rfl 0 rfl ?_
  refine AW.iload (pc := 218) dL_law_218 4 rfl ?_
  refine AW.iconst (pc := 220) dL_law_220 ci_5 ?_
  refine AW.iadd (pc := 221) dL_law_221 ?_
  refine AW.chk (fun g5 => ?_)
  refine AW.sld (pc := 222) dL_law_222 g5 ?_
  refine AW.chk (fun g8 => ?_)
  refine AW.cV5i (pc := 223) dL_law_223 mlL_114 mbX11_feed rfl g8 (kct g8 rfl (Nat.le_refl 111)) (fun _ => okR_L (by decide) (by omega) (by omega)) (kX11_feed l E 1000 (by decide) 111 (Nat.le_refl 111) false x1 (xs (Int32.toNatClampNeg (x4 + 1))) (xs (Int32.toNatClampNeg (x4 + 2))) (xs (Int32.toNatClampNeg (x4 + 3))) (xs (Int32.toNatClampNeg (x4 + 4))) (xs (Int32.toNatClampNeg (x4 + 5))) M) (Nat.le_of_ble_eq_true rfl) (fun v6 M7 => ?_)
  refine AW.aload_n (pc := 226) dL_law_226 rfl 2 rfl ?_
  refine AW.aload_n (pc := 227) dL_law_227 rfl 0 rfl ?_
  refine AW.iload (pc := 228) dL_law_228 4 rfl ?_
  refine AW.iconst (pc := 230) dL_law_230 ci_1 ?_
  refine AW.iadd (pc := 231) dL_law_231 ?_
  refine AW.chk (fun g9 => ?_)
  refine AW.sld (pc := 232) dL_law_232 g9 ?_
  refine AW.aload_n (pc := 233) dL_law_233 rfl 0 rfl ?_
  refine AW.iload (pc := 234) dL_law_234 4 rfl ?_
  refine AW.iconst (pc := 236) dL_law_236 ci_2 ?_
  refine AW.iadd (pc := 237) dL_law_237 ?_
  refine AW.chk (fun g10 => ?_)
  refine AW.sld (pc := 238) dL_law_238 g10 ?_
  refine AW.aload_n (pc := 239) dL_law_239 rfl 0 rfl ?_
  refine AW.iload (pc := 240) dL_law_240 4 rfl ?_
  refine AW.iconst (pc := 242) dL_law_242 ci_3 ?_
  refine AW.iadd (pc := 243) dL_law_243 ?_
  refine AW.chk (fun g11 => ?_)
  refine AW.sld (pc := 244) dL_law_244 g11 ?_
  refine AW.aload_n (pc := 245) dL_law_245 rfl 0 rfl ?_
  refine AW.iload (pc := 246) dL_law_246 4 rfl ?_
  refine AW.iconst (pc := 248) dL_law_248 ci_4 ?_
  refine AW.iadd (pc := 249) dL_law_249 ?_
  refine AW.chk (fun g12 => ?_)
  refine AW.sld (pc := 250) dL_law_250 g12 ?_
  refine AW.aload_n (pc := 251) dL_law_251 rfl 0 rfl ?_
  refine AW.iload (pc := 252) dL_law_252 4 rfl ?_
  refine AW.iconst (pc := 254) dL_law_254 ci_5 ?_
  refine AW.iadd (pc := 255) dL_law_255 ?_
  refine AW.chk (fun g13 => ?_)
  refine AW.sld (pc := 256) dL_law_256 g13 ?_
  refine AW.chk (fun g16 => ?_)
  refine AW.cV5i (pc := 257) dL_law_257 mlL_118 mbX12_feed rfl g16 (kct g16 rfl (Nat.le_refl 111)) (fun _ => okR_L (by decide) (by omega) (by omega)) (kX12_feed l E 1000 (by decide) 111 (Nat.le_refl 111) false x2 (xs (Int32.toNatClampNeg (x4 + 1))) (xs (Int32.toNatClampNeg (x4 + 2))) (xs (Int32.toNatClampNeg (x4 + 3))) (xs (Int32.toNatClampNeg (x4 + 4))) (xs (Int32.toNatClampNeg (x4 + 5))) M7) (Nat.le_of_ble_eq_true rfl) (fun v14 M15 => ?_)
  refine AW.icmp_eq (pc := 260) 2480 dL_law_260 (by decide) (fun h17 => ?_) (fun h17 => ?_)
  · exact AW.wide (Nat.le_succ _) (Nat.le_add_right _ 6) ((kL_law_B2480 l E hst Z hZ b L xs (ce + 1) (sl + 6) (by omega) (by omega) KK23 hKK23 x1 x2 x3 x4 M15))
  · refine AW.iconst (pc := 263) dL_law_263 ci_0 ?_
    exact AW.lend0 (pc := 264) (by decide)
set_option maxRecDepth 20000 in
set_option maxHeartbeats 4000000 in
theorem kL_law_B23 (l : Launch) (E : Ev) (hst : l.stackTraces = false) (Z : List Frame → Array Value → State → State → Prop) (hZ : LEnd l Z) (b L : Nat) (xs : Nat → Int32) (ce sl : Nat) (hce : ce + 1 ≤ 601024) (hsl : sl + 6 ≤ 7293034) (KK23 : Nat → Nat → Nat → Int32 → Mem → Option (Int32 × Mem)) (hKK23 : ∀ (x1 : Nat) (x2 : Nat) (x3 : Nat) (x4 : Int32) (M : Mem), AW l E fL_law (fun _ => room_1) (PQL Z E b L xs) 111 false (ce + 1) (sl + 6) 23 [(0, .ref b), (1, .ref (ad E x1)), (2, .ref (ad E x2)), (3, .ref (ad E x3)), (4, .int x4)] [] M (KK23 x1 x2 x3 x4 M)) (x1 : Nat) (x2 : Nat) (x3 : Nat) (x4 : Int32) (M : Mem) : AW l E fL_law (fun _ => room_1) (PQL Z E b L xs) 111 false ce sl 23 [(0, .ref b), (1, .ref (ad E x1)), (2, .ref (ad E x2)), (3, .ref (ad E x3)), (4, .int x4)] [] M (zL_law_B23 L xs KK23 x1 x2 x3 x4 M) := by
  unfold zL_law_B23
  refine AW.iload (pc := 23) dL_law_23 4 rfl ?_
  refine AW.aload_n (pc := 25) dL_law_25 rfl 0 rfl ?_
  refine AW.slen (pc := 26) dL_law_26 ?_
  refine AW.bipush (pc := 27) dL_law_27 cb_6 ?_
  refine AW.isub (pc := 29) dL_law_29 ?_
  refine AW.icmp_gt (pc := 30) 2486 dL_law_30 (by decide) (fun h1 => ?_) (fun h1 => ?_)
  · refine AW.iconst (pc := 2486) dL_law_2486 ci_1 ?_
    exact AW.lend1 (pc := 2487) hZ rfl rfl dL_law_2487 (by omega) (by omega)
  · refine AW.aload_n (pc := 33) dL_law_33 rfl 0 rfl ?_
    refine AW.iload (pc := 34) dL_law_34 4 rfl ?_
    refine AW.chk (fun g2 => ?_)
    refine AW.sld (pc := 36) dL_law_36 g2 ?_
    refine AW.bipush (pc := 37) dL_law_37 cb_63 ?_
    refine AW.iand (pc := 39) dL_law_39 ?_
    refine AW.genI (fun v3 => ?_)
    refine AW.sw1 (fun h4 => ?_) (fun h4 => ?_)
    · refine AW.tswIn (pc := 40) (v := 0) (q := 0) 192 h4 dL_law_40 (by decide) (by decide) (by decide) rfl (by decide) ?_
      exact (kL_law_B192 l E hst Z hZ b L xs ce sl hce hsl KK23 hKK23 x1 x2 x3 x4 M)
    refine AW.sw1 (fun h5 => ?_) (fun h5 => ?_)
    · refine AW.tswIn (pc := 40) (v := 1) (q := 1) 265 h5 dL_law_40 (by decide) (by decide) (by decide) rfl (by decide) ?_
      exact (kL_law_B265 l E hst Z hZ b L xs ce sl hce hsl KK23 hKK23 x1 x2 x3 x4 M)
    refine AW.sw1 (fun h6 => ?_) (fun h6 => ?_)
    · refine AW.tswIn (pc := 40) (v := 2) (q := 2) 333 h6 dL_law_40 (by decide) (by decide) (by decide) rfl (by decide) ?_
      exact (kL_law_B333 l E hst Z hZ b L xs ce sl hce hsl KK23 hKK23 x1 x2 x3 x4 M)
    refine AW.sw1 (fun h7 => ?_) (fun h7 => ?_)
    · refine AW.tswIn (pc := 40) (v := 3) (q := 3) 346 h7 dL_law_40 (by decide) (by decide) (by decide) rfl (by decide) ?_
      exact (kL_law_B346 l E hst Z hZ b L xs ce sl hce hsl KK23 hKK23 x1 x2 x3 x4 M)
    refine AW.sw1 (fun h8 => ?_) (fun h8 => ?_)
    · refine AW.tswIn (pc := 40) (v := 4) (q := 4) 402 h8 dL_law_40 (by decide) (by decide) (by decide) rfl (by decide) ?_
      exact (kL_law_B402 l E hst Z hZ b L xs ce sl hce hsl KK23 hKK23 x1 x2 x3 x4 M)
    refine AW.sw1 (fun h9 => ?_) (fun h9 => ?_)
    · refine AW.tswIn (pc := 40) (v := 5) (q := 5) 470 h9 dL_law_40 (by decide) (by decide) (by decide) rfl (by decide) ?_
      exact (kL_law_B470 l E hst Z hZ b L xs ce sl hce hsl KK23 hKK23 x1 x2 x3 x4 M)
    refine AW.sw1 (fun h10 => ?_) (fun h10 => ?_)
    · refine AW.tswIn (pc := 40) (v := 6) (q := 6) 550 h10 dL_law_40 (by decide) (by decide) (by decide) rfl (by decide) ?_
      exact (kL_law_B550 l E hst Z hZ b L xs ce sl hce hsl KK23 hKK23 x1 x2 x3 x4 M)
    refine AW.sw1 (fun h11 => ?_) (fun h11 => ?_)
    · refine AW.tswIn (pc := 40) (v := 7) (q := 7) 630 h11 dL_law_40 (by decide) (by decide) (by decide) rfl (by decide) ?_
      exact (kL_law_B630 l E hst Z hZ b L xs ce sl hce hsl KK23 hKK23 x1 x2 x3 x4 M)
    refine AW.sw1 (fun h12 => ?_) (fun h12 => ?_)
    · refine AW.tswIn (pc := 40) (v := 8) (q := 8) 710 h12 dL_law_40 (by decide) (by decide) (by decide) rfl (by decide) ?_
      exact (kL_law_B710 l E hst Z hZ b L xs ce sl hce hsl KK23 hKK23 x1 x2 x3 x4 M)
    refine AW.sw1 (fun h13 => ?_) (fun h13 => ?_)
    · refine AW.tswIn (pc := 40) (v := 9) (q := 9) 758 h13 dL_law_40 (by decide) (by decide) (by decide) rfl (by decide) ?_
      exact (kL_law_B758 l E hst Z hZ b L xs ce sl hce hsl KK23 hKK23 x1 x2 x3 x4 M)
    refine AW.sw1 (fun h14 => ?_) (fun h14 => ?_)
    · refine AW.tswIn (pc := 40) (v := 10) (q := 10) 833 h14 dL_law_40 (by decide) (by decide) (by decide) rfl (by decide) ?_
      exact (kL_law_B833 l E hst Z hZ b L xs ce sl hce hsl KK23 hKK23 x1 x2 x3 x4 M)
    refine AW.sw1 (fun h15 => ?_) (fun h15 => ?_)
    · refine AW.tswIn (pc := 40) (v := 11) (q := 11) 913 h15 dL_law_40 (by decide) (by decide) (by decide) rfl (by decide) ?_
      exact (kL_law_B913 l E hst Z hZ b L xs ce sl hce hsl KK23 hKK23 x1 x2 x3 x4 M)
    refine AW.sw1 (fun h16 => ?_) (fun h16 => ?_)
    · refine AW.tswIn (pc := 40) (v := 12) (q := 12) 993 h16 dL_law_40 (by decide) (by decide) (by decide) rfl (by decide) ?_
      exact (kL_law_B993 l E hst Z hZ b L xs ce sl hce hsl KK23 hKK23 x1 x2 x3 x4 M)
    refine AW.sw1 (fun h17 => ?_) (fun h17 => ?_)
    · refine AW.tswIn (pc := 40) (v := 13) (q := 13) 1061 h17 dL_law_40 (by decide) (by decide) (by decide) rfl (by decide) ?_
      exact (kL_law_B1061 l E hst Z hZ b L xs ce sl hce hsl KK23 hKK23 x1 x2 x3 x4 M)
    refine AW.sw1 (fun h18 => ?_) (fun h18 => ?_)
    · refine AW.tswIn (pc := 40) (v := 14) (q := 14) 1129 h18 dL_law_40 (by decide) (by decide) (by decide) rfl (by decide) ?_
      exact (kL_law_B1129 l E hst Z hZ b L xs ce sl hce hsl KK23 hKK23 x1 x2 x3 x4 M)
    refine AW.sw1 (fun h19 => ?_) (fun h19 => ?_)
    · refine AW.tswIn (pc := 40) (v := 15) (q := 15) 1209 h19 dL_law_40 (by decide) (by decide) (by decide) rfl (by decide) ?_
      exact (kL_law_B1209 l E hst Z hZ b L xs ce sl hce hsl KK23 hKK23 x1 x2 x3 x4 M)
    refine AW.sw1 (fun h20 => ?_) (fun h20 => ?_)
    · refine AW.tswIn (pc := 40) (v := 16) (q := 16) 1301 h20 dL_law_40 (by decide) (by decide) (by decide) rfl (by decide) ?_
      exact (kL_law_B1301 l E hst Z hZ b L xs ce sl hce hsl KK23 hKK23 x1 x2 x3 x4 M)
    refine AW.sw1 (fun h21 => ?_) (fun h21 => ?_)
    · refine AW.tswIn (pc := 40) (v := 17) (q := 17) 1381 h21 dL_law_40 (by decide) (by decide) (by decide) rfl (by decide) ?_
      exact (kL_law_B1381 l E hst Z hZ b L xs ce sl hce hsl KK23 hKK23 x1 x2 x3 x4 M)
    refine AW.sw1 (fun h22 => ?_) (fun h22 => ?_)
    · refine AW.tswIn (pc := 40) (v := 18) (q := 18) 1449 h22 dL_law_40 (by decide) (by decide) (by decide) rfl (by decide) ?_
      exact (kL_law_B1449 l E hst Z hZ b L xs ce sl hce hsl KK23 hKK23 x1 x2 x3 x4 M)
    refine AW.sw1 (fun h23 => ?_) (fun h23 => ?_)
    · refine AW.tswIn (pc := 40) (v := 19) (q := 19) 1517 h23 dL_law_40 (by decide) (by decide) (by decide) rfl (by decide) ?_
      exact (kL_law_B1517 l E hst Z hZ b L xs ce sl hce hsl KK23 hKK23 x1 x2 x3 x4 M)
    refine AW.sw1 (fun h24 => ?_) (fun h24 => ?_)
    · refine AW.tswIn (pc := 40) (v := 20) (q := 20) 1597 h24 dL_law_40 (by decide) (by decide) (by decide) rfl (by decide) ?_
      exact (kL_law_B1597 l E hst Z hZ b L xs ce sl hce hsl KK23 hKK23 x1 x2 x3 x4 M)
    refine AW.sw1 (fun h25 => ?_) (fun h25 => ?_)
    · refine AW.tswIn (pc := 40) (v := 21) (q := 21) 1653 h25 dL_law_40 (by decide) (by decide) (by decide) rfl (by decide) ?_
      exact (kL_law_B1653 l E hst Z hZ b L xs ce sl hce hsl KK23 hKK23 x1 x2 x3 x4 M)
    refine AW.sw1 (fun h26 => ?_) (fun h26 => ?_)
    · refine AW.tswIn (pc := 40) (v := 22) (q := 22) 1745 h26 dL_law_40 (by decide) (by decide) (by decide) rfl (by decide) ?_
      exact (kL_law_B1745 l E hst Z hZ b L xs ce sl hce hsl KK23 hKK23 x1 x2 x3 x4 M)
    refine AW.sw1 (fun h27 => ?_) (fun h27 => ?_)
    · refine AW.tswIn (pc := 40) (v := 23) (q := 23) 1813 h27 dL_law_40 (by decide) (by decide) (by decide) rfl (by decide) ?_
      exact (kL_law_B1813 l E hst Z hZ b L xs ce sl hce hsl KK23 hKK23 x1 x2 x3 x4 M)
    refine AW.sw1 (fun h28 => ?_) (fun h28 => ?_)
    · refine AW.tswIn (pc := 40) (v := 24) (q := 24) 1881 h28 dL_law_40 (by decide) (by decide) (by decide) rfl (by decide) ?_
      exact (kL_law_B1881 l E hst Z hZ b L xs ce sl hce hsl KK23 hKK23 x1 x2 x3 x4 M)
    refine AW.sw1 (fun h29 => ?_) (fun h29 => ?_)
    · refine AW.tswIn (pc := 40) (v := 25) (q := 25) 1961 h29 dL_law_40 (by decide) (by decide) (by decide) rfl (by decide) ?_
      exact (kL_law_B1961 l E hst Z hZ b L xs ce sl hce hsl KK23 hKK23 x1 x2 x3 x4 M)
    refine AW.sw1 (fun h30 => ?_) (fun h30 => ?_)
    · refine AW.tswIn (pc := 40) (v := 26) (q := 26) 2041 h30 dL_law_40 (by decide) (by decide) (by decide) rfl (by decide) ?_
      exact (kL_law_B2041 l E hst Z hZ b L xs ce sl hce hsl KK23 hKK23 x1 x2 x3 x4 M)
    refine AW.sw1 (fun h31 => ?_) (fun h31 => ?_)
    · refine AW.tswIn (pc := 40) (v := 27) (q := 27) 2097 h31 dL_law_40 (by decide) (by decide) (by decide) rfl (by decide) ?_
      exact (kL_law_B2097 l E hst Z hZ b L xs ce sl hce hsl KK23 hKK23 x1 x2 x3 x4 M)
    refine AW.sw1 (fun h32 => ?_) (fun h32 => ?_)
    · refine AW.tswIn (pc := 40) (v := 28) (q := 28) 2153 h32 dL_law_40 (by decide) (by decide) (by decide) rfl (by decide) ?_
      exact (kL_law_B2153 l E hst Z hZ b L xs ce sl hce hsl KK23 hKK23 x1 x2 x3 x4 M)
    refine AW.sw1 (fun h33 => ?_) (fun h33 => ?_)
    · refine AW.tswIn (pc := 40) (v := 29) (q := 29) 2252 h33 dL_law_40 (by decide) (by decide) (by decide) rfl (by decide) ?_
      exact (kL_law_B2252 l E hst Z hZ b L xs ce sl hce hsl KK23 hKK23 x1 x2 x3 x4 M)
    refine AW.sw1 (fun h34 => ?_) (fun h34 => ?_)
    · refine AW.tswIn (pc := 40) (v := 30) (q := 30) 2320 h34 dL_law_40 (by decide) (by decide) (by decide) rfl (by decide) ?_
      exact (kL_law_B2320 l E hst Z hZ b L xs ce sl hce hsl KK23 hKK23 x1 x2 x3 x4 M)
    refine AW.sw1 (fun h35 => ?_) (fun h35 => ?_)
    · refine AW.tswIn (pc := 40) (v := 31) (q := 31) 2400 h35 dL_law_40 (by decide) (by decide) (by decide) rfl (by decide) ?_
      exact (kL_law_B2400 l E hst Z hZ b L xs ce sl hce hsl KK23 hKK23 x1 x2 x3 x4 M)
    refine AW.sw1 (fun h36 => ?_) (fun h36 => ?_)
    · refine AW.tswIn (pc := 40) (v := 32) (q := 32) 2456 h36 dL_law_40 (by decide) (by decide) (by decide) rfl (by decide) ?_
      exact (kL_law_B2456 l E hst Z hZ b L xs ce sl hce hsl KK23 hKK23 x1 x2 x3 x4 M)
    refine AW.sw1 (fun h37 => ?_) (fun h37 => ?_)
    · refine AW.tswIn (pc := 40) (v := 33) (q := 33) 2467 h37 dL_law_40 (by decide) (by decide) (by decide) rfl (by decide) ?_
      exact (kL_law_B2467 l E hst Z hZ b L xs ce sl hce hsl KK23 hKK23 x1 x2 x3 x4 M)
    refine AW.tswOut (pc := 40) 2480 dL_law_40 (by have eh4 := tne_0 _ h4; have eh5 := tne_1 _ h5; have eh6 := tne_2 _ h6; have eh7 := tne_3 _ h7; have eh8 := tne_4 _ h8; have eh9 := tne_5 _ h9; have eh10 := tne_6 _ h10; have eh11 := tne_7 _ h11; have eh12 := tne_8 _ h12; have eh13 := tne_9 _ h13; have eh14 := tne_10 _ h14; have eh15 := tne_11 _ h15; have eh16 := tne_12 _ h16; have eh17 := tne_13 _ h17; have eh18 := tne_14 _ h18; have eh19 := tne_15 _ h19; have eh20 := tne_16 _ h20; have eh21 := tne_17 _ h21; have eh22 := tne_18 _ h22; have eh23 := tne_19 _ h23; have eh24 := tne_20 _ h24; have eh25 := tne_21 _ h25; have eh26 := tne_22 _ h26; have eh27 := tne_23 _ h27; have eh28 := tne_24 _ h28; have eh29 := tne_25 _ h29; have eh30 := tne_26 _ h30; have eh31 := tne_27 _ h31; have eh32 := tne_28 _ h32; have eh33 := tne_29 _ h33; have eh34 := tne_30 _ h34; have eh35 := tne_31 _ h35; have eh36 := tne_32 _ h36; have eh37 := tne_33 _ h37; omega) (by decide) ?_
    exact AW.wide (Nat.le_succ _) (Nat.le_add_right _ 6) ((kL_law_B2480 l E hst Z hZ b L xs (ce + 1) (sl + 6) (by omega) (by omega) KK23 hKK23 x1 x2 x3 x4 M))
set_option maxRecDepth 20000 in
set_option maxHeartbeats 4000000 in
theorem kL_law_L23 (l : Launch) (E : Ev) (hst : l.stackTraces = false) (Z : List Frame → Array Value → State → State → Prop) (hZ : LEnd l Z) (b L : Nat) (xs : Nat → Int32) (k : Nat) : ∀ (ce sl : Nat) (_ : ce + k ≤ 601024) (_ : sl + 6 * k ≤ 7293034) (x1 : Nat) (x2 : Nat) (x3 : Nat) (x4 : Int32) (M : Mem), AW l E fL_law (fun _ => room_1) (PQL Z E b L xs) 111 false ce sl 23 [(0, .ref b), (1, .ref (ad E x1)), (2, .ref (ad E x2)), (3, .ref (ad E x3)), (4, .int x4)] [] M (zL_law_L23 L xs k x1 x2 x3 x4 M) := by
  induction k with
  | zero => intro ce sl _ _ x1 x2 x3 x4 M; exact AW.none
  | succ k ih =>
    intro ce sl h1 h2 x1 x2 x3 x4 M
    exact kL_law_B23 l E hst Z hZ b L xs ce sl (by omega) (by omega) (zL_law_L23 L xs k) (fun x1 x2 x3 x4 M9 => ih (ce + 1) (sl + 6) (by omega) (by omega) x1 x2 x3 x4 M9) x1 x2 x3 x4 M
set_option maxRecDepth 20000 in
set_option maxHeartbeats 4000000 in
theorem kL_law (l : Launch) (E : Ev) (hst : l.stackTraces = false) (Z : List Frame → Array Value → State → State → Prop) (hZ : LEnd l Z) (b L : Nat) (xs : Nat → Int32) (M : Mem) : AW l E fL_law (fun _ => room_1) (PQL Z E b L xs) 0 true 0 0 0 [(0, .ref b)] [] M (zL_law L xs M) := by
  unfold zL_law
  refine AW.chk (fun g1 => ?_)
  refine AW.newO (pc := 0) (ct' := 1) (ce' := 1) (sl' := 15) dL_law_0 rfl nwL_8 g1 rfl rfl rfl (fun _ => ⟨Nat.le_of_ble_eq_true rfl, Nat.le_of_ble_eq_true rfl⟩) ?_
  refine AW.genM (fun M2 => ?_)
  refine AW.dup (pc := 3) dL_law_3 rfl ?_
  refine AW.callI [] [.ref (ad E 1)] (pc := 4) (ct9 := 71) (ce9 := 71) (sl9 := 53950) dL_law_4 mlL_110 mbX11_init rfl rfl rfl (fun _ => okR_L (by decide) (by omega) (by omega)) rfl (kX11_init l E 1000 (by decide) 1 (by omega) 1 M2) rfl (Nat.le_of_ble_eq_true rfl) (fun _ M3 => ?_)
  refine AW.astore_n (pc := 7) [1, 0] [(0, .ref b), (1, .ref (ad E 1))] dL_law_7 rfl (by decide) rfl ?_
  refine AW.chk (fun g4 => ?_)
  refine AW.newO (pc := 8) (ct' := 72) (ce' := 72) (sl' := 54008) dL_law_8 rfl nwL_111 g4 rfl rfl rfl (fun _ => ⟨Nat.le_of_ble_eq_true rfl, Nat.le_of_ble_eq_true rfl⟩) ?_
  refine AW.genM (fun M5 => ?_)
  refine AW.dup (pc := 11) dL_law_11 rfl ?_
  refine AW.callI [] [.ref (ad E 72)] (pc := 12) (ct9 := 110) (ce9 := 110) (sl9 := 97193) dL_law_12 mlL_113 mbX12_init rfl rfl rfl (fun _ => okR_L (by decide) (by omega) (by omega)) rfl (kX12_init l E 1000 (by decide) 72 (by omega) 72 M5) rfl (Nat.le_of_ble_eq_true rfl) (fun _ M6 => ?_)
  refine AW.astore_n (pc := 15) [1, 2, 0] [(0, .ref b), (1, .ref (ad E 1)), (2, .ref (ad E 72))] dL_law_15 rfl (by decide) rfl ?_
  refine AW.iconst (pc := 16) dL_law_16 ci_1 ?_
  refine AW.chk (fun g7 => ?_)
  refine AW.newL (pc := 17) (ct' := 111) (ce' := 111) (sl' := 97194) dL_law_17 ac_2 (by decide) rfl (Nat.le_of_ble_eq_true rfl) g7 rfl rfl rfl (fun _ => ⟨Nat.le_of_ble_eq_true rfl, Nat.le_of_ble_eq_true rfl⟩) ?_
  refine AW.genM (fun M8 => ?_)
  refine AW.astore_n (pc := 19) [1, 2, 3, 0] [(0, .ref b), (1, .ref (ad E 1)), (2, .ref (ad E 72)), (3, .ref (ad E 111))] dL_law_19 rfl (by decide) rfl ?_
  refine AW.iconst (pc := 20) dL_law_20 ci_0 ?_
  refine AW.istore (pc := 21) [1, 2, 3, 4, 0] [(0, .ref b), (1, .ref (ad E 1)), (2, .ref (ad E 72)), (3, .ref (ad E 111)), (4, .int 0)] dL_law_21 (by decide) rfl ?_
  exact AW.exf ((kL_law_L23 l E hst Z hZ b L xs LF 111 97194 (by decide) (by decide) 1 72 111 0 M8))
