/-! the other side: its numbers -/
def fm_in (x lo hi : Int32) : Int32 := if x < lo then 0 else if hi < x then 0 else 1
theorem fm_in_b (a b c : Int32) : narrow .boolean (.int (fm_in a b c)) = .int (fm_in a b c) := by
  unfold fm_in
  split
  · rfl
  · split <;> rfl
def fm_size (x : Int32) : Int32 := if 0 ≤ x then x else -x
def fm_lim (x : Int64) (m : Int32) : Int32 := (if x ≤ m.toInt64 then (if (-m).toInt64 ≤ x then x else (-m).toInt64) else m.toInt64).toInt32
def fm_half (x : Int32) : Int32 := (4000000 * (x.toInt64 * (18000 - x).toInt64) / (405000000 - x.toInt64 * (18000 - x).toInt64)).toInt32
def fm_sine (x : Int32) : Int32 := if 18000 < x then -(fm_half (x - 18000)) else fm_half x
def fm_cosine (x : Int32) : Int32 := fm_sine (x + 9000 - (x + 9000) / 36000 * 36000)
def fm_cof (x : Int32) : Int32 := fm_size x / 10000
def fm_sineOf (x : Int32) : Int64 := if 0 ≤ x then (fm_sine (fm_cof x)).toInt64 else (-(fm_sine (fm_cof x))).toInt64
def fm_cosOf (x : Int32) : Int64 := (fm_cosine (fm_cof x)).toInt64
def fm_restBy (a : Nat → Int32) (la sp co : Int32) : Int32 := ((a (20 + 2)).toInt64 * fm_sineOf la / fm_cosOf la - 64 * sp.toInt64 * (fm_cosine co).toInt64 / fm_cosOf la).toInt32
def fm_course (a : Nat → Int32) : Int32 := if a 3 ≤ 0 then a 1 else a 34
def fm_speed (a : Nat → Int32) : Int32 := if a 3 ≤ 0 then a 2 else a 35
def fm_rest (a : Nat → Int32) : Int32 := fm_restBy a (a 0) (fm_speed a) (fm_course a) - fm_restBy a (1000000 * a 6) (a 7) (fm_course a)
/-- numbers for which no divisor is 0 -/
def zcR (x : Int32) : Prop := 0 ≤ x.toInt ∧ x.toInt < 36000
def zlR (x : Int32) : Prop := -70000000 ≤ x.toInt ∧ x.toInt ≤ 70000000
theorem z32 {x : Int32} : x.toInt < 2147483648 ∧ -2147483648 ≤ x.toInt := ⟨by have := Int32.toInt_lt x; omega, by have := Int32.le_toInt x; omega⟩
theorem z64 {x : Int64} : x.toInt < 9223372036854775808 ∧ -9223372036854775808 ≤ x.toInt := ⟨by have := Int64.toInt_lt x; omega, by have := Int64.le_toInt x; omega⟩
theorem z_nIof {x : Int32} {n : Nat} (h : 0 ≤ x.toInt) (h2 : x.toInt < n) : ∃ k : Nat, k < n ∧ x = nI k := by
  refine ⟨x.toInt.toNat, by omega, ?_⟩
  apply Int32.toInt_inj.mp
  rw [nI_toInt (by have := (z32 (x := x)).1; omega)]
  omega
theorem z_half_all : (List.range 18001).all (fun k => decide (¬ (405000000 - (nI k).toInt64 * (18000 - nI k).toInt64 = 0))) = true := by decide +kernel
theorem z_half_ne {x : Int32} (h : 0 ≤ x.toInt) (h2 : x.toInt < 18001) : ¬ (405000000 - x.toInt64 * (18000 - x).toInt64 = 0) := by
  obtain ⟨k, hk, rfl⟩ := z_nIof (n := 18001) h (by omega)
  exact co_dec z_half_all hk
theorem zi_add {x y : Int32} (h : -2147483648 ≤ x.toInt + y.toInt) (h2 : x.toInt + y.toInt < 2147483648) : (x + y).toInt = x.toInt + y.toInt := by
  rw [Int32.toInt_add]
  unfold Int.bmod
  simp only []
  omega
theorem zi_sub {x y : Int32} (h : -2147483648 ≤ x.toInt - y.toInt) (h2 : x.toInt - y.toInt < 2147483648) : (x - y).toInt = x.toInt - y.toInt := by
  rw [Int32.toInt_sub]
  unfold Int.bmod
  simp only []
  omega
theorem zi_neg {x : Int32} (h : -2147483648 < x.toInt) : (-x).toInt = -x.toInt := by
  rw [Int32.toInt_neg]
  unfold Int.bmod
  simp only []
  have := (z32 (x := x)).1
  omega
theorem zi_mul {x y : Int32} (h : -2147483648 ≤ x.toInt * y.toInt) (h2 : x.toInt * y.toInt < 2147483648) : (x * y).toInt = x.toInt * y.toInt := by
  rw [Int32.toInt_mul]
  unfold Int.bmod
  simp only []
  omega
theorem z_cosIx_all : (List.range 36000).all (fun k => decide (0 ≤ (nI k + 9000 - (nI k + 9000) / 36000 * 36000).toInt ∧ (nI k + 9000 - (nI k + 9000) / 36000 * 36000).toInt < 36000)) = true := by decide +kernel
theorem z_cosIx {x : Int32} (h : zcR x) : zcR (x + 9000 - (x + 9000) / 36000 * 36000) := by
  obtain ⟨k, hk, rfl⟩ := z_nIof (n := 36000) h.1 (by have := h.2; omega)
  exact co_dec z_cosIx_all hk
theorem z_half1 {x : Int32} (h : zcR x) (c : ¬ 18000 < x) : 0 ≤ x.toInt ∧ x.toInt < 18001 := by
  have h2 : ¬ (18000 : Int32).toInt < x.toInt := fun q => c (Int32.lt_iff_toInt_lt.mpr q)
  have h3 : (18000 : Int32).toInt = 18000 := by decide
  exact ⟨h.1, by omega⟩
theorem z_half2 {x : Int32} (h : zcR x) (c : 18000 < x) : 0 ≤ (x - 18000).toInt ∧ (x - 18000).toInt < 18001 := by
  have h2 := Int32.lt_iff_toInt_lt.mp c
  have h3 : (18000 : Int32).toInt = 18000 := by decide
  have h4 := h.2
  have h5 := zi_sub (x := x) (y := 18000) (by omega) (by omega)
  omega
theorem z_cofR {x : Int32} (h : zlR x) : 0 ≤ (fm_cof x).toInt ∧ (fm_cof x).toInt ≤ 7000 := by
  have h1 := h.1
  have h2 := h.2
  have e : (fm_size x).toInt = if 0 ≤ x.toInt then x.toInt else -x.toInt := by
    unfold fm_size
    by_cases c : (0 : Int32) ≤ x
    · have c' := Int32.le_iff_toInt_le.mp c
      have z : (0 : Int32).toInt = 0 := by decide
      rw [if_pos c, if_pos (by omega)]
    · have c' : ¬ (0 : Int32).toInt ≤ x.toInt := fun q => c (Int32.le_iff_toInt_le.mpr q)
      have z : (0 : Int32).toInt = 0 := by decide
      rw [if_neg c, if_neg (by omega), zi_neg (by omega)]
  have e2 : 0 ≤ (fm_size x).toInt ∧ (fm_size x).toInt ≤ 70000000 := by
    rw [e]; split <;> omega
  obtain ⟨k, hk, ek⟩ := z_nIof (x := fm_size x) (n := 70000001) e2.1 (by omega)
  have e3 : fm_cof x = nI (k / 10000) := by
    unfold fm_cof
    rw [ek]
    exact pk_div (by omega) (by decide) (by decide)
  rw [e3, nI_toInt (by omega)]
  omega
theorem z_cofC {x : Int32} (h : zlR x) : zcR (fm_cof x) := ⟨(z_cofR h).1, by have := (z_cofR h).2; omega⟩
theorem z_cos_all : (List.range 7001).all (fun k => decide (343163 ≤ (fm_cosine (nI k)).toInt ∧ (fm_cosine (nI k)).toInt ≤ 1000000)) = true := by decide +kernel
theorem z_cosR {x : Int32} (h : zlR x) : 343163 ≤ (fm_cosine (fm_cof x)).toInt ∧ (fm_cosine (fm_cof x)).toInt ≤ 1000000 := by
  have h2 := z_cofR h
  obtain ⟨k, hk, ek⟩ := z_nIof (x := fm_cof x) (n := 7001) h2.1 (by omega)
  rw [ek]
  exact co_dec z_cos_all hk
theorem z_cosNe {x : Int32} (h : zlR x) : ¬ fm_cosOf x = 0 := by
  intro e
  have h1 := (z_cosR h).1
  have h2 : (fm_cosOf x).toInt = (fm_cosine (fm_cof x)).toInt := Int32.toInt_toInt64 _
  rw [e] at h2
  have z : (0 : Int64).toInt = 0 := by decide
  omega
/-- what rest() needs -/
def okR (a : Nat → Int32) : Prop := zlR (a 0) ∧ (-70 ≤ (a 6).toInt ∧ (a 6).toInt ≤ 70) ∧ zcR (fm_course a)
theorem z_deg {x : Int32} (h : -70 ≤ x.toInt ∧ x.toInt ≤ 70) : zlR (1000000 * x) := by
  have z : (1000000 : Int32).toInt = 1000000 := by decide
  have e := zi_mul (x := 1000000) (y := x) (by rw [z]; omega) (by rw [z]; omega)
  unfold zlR
  rw [e, z]
  omega
theorem zm_ix (a b w : Nat) : nI a + nI b * nI w = nI (a + b * w) := by rw [pk_mul, nI_add]
def fm_csum (a : Nat → Int32) : Nat → Int32
  | 0 => 0
  | k + 1 => fm_csum a k + a (74 + k)
def fm_settled (a : Nat → Int32) : Int32 := (a (58 + 2 * 2) + 2 * a (58 + 2 * 1) + a (58 + 2 * 0)) / 4
def fm_mean (a : Nat → Int32) (s : Nat → Int64) : Int32 := ((s 1 - s 3) / (a 59 - a 63).toInt64).toInt32
/-- the turning points' numbers of minutes are not the same -/
def okT (a : Nat → Int32) : Prop := 3 ≤ a 13 → ¬ (a 59 - a 63).toInt64 = 0
def fm_compass (c : Nat) (a : Nat → Int32) (s : Nat → Int64) (x : Int32) : Int32 :=
  if x = 0 then a 4 else if x = 1 then a 5 else if x = 2 then fm_rest a else if x = 3 then a 12
  else if x = 4 then (if 3 ≤ a 13 then fm_settled a else -1000000006)
  else if x = 5 then (if 3 ≤ a 13 then fm_mean a s else -1000000006)
  else if x = 6 then (if 2 ≤ a 13 then a (58 + 2 * 0) - a (58 + 2 * 1) else -1000000006)
  else if x = 7 then fm_csum a c else if x = 8 then a 0 else if x = 9 then a 6 else if x = 10 then a 18 else -1000000002
def fm_turn (a : Nat → Int32) (i x : Int32) : Int32 := if i < 0 then -1000000001 else if i < a 13 then (if fm_in x 0 1 = 0 then -1000000002 else a (58 + 2 * i.toNatClampNeg + x.toNatClampNeg)) else -1000000001
def fm_check (a : Nat → Int32) (i : Int32) : Int32 := if i < 0 then -1000000001 else if i < a 15 then a (74 + i.toNatClampNeg) else -1000000001
def fm_reason (a : Nat → Int32) (s : Nat → Int64) : Int32 :=
  if 3 ≤ a 13 then
    (if fm_size (a (58 + 2 * 0) - a (58 + 2 * 1)) ≤ a (20 + 3) then
      (if fm_size (fm_settled a - fm_mean a s) ≤ a (20 + 4) then
        (if 3 ≤ a 15 then
          (if fm_size (100 * (fm_csum a 3 / 3) - fm_settled a) ≤ a (20 + 5) then
            (if fm_size (fm_settled a) ≤ a (20 + 5) then (if a 8 = 0 then 7 else 0) else 6)
          else 5)
        else 4)
      else 3)
    else 2)
  else 1
def fm_takes (w x : Int32) : Int32 :=
  if w = 0 then fm_in x 1 100 else if w = 1 then fm_in x 1 1000 else if w = 2 then fm_in x 0 30000 else if w = 3 then fm_in x 0 100000
  else if w = 4 then fm_in x 0 20000 else if w = 5 then fm_in x 0 50000 else if w = 6 then fm_in x 0 500 else if w = 7 then fm_in x 0 65535
  else if w = 8 then (if fm_in x 0 60 = 0 then 0 else 1) else 0
def fm_state (a : Nat → Int32) (pm qm x : Int32) : Int32 :=
  if fm_in x 8 12 = 0 then
    (if fm_in x 22 30 = 0 then
      (if x = 0 then a 10 else if x = 1 then fm_course a else if x = 2 then fm_speed a else if x = 3 then a 3
       else if x = 4 then (if a 3 = 0 then 0 else a 36) else if x = 5 then a 11 else if x = 6 then a 8
       else if x = 7 then (if 0 ≤ a 9 then a 10 - a 9 else -6)
       else if x = 13 then a 13 else if x = 14 then a 14 else if x = 15 then a 15 else if x = 16 then a 16 else if x = 17 then a 17
       else if x = 18 then a 7 else if x = 19 then a 19 else if x = 20 then qm else if x = 21 then pm else -2)
    else a (20 + (x - 22).toNatClampNeg))
  else a (29 + x - 8).toNatClampNeg
def fm_wave (x w : Int32) : Int32 := if fm_in x 0 35999 = 0 then -1000000002 else if fm_in w 0 1 = 0 then -1000000002 else if w = 0 then fm_sine x else fm_cosine x
def fm_restAt (a : Nat → Int32) (x y z : Int32) : Int32 := if fm_in x (-70) 70 = 0 then -1000000002 else if fm_in y 0 400 = 0 then -1000000002 else if fm_in z 0 35999 = 0 then -1000000002 else fm_restBy a (1000000 * x) y z
def fm_calm (a : Nat → Int32) (b : Int32) : Int32 := if b < fm_size (a 4 - fm_rest a) then 0 else if b < fm_size (a 5) then 0 else 1
theorem fm_in1 {x lo hi : Int32} (h : ¬ fm_in x lo hi = 0) : lo.toInt ≤ x.toInt ∧ x.toInt ≤ hi.toInt := by
  unfold fm_in at h
  by_cases h1 : x < lo
  · rw [if_pos h1] at h; exact absurd rfl h
  · rw [if_neg h1] at h
    by_cases h2 : hi < x
    · rw [if_pos h2] at h; exact absurd rfl h
    · have a1 : ¬ x.toInt < lo.toInt := fun q => h1 (Int32.lt_iff_toInt_lt.mpr q)
      have a2 : ¬ hi.toInt < x.toInt := fun q => h2 (Int32.lt_iff_toInt_lt.mpr q)
      omega
