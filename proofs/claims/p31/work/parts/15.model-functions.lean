/-! the other side: its numbers -/
def fm_in (x lo hi : Int32) : Int32 := if x < lo then 0 else if hi < x then 0 else 1
theorem fm_in_b (a b c : Int32) : narrow .boolean (.int (fm_in a b c)) = .int (fm_in a b c) := by
  unfold fm_in
  split
  · rfl
  · split <;> rfl
def fm_size (x : Int32) : Int32 := if 0 ≤ x then x else -x
def fm_lim (x : Int64) (m : Int32) : Int32 := (if x ≤ m.toInt64 then (if (-m).toInt64 ≤ x then x else (-m).toInt64) else m.toInt64).toInt32
def fm_half (x : Int32) : Int32 := (4000000 * (x.toInt64 * (18000 - x).toInt64) / (405000000 - x.toInt64 * (18000 - x).toInt64)).toInt32
def fm_sine (x : Int32) : Int32 := if 18000 < x then -(fm_half (x - 18000)) else fm_half x
def fm_cosine (x : Int32) : Int32 := fm_sine (x + 9000 - (x + 9000) / 36000 * 36000)
def fm_cof (x : Int32) : Int32 := fm_size x / 10000
def fm_sineOf (x : Int32) : Int64 := if 0 ≤ x then (fm_sine (fm_cof x)).toInt64 else (-(fm_sine (fm_cof x))).toInt64
def fm_cosOf (x : Int32) : Int64 := (fm_cosine (fm_cof x)).toInt64
def fm_restBy (a : Nat → Int32) (la sp co : Int32) : Int32 := ((a (20 + 2)).toInt64 * fm_sineOf la / fm_cosOf la - 64 * sp.toInt64 * (fm_cosine co).toInt64 / fm_cosOf la).toInt32
def fm_course (a : Nat → Int32) : Int32 := if a 3 ≤ 0 then a 1 else a 34
def fm_speed (a : Nat → Int32) : Int32 := if a 3 ≤ 0 then a 2 else a 35
def fm_rest (a : Nat → Int32) : Int32 := fm_restBy a (a 0) (fm_speed a) (fm_course a) - fm_restBy a (1000000 * a 6) (a 7) (fm_course a)
/-- numbers for which no divisor is 0 -/
def zcR (x : Int32) : Prop := 0 ≤ x.toInt ∧ x.toInt < 36000
def zlR (x : Int32) : Prop := -70000000 ≤ x.toInt ∧ x.toInt ≤ 70000000
theorem z32 {x : Int32} : x.toInt < 2147483648 ∧ -2147483648 ≤ x.toInt := ⟨by have := Int32.toInt_lt x; omega, by have := Int32.le_toInt x; omega⟩
theorem z64 {x : Int64} : x.toInt < 9223372036854775808 ∧ -9223372036854775808 ≤ x.toInt := ⟨by have := Int64.toInt_lt x; omega, by have := Int64.le_toInt x; omega⟩
theorem z_nIof {x : Int32} {n : Nat} (h : 0 ≤ x.toInt) (h2 : x.toInt < n) : ∃ k : Nat, k < n ∧ x = nI k := by
  refine ⟨x.toInt.toNat, by omega, ?_⟩
  apply Int32.toInt_inj.mp
  rw [nI_toInt (by have := (z32 (x := x)).1; omega)]
  omega
theorem z_half_all : (List.range 18001).all (fun k => decide (¬ (405000000 - (nI k).toInt64 * (18000 - nI k).toInt64 = 0))) = true := by decide +kernel
theorem z_half_ne {x : Int32} (h : 0 ≤ x.toInt) (h2 : x.toInt < 18001) : ¬ (405000000 - x.toInt64 * (18000 - x).toInt64 = 0) := by
  obtain ⟨k, hk, rfl⟩ := z_nIof (n := 18001) h (by omega)
  exact co_dec z_half_all hk
theorem zi_add {x y : Int32} (h : -2147483648 ≤ x.toInt + y.toInt) (h2 : x.toInt + y.toInt < 2147483648) : (x + y).toInt = x.toInt + y.toInt := by
  rw [Int32.toInt_add]
  unfold Int.bmod
  simp only []
  omega
theorem zi_sub {x y : Int32} (h : -2147483648 ≤ x.toInt - y.toInt) (h2 : x.toInt - y.toInt < 2147483648) : (x - y).toInt = x.toInt - y.toInt := by
  rw [Int32.toInt_sub]
  unfold Int.bmod
  simp only []
  omega
theorem zi_neg {x : Int32} (h : -2147483648 < x.toInt) : (-x).toInt = -x.toInt := by
  rw [Int32.toInt_neg]
  unfold Int.bmod
  simp only []
  have := (z32 (x := x)).1
  omega
theorem zi_mul {x y : Int32} (h : -2147483648 ≤ x.toInt * y.toInt) (h2 : x.toInt * y.toInt < 2147483648) : (x * y).toInt = x.toInt * y.toInt := by
  rw [Int32.toInt_mul]
  unfold Int.bmod
  simp only []
  omega
theorem z_cosIx_all : (List.range 36000).all (fun k => decide (0 ≤ (nI k + 9000 - (nI k + 9000) / 36000 * 36000).toInt ∧ (nI k + 9000 - (nI k + 9000) / 36000 * 36000).toInt < 36000)) = true := by decide +kernel
theorem z_cosIx {x : Int32} (h : zcR x) : zcR (x + 9000 - (x + 9000) / 36000 * 36000) := by
  obtain ⟨k, hk, rfl⟩ := z_nIof (n := 36000) h.1 (by have := h.2; omega)
  exact co_dec z_cosIx_all hk
theorem z_half1 {x : Int32} (h : zcR x) (c : ¬ 18000 < x) : 0 ≤ x.toInt ∧ x.toInt < 18001 := by
  have h2 : ¬ (18000 : Int32).toInt < x.toInt := fun q => c (Int32.lt_iff_toInt_lt.mpr q)
  have h3 : (18000 : Int32).toInt = 18000 := by decide
  exact ⟨h.1, by omega⟩
theorem z_half2 {x : Int32} (h : zcR x) (c : 18000 < x) : 0 ≤ (x - 18000).toInt ∧ (x - 18000).toInt < 18001 := by
  have h2 := Int32.lt_iff_toInt_lt.mp c
  have h3 : (18000 : Int32).toInt = 18000 := by decide
  have h4 := h.2
  have h5 := zi_sub (x := x) (y := 18000) (by omega) (by omega)
  omega
theorem z_cofR {x : Int32} (h : zlR x) : 0 ≤ (fm_cof x).toInt ∧ (fm_cof x).toInt ≤ 7000 := by
  have h1 := h.1
  have h2 := h.2
  have e : (fm_size x).toInt = if 0 ≤ x.toInt then x.toInt else -x.toInt := by
    unfold fm_size
    by_cases c : (0 : Int32) ≤ x
    · have c' := Int32.le_iff_toInt_le.mp c
      have z : (0 : Int32).toInt = 0 := by decide
      rw [if_pos c, if_pos (by omega)]
    · have c' : ¬ (0 : Int32).toInt ≤ x.toInt := fun q => c (Int32.le_iff_toInt_le.mpr q)
      have z : (0 : Int32).toInt = 0 := by decide
      rw [if_neg c, if_neg (by omega), zi_neg (by omega)]
  have e2 : 0 ≤ (fm_size x).toInt ∧ (fm_size x).toInt ≤ 70000000 := by
    rw [e]; split <;> omega
  obtain ⟨k, hk, ek⟩ := z_nIof (x := fm_size x) (n := 70000001) e2.1 (by omega)
  have e3 : fm_cof x = nI (k / 10000) := by
    unfold fm_cof
    rw [ek]
    exact pk_div (by omega) (by decide) (by decide)
  rw [e3, nI_toInt (by omega)]
  omega
theorem z_cofC {x : Int32} (h : zlR x) : zcR (fm_cof x) := ⟨(z_cofR h).1, by have := (z_cofR h).2; omega⟩
theorem z_cos_all : (List.range 7001).all (fun k => decide (343163 ≤ (fm_cosine (nI k)).toInt ∧ (fm_cosine (nI k)).toInt ≤ 1000000)) = true := by decide +kernel
theorem z_cosR {x : Int32} (h : zlR x) : 343163 ≤ (fm_cosine (fm_cof x)).toInt ∧ (fm_cosine (fm_cof x)).toInt ≤ 1000000 := by
  have h2 := z_cofR h
  obtain ⟨k, hk, ek⟩ := z_nIof (x := fm_cof x) (n := 7001) h2.1 (by omega)
  rw [ek]
  exact co_dec z_cos_all hk
theorem z_cosNe {x : Int32} (h : zlR x) : ¬ fm_cosOf x = 0 := by
  intro e
  have h1 := (z_cosR h).1
  have h2 : (fm_cosOf x).toInt = (fm_cosine (fm_cof x)).toInt := Int32.toInt_toInt64 _
  rw [e] at h2
  have z : (0 : Int64).toInt = 0 := by decide
  omega
/-- what rest() needs -/
def okR (a : Nat → Int32) : Prop := zlR (a 0) ∧ (-70 ≤ (a 6).toInt ∧ (a 6).toInt ≤ 70) ∧ zcR (fm_course a)
theorem z_deg {x : Int32} (h : -70 ≤ x.toInt ∧ x.toInt ≤ 70) : zlR (1000000 * x) := by
  have z : (1000000 : Int32).toInt = 1000000 := by decide
  have e := zi_mul (x := 1000000) (y := x) (by rw [z]; omega) (by rw [z]; omega)
  unfold zlR
  rw [e, z]
  omega
theorem zm_ix (a b w : Nat) : nI a + nI b * nI w = nI (a + b * w) := by rw [pk_mul, nI_add]
def fm_csum (a : Nat → Int32) : Nat → Int32
  | 0 => 0
  | k + 1 => fm_csum a k + a (74 + k)
def fm_settled (a : Nat → Int32) : Int32 := (a (58 + 2 * 2) + 2 * a (58 + 2 * 1) + a (58 + 2 * 0)) / 4
def fm_mean (a : Nat → Int32) (s : Nat → Int64) : Int32 := ((s 1 - s 3) / (a 59 - a 63).toInt64).toInt32
/-- the turning points' numbers of minutes are not the same -/
def okT (a : Nat → Int32) : Prop := 3 ≤ a 13 → ¬ (a 59 - a 63).toInt64 = 0
def fm_compass (c : Nat) (a : Nat → Int32) (s : Nat → Int64) (x : Int32) : Int32 :=
  if x = 0 then a 4 else if x = 1 then a 5 else if x = 2 then fm_rest a else if x = 3 then a 12
  else if x = 4 then (if 3 ≤ a 13 then fm_settled a else -1000000006)
  else if x = 5 then (if 3 ≤ a 13 then fm_mean a s else -1000000006)
  else if x = 6 then (if 2 ≤ a 13 then a (58 + 2 * 0) - a (58 + 2 * 1) else -1000000006)
  else if x = 7 then fm_csum a c else if x = 8 then a 0 else if x = 9 then a 6 else if x = 10 then a 18 else -1000000002
def fm_turn (a : Nat → Int32) (i x : Int32) : Int32 := if i < 0 then -1000000001 else if i < a 13 then (if fm_in x 0 1 = 0 then -1000000002 else a (58 + 2 * i.toNatClampNeg + x.toNatClampNeg)) else -1000000001
def fm_check (a : Nat → Int32) (i : Int32) : Int32 := if i < 0 then -1000000001 else if i < a 15 then a (74 + i.toNatClampNeg) else -1000000001
def fm_reason (a : Nat → Int32) (s : Nat → Int64) : Int32 :=
  if 3 ≤ a 13 then
    (if fm_size (a (58 + 2 * 0) - a (58 + 2 * 1)) ≤ a (20 + 3) then
      (if fm_size (fm_settled a - fm_mean a s) ≤ a (20 + 4) then
        (if 3 ≤ a 15 then
          (if fm_size (100 * (fm_csum a 3 / 3) - fm_settled a) ≤ a (20 + 5) then
            (if fm_size (fm_settled a) ≤ a (20 + 5) then (if a 8 = 0 then 7 else 0) else 6)
          else 5)
        else 4)
      else 3)
    else 2)
  else 1
def fm_takes (w x : Int32) : Int32 :=
  if w = 0 then fm_in x 1 100 else if w = 1 then fm_in x 1 1000 else if w = 2 then fm_in x 0 30000 else if w = 3 then fm_in x 0 100000
  else if w = 4 then fm_in x 0 20000 else if w = 5 then fm_in x 0 50000 else if w = 6 then fm_in x 0 500 else if w = 7 then fm_in x 0 65535
  else if w = 8 then (if fm_in x 0 60 = 0 then 0 else 1) else 0
def fm_state (a : Nat → Int32) (pm qm x : Int32) : Int32 :=
  if fm_in x 8 12 = 0 then
    (if fm_in x 22 30 = 0 then
      (if x = 0 then a 10 else if x = 1 then fm_course a else if x = 2 then fm_speed a else if x = 3 then a 3
       else if x = 4 then (if a 3 = 0 then 0 else a 36) else if x = 5 then a 11 else if x = 6 then a 8
       else if x = 7 then (if 0 ≤ a 9 then a 10 - a 9 else -6)
       else if x = 13 then a 13 else if x = 14 then a 14 else if x = 15 then a 15 else if x = 16 then a 16 else if x = 17 then a 17
       else if x = 18 then a 7 else if x = 19 then a 19 else if x = 20 then qm else if x = 21 then pm else -2)
    else a (20 + (x - 22).toNatClampNeg))
  else a (29 + x - 8).toNatClampNeg
def fm_wave (x w : Int32) : Int32 := if fm_in x 0 35999 = 0 then -1000000002 else if fm_in w 0 1 = 0 then -1000000002 else if w = 0 then fm_sine x else fm_cosine x
def fm_restAt (a : Nat → Int32) (x y z : Int32) : Int32 := if fm_in x (-70) 70 = 0 then -1000000002 else if fm_in y 0 400 = 0 then -1000000002 else if fm_in z 0 35999 = 0 then -1000000002 else fm_restBy a (1000000 * x) y z
def fm_calm (a : Nat → Int32) (b : Int32) : Int32 := if b < fm_size (a 4 - fm_rest a) then 0 else if b < fm_size (a 5) then 0 else 1
theorem fm_in1 {x lo hi : Int32} (h : ¬ fm_in x lo hi = 0) : lo.toInt ≤ x.toInt ∧ x.toInt ≤ hi.toInt := by
  unfold fm_in at h
  by_cases h1 : x < lo
  · rw [if_pos h1] at h; exact absurd rfl h
  · rw [if_neg h1] at h
    by_cases h2 : hi < x
    · rw [if_pos h2] at h; exact absurd rfl h
    · have a1 : ¬ x.toInt < lo.toInt := fun q => h1 (Int32.lt_iff_toInt_lt.mpr q)
      have a2 : ¬ hi.toInt < x.toInt := fun q => h2 (Int32.lt_iff_toInt_lt.mpr q)
      omega

theorem z_ix13 {x y : Int32} {n : Nat} (h0 : ¬ x < 0) (h : x < y) (hy : y.toInt ≤ n) : ∃ k : Nat, k < n ∧ x = nI k := by
  have a0 : ¬ x.toInt < (0 : Int32).toInt := fun q => h0 (Int32.lt_iff_toInt_lt.mpr q)
  have z : (0 : Int32).toInt = 0 := by decide
  have a1 := Int32.lt_iff_toInt_lt.mp h
  exact z_nIof (by omega) (by omega)
theorem z_ix01 {x : Int32} (h : ¬ fm_in x 0 1 = 0) : ∃ k : Nat, k < 2 ∧ x = nI k := by
  have h1 := fm_in1 h
  have z : (0 : Int32).toInt = 0 := by decide
  have z1 : (1 : Int32).toInt = 1 := by decide
  exact z_nIof (by omega) (by omega)
theorem zm_ix2 (a b w q : Nat) : nI a + nI b * nI w + nI q = nI (a + b * w + q) := by rw [pk_mul, nI_add, nI_add]
theorem z_ixs {x : Int32} (h : (8 : Int32).toInt ≤ x.toInt ∧ x.toInt ≤ (12 : Int32).toInt) : ∃ k : Nat, k < 34 ∧ 29 + x - 8 = nI k := by
  have z : (8 : Int32).toInt = 8 := by decide
  have z1 : (12 : Int32).toInt = 12 := by decide
  obtain ⟨j, hj, rfl⟩ := z_nIof (x := x) (n := 13) (by omega) (by omega)
  refine ⟨29 + j - 8, by omega, ?_⟩
  rw [nI_toInt (by omega)] at h
  have e : (29 : Int32) + nI j = nI (29 + j) := nI_add 29 j
  rw [e]
  exact pk_sub (a := 29 + j) (b := 8) (by omega)
theorem z_ixt {x : Int32} (h : (22 : Int32).toInt ≤ x.toInt ∧ x.toInt ≤ (30 : Int32).toInt) : ∃ k : Nat, k < 9 ∧ x - 22 = nI k := by
  have z : (22 : Int32).toInt = 22 := by decide
  have z1 : (30 : Int32).toInt = 30 := by decide
  obtain ⟨j, hj, rfl⟩ := z_nIof (x := x) (n := 31) (by omega) (by omega)
  rw [nI_toInt (by omega)] at h
  exact ⟨j - 22, by omega, pk_sub (a := j) (b := 22) (by omega)⟩
theorem zcR_of {x : Int32} (h : ¬ fm_in x 0 35999 = 0) : zcR x := by
  have h1 := fm_in1 h
  have z : (0 : Int32).toInt = 0 := by decide
  have z1 : (35999 : Int32).toInt = 35999 := by decide
  exact ⟨by omega, by omega⟩
theorem zdR_of {x : Int32} (h : ¬ fm_in x (-70) 70 = 0) : -70 ≤ x.toInt ∧ x.toInt ≤ 70 := by
  have h1 := fm_in1 h
  have z : (-70 : Int32).toInt = -70 := by decide
  have z1 : (70 : Int32).toInt = 70 := by decide
  exact ⟨by omega, by omega⟩

/-! the other side: what its changes do to its rows -/
def zsf {α : Type} (k d : Nat) (f : Nat → α) : Nat → α := fun j => if j < k then f (j + d) else f j
theorem zsf_0 {α : Type} (d : Nat) (f : Nat → α) : zsf 0 d f = f := by
  funext j; unfold zsf; rw [if_neg (Nat.not_lt_zero j)]
theorem zsf_s (k d : Nat) (f : Nat → Int32) : upd (zsf k d f) k (zsf k d f (k + d)) = zsf (k + 1) d f := by
  funext j
  unfold upd zsf
  by_cases h : j = k
  · subst h; rw [if_pos rfl, if_neg (by omega), if_pos (by omega)]
  · rw [if_neg h]
    by_cases h2 : j < k
    · rw [if_pos h2, if_pos (by omega)]
    · rw [if_neg h2, if_neg (by omega)]
theorem zsf_sL (k d : Nat) (f : Nat → Int64) : vp_updL (zsf k d f) k (zsf k d f (k + d)) = zsf (k + 1) d f := by
  funext j
  unfold vp_updL zsf
  by_cases h : j = k
  · subst h; rw [if_pos rfl, if_neg (by omega), if_pos (by omega)]
  · rw [if_neg h]
    by_cases h2 : j < k
    · rw [if_pos h2, if_pos (by omega)]
    · rw [if_neg h2, if_neg (by omega)]
def zpl {α : Type} (o k : Nat) (f g : Nat → α) : Nat → α := fun j => if o ≤ j ∧ j < o + k then g (j - o) else f j
theorem zpl_0 {α : Type} (o : Nat) (f g : Nat → α) : zpl o 0 f g = f := by
  funext j; unfold zpl; rw [if_neg (by omega)]
theorem zpl_s (o k : Nat) (f g : Nat → Int32) : upd (zpl o k f g) (o + k) (g k) = zpl o (k + 1) f g := by
  funext j
  unfold upd zpl
  by_cases h : j = o + k
  · subst h; rw [if_pos rfl, if_pos (by omega), show o + k - o = k by omega]
  · rw [if_neg h]
    by_cases h2 : o ≤ j ∧ j < o + k
    · rw [if_pos h2, if_pos (by omega)]
    · rw [if_neg h2, if_neg (by omega)]
theorem zpl_sL (o k : Nat) (f g : Nat → Int64) : vp_updL (zpl o k f g) (o + k) (g k) = zpl o (k + 1) f g := by
  funext j
  unfold vp_updL zpl
  by_cases h : j = o + k
  · subst h; rw [if_pos rfl, if_pos (by omega), show o + k - o = k by omega]
  · rw [if_neg h]
    by_cases h2 : o ≤ j ∧ j < o + k
    · rw [if_pos h2, if_pos (by omega)]
    · rw [if_neg h2, if_neg (by omega)]
def zrd {α : Type} (o : Nat) (f : Nat → α) : Nat → α := fun j => f (o + j)
theorem zm_mk (a m k : Nat) : nI a * nI m + nI k = nI (a * m + k) := by rw [pk_mul, nI_add]
def fm_keep (pm : Nat) (v : vX10) : vX10 :=
  (v.1, v.2.1, v.2.2.1, v.2.2.2.1, zpl (85 * (if pm = 6 then 5 else pm)) 85 (if pm = 6 then zsf 425 85 v.2.2.2.2.1 else v.2.2.2.2.1) v.1, zpl (9 * (if pm = 6 then 5 else pm)) 9 (if pm = 6 then zsf 45 9 v.2.2.2.2.2.1 else v.2.2.2.2.2.1) v.2.1, nI ((if pm = 6 then 5 else pm) + 1), v.2.2.2.2.2.2.2)
def fm_aside (v : vX10) : vX10 := (v.1, v.2.1, v.1, v.2.1, v.2.2.2.2)
def fm_back (v : vX10) : vX10 := (v.2.2.1, v.2.2.2.1, v.2.2)
def fm_start (pm : Nat) (v : vX10) (x y : Int32) : Int32 × vX10 :=
  if fm_in x (-900000) 900000 = 0 then (-1000000002, v) else if fm_in y (-100000) 100000 = 0 then (-1000000002, v)
  else ((fm_keep pm v).1 4, (upd (upd (fm_keep pm v).1 4 x) 5 y, (fm_keep pm v).2))
def fm_place (pm : Nat) (v : vX10) (x : Int32) : Int32 × vX10 :=
  if fm_in x (-70) 70 = 0 then (-2, v) else if v.1 3 ≤ 0 then (upd (fm_keep pm v).1 0 (1000000 * x) 3, (upd (fm_keep pm v).1 0 (1000000 * x), (fm_keep pm v).2)) else (-5, v)
def fm_line (pm n : Nat) (v : vX10) (x : Int32) : Int32 × vX10 :=
  if fm_in x 0 35999 = 0 then (-2, v) else if v.1 19 = 6 then (-4, v)
  else (upd (upd (fm_keep pm v).1 (79 + n) x) 19 (upd (fm_keep pm v).1 (79 + n) x 19 + 1) 19 - 1, (upd (upd (fm_keep pm v).1 (79 + n) x) 19 (upd (fm_keep pm v).1 (79 + n) x 19 + 1), (fm_keep pm v).2))
def fm_steer (pm : Nat) (v : vX10) (x y : Int32) : Int32 × vX10 :=
  if fm_in x 0 35999 = 0 then (-2, v) else if fm_in y 0 400 = 0 then (-2, v)
  else ((fm_keep pm v).1 3, (upd (upd (upd (fm_keep pm v).1 3 0) 1 x) 2 y, (fm_keep pm v).2))
def fm_addLeg (k : Nat) (a : Nat → Int32) (x y z : Int32) : Nat → Int32 := upd (upd (upd (upd a (34 + 3 * k) x) (34 + 3 * k + 1) y) (34 + 3 * k + 2) z) 3 (upd (upd (upd a (34 + 3 * k) x) (34 + 3 * k + 1) y) (34 + 3 * k + 2) z 3 + 1)
def fm_damp (pm : Nat) (v : vX10) (x : Int32) : Int32 × vX10 :=
  if fm_in x 0 4 = 0 then (-2, v)
  else if v.1 9 < 0 then ((fm_keep pm v).1 8, (upd (upd (fm_keep pm v).1 8 x) 9 (upd (fm_keep pm v).1 8 x 10), (fm_keep pm v).2))
  else if v.1 (20 + 8) ≤ v.1 10 - v.1 9 then ((fm_keep pm v).1 8, (upd (upd (fm_keep pm v).1 8 x) 9 (upd (fm_keep pm v).1 8 x 10), (fm_keep pm v).2))
  else (-5, v)
def fm_correct (pm : Nat) (v : vX10) (x y : Int32) : Int32 × vX10 :=
  if fm_in x (-70) 70 = 0 then (-2, v) else if fm_in y 0 400 = 0 then (-2, v)
  else (if fm_rest (upd (upd (fm_keep pm v).1 6 x) 7 y) = fm_rest (fm_keep pm v).1 then 0 else 1, (upd (upd (fm_keep pm v).1 6 x) 7 y, (fm_keep pm v).2))
def fm_forget (pm : Nat) (v : vX10) : Int32 × vX10 := ((fm_keep pm v).1 13, (upd (upd (fm_keep pm v).1 13 0) 12 0, (fm_keep pm v).2))
def fm_guess (pm : Nat) (v : vX10) (x : Int32) : Int32 × vX10 :=
  if fm_in x (-1800000) 1800000 = 0 then (-2, v)
  else (fm_size (x - fm_rest (fm_keep pm v).1), (upd (upd (fm_keep pm v).1 18 ((fm_keep pm v).1 18 + fm_size (x - fm_rest (fm_keep pm v).1))) 17 (upd (fm_keep pm v).1 18 ((fm_keep pm v).1 18 + fm_size (x - fm_rest (fm_keep pm v).1)) 17 + 1), (fm_keep pm v).2))
def fm_wipe (v : vX10) : Int32 × vX10 := (v.2.2.2.2.2.2.2.2.2.2.2.1, (v.1, v.2.1, v.2.2.1, v.2.2.2.1, v.2.2.2.2.1, v.2.2.2.2.2.1, v.2.2.2.2.2.2.1, v.2.2.2.2.2.2.2.1, v.2.2.2.2.2.2.2.2.1, v.2.2.2.2.2.2.2.2.2.1, v.2.2.2.2.2.2.2.2.2.2.1, 0, v.2.2.2.2.2.2.2.2.2.2.2.2))
def fm_undo (pm : Nat) (v : vX10) : Int32 × vX10 := if pm = 0 then (-5, v) else (nI (pm - 1), (zrd (85 * (pm - 1)) v.2.2.2.2.1, zrd (9 * (pm - 1)) v.2.2.2.2.2.1, v.2.2.1, v.2.2.2.1, v.2.2.2.2.1, v.2.2.2.2.2.1, nI (pm - 1), v.2.2.2.2.2.2.2))
def fm_save (q : Nat) (v : vX10) : Int32 × vX10 := (v.1 10, (v.1, v.2.1, v.2.2.1, v.2.2.2.1, v.2.2.2.2.1, v.2.2.2.2.2.1, v.2.2.2.2.2.2.1, zpl (85 * q) 85 v.2.2.2.2.2.2.2.1 v.1, zpl (9 * q) 9 v.2.2.2.2.2.2.2.2.1 v.2.1, upd v.2.2.2.2.2.2.2.2.2.1 q 1, v.2.2.2.2.2.2.2.2.2.2))
def fm_restore (pm q : Nat) (v : vX10) : Int32 × vX10 :=
  if v.2.2.2.2.2.2.2.2.2.1 q = 0 then (-5, v)
  else (zrd (85 * q) (fm_keep pm v).2.2.2.2.2.2.2.1 10, (zrd (85 * q) (fm_keep pm v).2.2.2.2.2.2.2.1, zrd (9 * q) (fm_keep pm v).2.2.2.2.2.2.2.2.1, (fm_keep pm v).2.2))
theorem z_takes {x y : Int32} (h : ¬ fm_takes x y = 0) : ∃ w : Nat, w < 9 ∧ x = nI w := by
  unfold fm_takes at h
  by_cases h0 : x = 0
  · exact ⟨0, by decide, h0⟩
  by_cases h1 : x = 1
  · exact ⟨1, by decide, h1⟩
  by_cases h2 : x = 2
  · exact ⟨2, by decide, h2⟩
  by_cases h3 : x = 3
  · exact ⟨3, by decide, h3⟩
  by_cases h4 : x = 4
  · exact ⟨4, by decide, h4⟩
  by_cases h5 : x = 5
  · exact ⟨5, by decide, h5⟩
  by_cases h6 : x = 6
  · exact ⟨6, by decide, h6⟩
  by_cases h7 : x = 7
  · exact ⟨7, by decide, h7⟩
  by_cases h8 : x = 8
  · exact ⟨8, by decide, h8⟩
  simp only [if_neg h0, if_neg h1, if_neg h2, if_neg h3, if_neg h4, if_neg h5, if_neg h6, if_neg h7, if_neg h8] at h
  exact absurd trivial h
theorem okR_set {a : Nat → Int32} {x y : Int32} (h : okR a) (hx : -70 ≤ x.toInt ∧ x.toInt ≤ 70) : okR (upd (upd a 6 x) 7 y) := ⟨h.1, hx, h.2.2⟩
/-- a stretch of a row moved up by one: the places b + k + 1 .. b + m hold their neighbours -/
def zcu {α : Type} (b m k : Nat) (f : Nat → α) : Nat → α := fun j => if b + k < j ∧ j ≤ b + m then f (j - 1) else f j
theorem zcu_0 {α : Type} (b m : Nat) (f : Nat → α) : zcu b m m f = f := by
  funext j; unfold zcu; rw [if_neg (by omega)]
theorem zcu_s {b m k : Nat} {f : Nat → Int32} (h : 0 < k) (hm : k ≤ m) : upd (zcu b m k f) (b + k) (zcu b m k f (b + k - 1)) = zcu b m (k - 1) f := by
  funext j
  unfold upd zcu
  by_cases hj : j = b + k
  · subst hj; rw [if_pos rfl, if_neg (by omega), if_pos (by omega)]
  · rw [if_neg hj]
    by_cases h2 : b + k < j ∧ j ≤ b + m
    · rw [if_pos h2, if_pos (by omega)]
    · rw [if_neg h2, if_neg (by omega)]
theorem zcu_s1 {m k : Nat} {f : Nat → Int64} (h : 0 < k) (hm : k ≤ m) : vp_updL (zcu 1 m k f) (1 + k) (zcu 1 m k f k) = zcu 1 m (k - 1) f := by
  funext j
  unfold vp_updL zcu
  by_cases hj : j = 1 + k
  · subst hj; rw [if_pos rfl, if_neg (by omega), if_pos (by omega), show 1 + k - 1 = k by omega]
  · rw [if_neg hj]
    by_cases h2 : 1 + k < j ∧ j ≤ 1 + m
    · rw [if_pos h2, if_pos (by omega)]
    · rw [if_neg h2, if_neg (by omega)]
/-- the turning points moved up by one (two places each) -/
def ztu (m k : Nat) (f : Nat → Int32) : Nat → Int32 := fun j => if 60 + 2 * k ≤ j ∧ j ≤ 59 + 2 * m then f (j - 2) else f j
theorem ztu_0 (m : Nat) (f : Nat → Int32) : ztu m m f = f := by
  funext j; unfold ztu; rw [if_neg (by omega)]
theorem ztu_s {m k : Nat} {f : Nat → Int32} (h : 0 < k) (hm : k ≤ m) : upd (upd (ztu m k f) (58 + 2 * k) (ztu m k f (58 + 2 * k - 2))) (58 + 2 * k + 1) (upd (ztu m k f) (58 + 2 * k) (ztu m k f (58 + 2 * k - 2)) (58 + 2 * k - 1)) = ztu m (k - 1) f := by
  funext j
  unfold upd ztu
  by_cases hj : j = 58 + 2 * k + 1
  · subst hj; rw [if_pos rfl, if_neg (by omega), if_neg (by omega), if_pos (by omega), show 58 + 2 * k + 1 - 2 = 58 + 2 * k - 1 by omega]
  · rw [if_neg hj]
    by_cases hj2 : j = 58 + 2 * k
    · subst hj2; rw [if_pos rfl, if_neg (by omega), if_pos (by omega)]
    · rw [if_neg hj2]
      by_cases h2 : 60 + 2 * k ≤ j ∧ j ≤ 59 + 2 * m
      · rw [if_pos h2, if_pos (by omega)]
      · rw [if_neg h2, if_neg (by omega)]
/-- the legs moved down by one (three places each) -/
def zcl (k : Nat) (f : Nat → Int32) : Nat → Int32 := fun j => if 34 ≤ j ∧ j < 34 + k then f (j + 3) else f j
theorem zcl_0 (f : Nat → Int32) : zcl 0 f = f := by
  funext j; unfold zcl; rw [if_neg (by omega)]
theorem zcl_s (k : Nat) (f : Nat → Int32) : upd (zcl k f) (34 + k) (zcl k f (34 + k + 3)) = zcl (k + 1) f := by
  funext j
  unfold upd zcl
  by_cases h : j = 34 + k
  · subst h; rw [if_pos rfl, if_neg (by omega), if_pos (by omega)]
  · rw [if_neg h]
    by_cases h2 : 34 ≤ j ∧ j < 34 + k
    · rw [if_pos h2, if_pos (by omega)]
    · rw [if_neg h2, if_neg (by omega)]
theorem zcl_3 (k : Nat) (f : Nat → Int32) : zcl k f 3 = f 3 := by
  unfold zcl; rw [if_neg (by omega)]
def fm_addL (k : Nat) (v : vX10) (x y z : Int32) : vX10 := (fm_addLeg k v.1 x y z, v.2)
def fm_leg (pm k : Nat) (v : vX10) (x y z : Int32) : Int32 × vX10 :=
  if fm_in x 0 35999 = 0 then (-2, v) else if fm_in y 0 400 = 0 then (-2, v) else if fm_in z 1 600 = 0 then (-2, v) else if v.1 3 = 8 then (-4, v)
  else ((fm_addL k (fm_keep pm v) x y z).1 3, fm_addL k (fm_keep pm v) x y z)
def fm_set (pm : Nat) (v : vX10) (x y : Int32) : Int32 × vX10 := if fm_takes x y = 0 then (-2, v) else ((fm_keep pm v).1 (20 + x.toNatClampNeg), (upd (fm_keep pm v).1 (20 + x.toNatClampNeg) y, (fm_keep pm v).2))
/-- a check more: c are kept -/
def fm_chk (c : Nat) (a : Nat → Int32) (d : Int32) : Nat → Int32 := upd (upd (zcu 74 (if c < 5 then c else 4) 0 a) 74 d) 15 (nI ((if c < 5 then c else 4) + 1))
def fm_chkv (c : Nat) (v : vX10) (d : Int32) : vX10 := (fm_chk c v.1 d, v.2)
def fm_seed (a : Nat → Int32) : Int32 := 75 * a (20 + 7) + 74 - (75 * a (20 + 7) + 74) / 65537 * 65537
def fm_ob1 (a : Nat → Int32) : Nat → Int32 := upd a 27 (if fm_seed a = 65536 then 0 else fm_seed a)
def fm_diff (b : Nat → Int32) : Int32 := b 4 / 100 + (b (20 + 7) - b (20 + 7) / (2 * b (20 + 6) + 1) * (2 * b (20 + 6) + 1)) - b (20 + 6)
def fm_ob2 (c : Nat) (v : vX10) : vX10 := fm_chkv c (fm_ob1 v.1, v.2) (fm_diff (fm_ob1 v.1))
def fm_obs (pm c : Nat) (v : vX10) (x : Int32) : Int32 × vX10 :=
  if x < 0 then (-1, v) else if x < v.1 19 then
    (let w := fm_ob2 c (fm_keep pm v)
     let a := upd w.1 16 (w.1 16 + 1)
     let y := a (79 + x.toNatClampNeg) + fm_diff (fm_ob1 (fm_keep pm v).1)
     let z := y - y / 36000 * 36000 + 36000
     (z - z / 36000 * 36000, (a, w.2)))
  else (-1, v)
def fm_damp1 (a : Nat → Int32) : Int64 := if (a 8).toInt64 = 0 then 0 else 10 <<< ((a 8 - 1).toInt64 &&& 63)
def fm_tilt (a : Nat → Int32) : Int64 := (a 5).toInt64 - (a (20 + 0)).toInt64 * (a 4 - fm_rest a).toInt64 / 1000 * fm_cosOf (a 0) / 1000000
def fm_sw1 (a : Nat → Int32) : Nat → Int32 := upd a 5 (fm_lim (fm_tilt a - fm_tilt a * fm_damp1 a / 1000) 900000)
def fm_sw2 (b : Nat → Int32) : Nat → Int32 := upd b 4 (fm_lim ((b 4).toInt64 + (b (20 + 1)).toInt64 * (b 5).toInt64 / 1000) 1800000)
def fm_swing (v : vX10) : vX10 := (fm_sw2 (fm_sw1 v.1), v.2)
/-- a turning point more: t are kept -/
def fm_tn1 (t : Nat) (a : Nat → Int32) (e : Int32) : Nat → Int32 := upd (ztu (if t < 8 then t else 7) 0 a) 58 e
def fm_tn2 (t : Nat) (b : Nat → Int32) : Nat → Int32 := upd (upd (upd b 59 (b 10)) 13 (nI ((if t < 8 then t else 7) + 1))) 14 (upd (upd b 59 (b 10)) 13 (nI ((if t < 8 then t else 7) + 1)) 14 + 1)
def fm_tns (t : Nat) (s : Nat → Int64) : Nat → Int64 := vp_updL (zcu 1 (if t < 8 then t else 7) 0 s) 1 (zcu 1 (if t < 8 then t else 7) 0 s 0)
def fm_addTurn (t : Nat) (v : vX10) (e : Int32) : vX10 := (fm_tn2 t (fm_tn1 t v.1 e), fm_tns t v.2.1, v.2.2)
/-- the first leg is done: c are left -/
def fm_end (c : Nat) (a : Nat → Int32) : Nat → Int32 := upd (zcl (3 * c) (upd a 3 (nI c))) 2 (if zcl (3 * c) (upd a 3 (nI c)) 3 = 0 then 0 else zcl (3 * c) (upd a 3 (nI c)) 2)
def fm_endLeg (c : Nat) (v : vX10) : vX10 := (fm_end c v.1, v.2)
def fm_saveX (v : vX10) (x : Int32) : Int32 × vX10 := if fm_in x 0 1 = 0 then (-2, v) else fm_save x.toNatClampNeg v
def fm_restX (pm : Nat) (v : vX10) (x : Int32) : Int32 × vX10 := if fm_in x 0 1 = 0 then (-2, v) else fm_restore pm x.toNatClampNeg v

def fm_mm1 (a : Nat → Int32) : Nat → Int32 := upd (upd a 1 (fm_course a)) 2 (fm_speed (upd a 1 (fm_course a)))
def fm_dir (x b : Int32) : Int32 := if x ≤ b then -1 else 1
def fm_mm2 (t : Nat) (w : vX10) (b : Int32) : vX10 :=
  if w.1 4 = b then w
  else if w.1 12 = -fm_dir (w.1 4) b then (upd (fm_addTurn t w b).1 12 (fm_dir (w.1 4) b), (fm_addTurn t w b).2)
  else (upd w.1 12 (fm_dir (w.1 4) b), w.2)
def fm_ma (a : Nat → Int32) : Nat → Int32 := upd a 0 (fm_lim ((a 0).toInt64 + (a 2).toInt64 * 28 * (fm_cosine (a 1)).toInt64 / 1000000) 70000000)
def fm_mb (a : Nat → Int32) : Nat → Int32 := upd a 10 (a 10 + 1)
def fm_mc (lv : Nat) (a : Nat → Int32) : Nat → Int32 := upd a (29 + lv) (a (29 + lv) + 1)
def fm_md (a : Nat → Int32) : Nat → Int32 := upd a 11 (a 11 + a 2)
def fm_ms (a : Nat → Int32) (s : Nat → Int64) : Nat → Int64 := vp_updL s 0 (s 0 + (a 4).toInt64)
def fm_mm3 (lv : Nat) (w : vX10) : vX10 := (fm_md (fm_mc lv (fm_mb (fm_ma w.1))), fm_ms w.1 w.2.1, w.2.2)
def fm_me (a : Nat → Int32) : Nat → Int32 := upd a 36 (a 36 - 1)
def fm_mm4 (k : Nat) (w : vX10) : vX10 := if w.1 3 ≤ 0 then w else if fm_me w.1 36 = 0 then fm_endLeg (k - 1) (fm_me w.1, w.2) else (fm_me w.1, w.2)
def fm_minute (t lv k : Nat) (v : vX10) : vX10 := fm_mm4 k (fm_mm3 lv (fm_mm2 t (fm_swing (fm_mm1 v.1, v.2)) (fm_mm1 v.1 4)))
theorem okR_12 {a : Nat → Int32} (h : okR a) (s : Int32) : okR (upd (upd a 1 (fm_course a)) 2 s) := by
  refine ⟨h.1, h.2.1, ?_⟩
  have h2 := h.2.2
  show zcR (if a 3 ≤ 0 then fm_course a else a 34)
  split
  · exact h2
  · rename_i c; unfold fm_course at h2; rw [if_neg c] at h2; exact h2
theorem sw_8 (w : vX10) : (fm_swing w).1 8 = w.1 8 := rfl
theorem sw_3 (w : vX10) : (fm_swing w).1 3 = w.1 3 := rfl
theorem sw_1 (w : vX10) : (fm_swing w).1 1 = w.1 1 := rfl
theorem sw_13 (w : vX10) : (fm_swing w).1 13 = w.1 13 := rfl
theorem tn_lo (t : Nat) (w : vX10) (e : Int32) {j : Nat} (hj : j < 13) : (fm_addTurn t w e).1 j = w.1 j := by
  show upd (upd (upd (fm_tn1 t w.1 e) 59 _) 13 _) 14 _ j = _
  unfold upd
  rw [if_neg (by omega), if_neg (by omega), if_neg (by omega)]
  unfold fm_tn1 upd ztu
  rw [if_neg (by omega), if_neg (by omega)]
theorem mc_ne (lv : Nat) (a : Nat → Int32) {j : Nat} (hj : j < 29) : fm_mc lv a j = a j := by
  unfold fm_mc upd; rw [if_neg (by omega)]

abbrev vC : Type := (Nat → Int32) × (Nat → Int64)
abbrev vRest : Type := (Nat → Int32) × (Nat → Int64) × (Nat → Int32) × (Nat → Int64) × Int32 × (Nat → Int32) × (Nat → Int64) × (Nat → Int32) × (Nat → Int32) × Int32 × Int32 × Int32 × (Nat → Int32) × Int32
def fr0 : vRest := (fun _ => 0, fun _ => 0, fun _ => 0, fun _ => 0, 0, fun _ => 0, fun _ => 0, fun _ => 0, fun _ => 0, 0, 0, 0, fun _ => 0, 0)
def fm_lift (x : vC) (r : vRest) : vX10 := (x.1, x.2, r)
def fm_cut (v : vX10) : vC := (v.1, v.2.1)
theorem fm_cl (v : vX10) : fm_lift (fm_cut v) v.2.2 = v := rfl
theorem mm2_r (t : Nat) (x : vC) (r : vRest) (b : Int32) : fm_mm2 t (fm_lift x r) b = fm_lift (fm_cut (fm_mm2 t (fm_lift x fr0) b)) r := by
  unfold fm_mm2
  by_cases h : (fm_lift x r).1 4 = b
  · rw [if_pos h, if_pos (show (fm_lift x fr0).1 4 = b from h)]; rfl
  · rw [if_neg h, if_neg (show ¬ (fm_lift x fr0).1 4 = b from h)]
    by_cases h2 : (fm_lift x r).1 12 = -fm_dir ((fm_lift x r).1 4) b
    · rw [if_pos h2, if_pos (show (fm_lift x fr0).1 12 = -fm_dir ((fm_lift x fr0).1 4) b from h2)]; rfl
    · rw [if_neg h2, if_neg (show ¬ (fm_lift x fr0).1 12 = -fm_dir ((fm_lift x fr0).1 4) b from h2)]; rfl
theorem mm4_r (k : Nat) (x : vC) (r : vRest) : fm_mm4 k (fm_lift x r) = fm_lift (fm_cut (fm_mm4 k (fm_lift x fr0))) r := by
  unfold fm_mm4
  by_cases h : (fm_lift x r).1 3 ≤ 0
  · rw [if_pos h, if_pos (show (fm_lift x fr0).1 3 ≤ 0 from h)]; rfl
  · rw [if_neg h, if_neg (show ¬ (fm_lift x fr0).1 3 ≤ 0 from h)]
    by_cases h2 : fm_me (fm_lift x r).1 36 = 0
    · rw [if_pos h2, if_pos (show fm_me (fm_lift x fr0).1 36 = 0 from h2)]; rfl
    · rw [if_neg h2, if_neg (show ¬ fm_me (fm_lift x fr0).1 36 = 0 from h2)]; rfl
def nT (x : Int32) : Nat := x.toInt.toNat
theorem nT_eq {x : Int32} (h : 0 ≤ x.toInt) : x = nI (nT x) := by
  apply Int32.toInt_inj.mp
  unfold nT
  rw [nI_toInt (by have := (z32 (x := x)).1; omega)]
  omega
theorem nT_le {x : Int32} {n : Nat} (h : x.toInt ≤ n) : nT x ≤ n := by unfold nT; omega
/-- a minute, of the rows that it changes -/
def fm_min (x : vC) : vC := fm_cut (fm_minute (nT (x.1 13)) (nT (x.1 8)) (nT (x.1 3)) (fm_lift x fr0))
theorem mm3_r (lv : Nat) (y : vC) (q : vRest) : fm_mm3 lv (fm_lift y q) = fm_lift (fm_cut (fm_mm3 lv (fm_lift y fr0))) q := rfl
theorem fm_min_q (t lv k : Nat) (Y : vC) (b : Int32) (r : vRest) : fm_mm4 k (fm_mm3 lv (fm_mm2 t (fm_lift Y r) b)) = fm_lift (fm_cut (fm_mm4 k (fm_mm3 lv (fm_mm2 t (fm_lift Y fr0) b)))) r := by
  have hB := mm2_r t Y fr0 b
  rw [mm2_r t Y r b]
  generalize fm_mm2 t (fm_lift Y fr0) b = B at hB ⊢
  have h3 := mm3_r lv (fm_cut B) fr0
  rw [mm3_r lv (fm_cut B) r, ← hB]
  rw [← hB] at h3
  generalize fm_mm3 lv B = C at h3 ⊢
  rw [mm4_r k (fm_cut C) r, ← h3]
theorem sw_r (x : vC) (r : vRest) : fm_swing (fm_mm1 (fm_lift x r).1, (fm_lift x r).2) = fm_lift (fm_sw2 (fm_sw1 (fm_mm1 x.1)), x.2) r := rfl
theorem fm_min_r (x : vC) (r : vRest) : fm_minute (nT (x.1 13)) (nT (x.1 8)) (nT (x.1 3)) (fm_lift x r) = fm_lift (fm_min x) r := by
  unfold fm_min fm_minute
  rw [sw_r x r, sw_r x fr0]
  exact fm_min_q _ _ _ _ _ _
def fm_it : Nat → vC → vC
  | 0, x => x
  | k + 1, x => fm_min (fm_it k x)
/-- what a minute rests on -/
def MI (a : Nat → Int32) : Prop := okR a ∧ (0 ≤ (a 13).toInt ∧ (a 13).toInt ≤ 8) ∧ (0 ≤ (a 8).toInt ∧ (a 8).toInt ≤ 4) ∧ (0 ≤ (a 3).toInt ∧ (a 3).toInt ≤ 8)
def fm_pass (pm : Nat) (v : vX10) (x : Int32) : Int32 × vX10 :=
  if fm_in x 1 600 = 0 then (-2, v)
  else if v.1 10 + x ≤ 100000 then ((fm_it x.toNatClampNeg (fm_cut (fm_keep pm v))).1 14 - (fm_keep pm v).1 14, fm_lift (fm_it x.toNatClampNeg (fm_cut (fm_keep pm v))) (fm_keep pm v).2.2)
  else (-5, v)
theorem z_ix600 {x lo hi : Int32} {n : Nat} (h : ¬ fm_in x lo hi = 0) (h0 : 0 ≤ lo.toInt) (h1 : hi.toInt < n) : ∃ k : Nat, k < n ∧ x = nI k := by
  have h2 := fm_in1 h
  exact z_nIof (by omega) (by omega)
def fm_look (b : Int32) : Nat → Nat → vC → Int32
  | 0, k, w => if fm_calm w.1 b = 0 then -6 else nI k
  | d + 1, k, w => if fm_calm w.1 b = 0 then fm_look b d (k + 1) (fm_min w) else nI k
def fm_c0 (v : vX10) (lv : Int32) : vC := (upd v.1 8 lv, v.2.1)
def fm_calmBy (m : Nat) (v : vX10) (lv b : Int32) : Int32 × vX10 := (fm_look b m 0 (fm_c0 v lv), fm_aside v)
theorem fm_look_s {b : Int32} {m k : Nat} {x w : vC} (h : k < m) (hc : fm_calm w.1 b = 0) (e : fm_look b m 0 x = fm_look b (m - k) k w) : fm_look b m 0 x = fm_look b (m - (k + 1)) (k + 1) (fm_min w) := by
  rw [e, show m - k = (m - (k + 1)) + 1 by omega]
  show (if fm_calm w.1 b = 0 then _ else _) = _
  rw [if_pos hc]
theorem fm_look_0 {b : Int32} {d k : Nat} {w : vC} (hc : ¬ fm_calm w.1 b = 0) : fm_look b d k w = nI k := by
  cases d
  · show (if fm_calm w.1 b = 0 then _ else _) = _
    rw [if_neg hc]
  · show (if fm_calm w.1 b = 0 then _ else _) = _
    rw [if_neg hc]
def fm_calmIn (v : vX10) (x y : Int32) : Int32 × vX10 := if fm_in x 0 100000 = 0 then (-2, v) else if fm_in y 1 2000 = 0 then (-2, v) else fm_calmBy y.toNatClampNeg v (v.1 8) x
/-- best level and its minutes behind k levels -/
def fm_bl (m : Nat) (v : vX10) (b : Int32) : Nat → Int32 × Int32
  | 0 => (-6, nI m + 1)
  | k + 1 => if fm_look b m 0 (fm_c0 v (nI k)) < 0 then fm_bl m v b k
    else if (fm_bl m v b k).2 ≤ fm_look b m 0 (fm_c0 v (nI k)) then fm_bl m v b k else (nI k, fm_look b m 0 (fm_c0 v (nI k)))
def fm_best (v : vX10) (x y : Int32) : Int32 × vX10 := if fm_in x 0 100000 = 0 then (-2, v) else if fm_in y 1 500 = 0 then (-2, v) else ((fm_bl y.toNatClampNeg v x 5).1, fm_aside v)
theorem z_w2 {x : Int32} (h : 0 ≤ x.toInt ∧ x.toInt ≤ 500) : ¬ 2 * x + 1 = 0 := by
  obtain ⟨k, hk, rfl⟩ := z_nIof (x := x) (n := 501) h.1 (by omega)
  intro e
  have e2 : (2 : Int32) * nI k + 1 = nI (2 * k + 1) := by rw [show (2 : Int32) * nI k = nI (2 * k) from pk_mul 2 k]; exact nI_1 _
  rw [e2] at e
  have e3 := (nI_eq (a := 2 * k + 1) (b := 0) (by omega) (by decide)).mp e
  omega

def fm_bw (v : vX10) : Nat → vX10
  | 0 => v
  | _ + 1 => fm_aside v
theorem bw_c0 (v : vX10) (k : Nat) (lv : Int32) : fm_c0 (fm_bw v k) lv = fm_c0 v lv := by
  cases k <;> rfl
theorem bw_as (v : vX10) (k : Nat) : fm_aside (fm_bw v k) = fm_bw v (k + 1) := by
  cases k <;> rfl

/-! the other side's pad -/
def zus (x : Int64) : Int64 := (x.toUInt64 >>> ((8 : Int32).toInt64.toUInt64 &&& Int64.toUInt64 63)).toInt64
def fm_p1 : Nat → Nat → Int64 → Nat × Int64
  | 0, k, x => (k, x)
  | d + 1, k, x => if x &&& 255 = 0 then (k, x) else if fm_in (x &&& 255).toInt32 33 126 = 0 then (9, x) else fm_p1 d (k + 1) (zus x)
theorem fm_p1_s {k : Nat} {x0 x : Int64} (h : k < 8) (c1 : ¬ x &&& 255 = 0) (c2 : ¬ fm_in (x &&& 255).toInt32 33 126 = 0) (e : fm_p1 8 0 x0 = fm_p1 (8 - k) k x) : fm_p1 8 0 x0 = fm_p1 (8 - (k + 1)) (k + 1) (zus x) := by
  rw [e, show 8 - k = (8 - (k + 1)) + 1 by omega]
  show (if x &&& 255 = 0 then _ else _) = _
  rw [if_neg c1, if_neg c2]
theorem fm_p1_e {d k : Nat} {x : Int64} (h : 0 < d) (c1 : ¬ x &&& 255 = 0) (c2 : fm_in (x &&& 255).toInt32 33 126 = 0) : fm_p1 d k x = (9, x) := by
  obtain ⟨j, rfl⟩ : ∃ j, d = j + 1 := ⟨d - 1, by omega⟩
  show (if x &&& 255 = 0 then _ else _) = _
  rw [if_neg c1, if_pos c2]
theorem fm_p1_z {d k : Nat} {x : Int64} (c1 : x &&& 255 = 0) : fm_p1 d k x = (k, x) := by
  cases d
  · rfl
  · show (if x &&& 255 = 0 then _ else _) = _
    rw [if_pos c1]
def fm_sg (x : Int64) (n : Nat) : Nat → Int32 := fun k => ((x >>> ((8 * (nI n - 1 - nI k)).toInt64 &&& 63)) &&& 255).toInt32
def fm_pput (v : vX10) (f : Nat → Int32) (n : Int32) : vX10 := (v.1, v.2.1, v.2.2.1, v.2.2.2.1, v.2.2.2.2.1, v.2.2.2.2.2.1, v.2.2.2.2.2.2.1, v.2.2.2.2.2.2.2.1, v.2.2.2.2.2.2.2.2.1, v.2.2.2.2.2.2.2.2.2.1, f, n, v.2.2.2.2.2.2.2.2.2.2.2.2)
def fm_put (q0 : Nat) (v : vX10) (x : Int64) : Int32 × vX10 :=
  if (fm_p1 8 0 x).1 = 9 then (-2, v) else if (fm_p1 8 0 x).1 = 0 then (-2, v) else if (fm_p1 8 0 x).2 = 0 then
    (if q0 + (fm_p1 8 0 x).1 ≤ 80 then (nI (q0 + (fm_p1 8 0 x).1), fm_pput v (zpl q0 (fm_p1 8 0 x).1 v.2.2.2.2.2.2.2.2.2.2.1 (fm_sg x (fm_p1 8 0 x).1)) (nI (q0 + (fm_p1 8 0 x).1))) else (-4, v))
  else (-2, v)
abbrev fq (v : vX10) : Int32 := v.2.2.2.2.2.2.2.2.2.2.2.1
abbrev fp (v : vX10) : Nat → Int32 := v.2.2.2.2.2.2.2.2.2.2.1
abbrev fs (v : vX10) : Int32 := v.2.2.2.2.2.2.2.2.2.2.2.2.1
abbrev fw (v : vX10) : Int32 := v.2.2.2.2.2.2.2.2.2.2.2.2.2.1
abbrev frd (v : vX10) : Nat → Int32 := v.2.2.2.2.2.2.2.2.2.2.2.2.2.2.1
abbrev frm (v : vX10) : Int32 := v.2.2.2.2.2.2.2.2.2.2.2.2.2.2.2
def fm_sp (v : vX10) (s w : Int32) (r : Nat → Int32) (m : Int32) : vX10 := (v.1, v.2.1, v.2.2.1, v.2.2.2.1, v.2.2.2.2.1, v.2.2.2.2.2.1, v.2.2.2.2.2.2.1, v.2.2.2.2.2.2.2.1, v.2.2.2.2.2.2.2.2.1, v.2.2.2.2.2.2.2.2.2.1, fp v, fq v, s, w, r, m)
def fm_nx (f : Nat → Int32) (q s : Int32) : Int32 := if q ≤ s then 0 else f s.toNatClampNeg
/-- need: is it wrong then, where does it stand then -/
def fm_nw (f : Nat → Int32) (q s w c : Int32) : Int32 := if w = 0 then (if fm_nx f q s = c then 0 else 1) else 1
def fm_ns (f : Nat → Int32) (q s w c : Int32) : Int32 := if fm_nw f q s w c = 0 then s + 1 else s + 0
def fm_need (v : vX10) (c : Int32) : vX10 := fm_sp v (fm_ns (fp v) (fq v) (fs v) (fw v) c) (fm_nw (fp v) (fq v) (fs v) (fw v) c) (frd v) (frm v)
def fm_dig (f : Nat → Int32) (q hi : Int32) : Nat → Int32 → Int32 → Int32 × Int32
  | 0, x, s => (x, s)
  | d + 1, x, s => if x ≤ 0 then (x, s) else if fm_in (fm_nx f q s) 48 57 = 0 then (x, s) else if hi < 10 * x + fm_nx f q s - 48 then (x, s) else fm_dig f q hi d (10 * x + fm_nx f q s - 48) (s + 1)
def fm_tw (f : Nat → Int32) (q s w lo : Int32) : Int32 := if w = 0 then (if fm_in (fm_nx f q s) (48 + lo) 57 = 0 then 1 else 0) else 1
def fm_tnum (v : vX10) (lo hi : Int32) : Int32 × vX10 :=
  if fm_tw (fp v) (fq v) (fs v) (fw v) lo = 0 then
    ((fm_dig (fp v) (fq v) hi 81 (fm_nx (fp v) (fq v) (fs v) - 48) (fs v + 1)).1, fm_sp v (fm_dig (fp v) (fq v) hi 81 (fm_nx (fp v) (fq v) (fs v) - 48) (fs v + 1)).2 0 (frd v) (frm v))
  else (0, fm_sp v (fs v) 1 (frd v) (frm v))
theorem z_ix80 {q s : Int32} {n : Nat} (hq : q = nI n) (h8 : n ≤ 80) (h0 : 0 ≤ s.toInt) (c : ¬ q ≤ s) : ∃ k : Nat, k < 80 ∧ s = nI k := by
  have h1 : ¬ q.toInt ≤ s.toInt := fun h => c (Int32.le_iff_toInt_le.mpr h)
  rw [hq, nI_toInt (by omega)] at h1
  obtain ⟨k, hk, e⟩ := z_nIof (x := s) (n := n) h0 (by omega)
  exact ⟨k, by omega, e⟩

/-! the other side's reading of legs -/
def hB (q0 : Nat) (v : vX10) : Prop := fq v = nI q0 ∧ 0 ≤ (fs v).toInt ∧ (fs v).toInt ≤ q0
theorem z_dgk {f : Nat → Int32} {q : Int32} {q0 k : Nat} (hq : q = nI q0) (hk : k < 2 ^ 31) (c : ¬ fm_in (fm_nx f q (nI k)) 48 57 = 0) : k < q0 := by
  refine Nat.lt_of_not_le (fun h => c ?_)
  unfold fm_nx
  rw [if_pos (by rw [hq]; exact nI_le (a := q0) (b := k) h hk)]
  decide
theorem z_nxk {f : Nat → Int32} {q s c : Int32} {q0 : Nat} (hq : q = nI q0) (h8 : q0 ≤ 80) (h0 : 0 ≤ s.toInt) (hc : c ≠ 0) (e : fm_nx f q s = c) : s.toInt < q0 := by
  refine Int.lt_of_not_ge (fun h => hc ?_)
  rw [← e]; unfold fm_nx
  rw [if_pos (Int32.le_iff_toInt_le.mpr (by rw [hq, nI_toInt (by omega)]; exact h))]
theorem z_dg {f : Nat → Int32} {q s x : Int32} {q0 : Nat} (hq : q = nI q0) (h8 : q0 ≤ 80) (h0 : 0 ≤ s.toInt) (hx : x = 0 ∨ x = 1) (c : ¬ fm_in (fm_nx f q s) (48 + x) 57 = 0) : ∃ k : Nat, k < q0 ∧ s = nI k := by
  refine z_nIof h0 (z_nxk hq h8 h0 (c := fm_nx f q s) (fun h => c ?_) rfl)
  rw [h]; rcases hx with e | e <;> rw [e] <;> decide
theorem fm_dig_s {f : Nat → Int32} {q hi x : Int32} {d k : Nat} (hd : 0 < d) (c1 : ¬ x ≤ 0) (c2 : ¬ fm_in (fm_nx f q (nI k)) 48 57 = 0) (c3 : ¬ hi < 10 * x + fm_nx f q (nI k) - 48) : fm_dig f q hi d x (nI k) = fm_dig f q hi (d - 1) (10 * x + fm_nx f q (nI k) - 48) (nI (k + 1)) := by
  obtain ⟨j, rfl⟩ : ∃ j, d = j + 1 := ⟨d - 1, by omega⟩
  show (if x ≤ 0 then _ else _) = _
  rw [if_neg c1, if_neg c2, if_neg c3, Nat.add_sub_cancel, nI_1]
theorem fm_dig_e {f : Nat → Int32} {q hi x s : Int32} {d : Nat} (h : x ≤ 0 ∨ fm_in (fm_nx f q s) 48 57 = 0 ∨ hi < 10 * x + fm_nx f q s - 48) : fm_dig f q hi d x s = (x, s) := by
  cases d
  · rfl
  · show (if x ≤ 0 then _ else if _ then _ else if _ then _ else _) = _
    by_cases c1 : x ≤ 0
    · rw [if_pos c1]
    · rw [if_neg c1]
      by_cases c2 : fm_in (fm_nx f q s) 48 57 = 0
      · rw [if_pos c2]
      · rw [if_neg c2, if_pos (h.resolve_left c1 |>.resolve_left c2)]
theorem fm_dig_b {f : Nat → Int32} {q hi : Int32} {q0 : Nat} (hq : q = nI q0) (h8 : q0 ≤ 80) : ∀ (d : Nat) (x : Int32) (k : Nat), k ≤ q0 → k ≤ (fm_dig f q hi d x (nI k)).2.toInt ∧ (fm_dig f q hi d x (nI k)).2.toInt ≤ q0
  | 0, x, k, hk => by show (k : Int) ≤ (nI k).toInt ∧ (nI k).toInt ≤ q0; rw [nI_toInt (by omega)]; omega
  | d + 1, x, k, hk => by
    have hz : (k : Int) ≤ (nI k).toInt ∧ (nI k).toInt ≤ q0 := by rw [nI_toInt (by omega)]; omega
    by_cases c1 : x ≤ 0
    · rw [fm_dig_e (Or.inl c1)]; exact hz
    by_cases c2 : fm_in (fm_nx f q (nI k)) 48 57 = 0
    · rw [fm_dig_e (Or.inr (Or.inl c2))]; exact hz
    by_cases c3 : hi < 10 * x + fm_nx f q (nI k) - 48
    · rw [fm_dig_e (Or.inr (Or.inr c3))]; exact hz
    rw [fm_dig_s (by omega) c1 c2 c3]
    have h := fm_dig_b (f := f) (hi := hi) hq h8 d (10 * x + fm_nx f q (nI k) - 48) (k + 1) (z_dgk hq (by omega) c2)
    rw [Nat.add_sub_cancel]
    exact ⟨by omega, h.2⟩
theorem need_B {q0 : Nat} {v : vX10} {c : Int32} (h8 : q0 ≤ 80) (hc : c ≠ 0) (h : hB q0 v) : hB q0 (fm_need v c) ∧ (fw (fm_need v c) = 0 → fw v = 0 ∧ (fs (fm_need v c)).toInt = (fs v).toInt + 1) := by
  have e1 : fw (fm_need v c) = fm_nw (fp v) (fq v) (fs v) (fw v) c := rfl
  have e2 : fs (fm_need v c) = fm_ns (fp v) (fq v) (fs v) (fw v) c := rfl
  have e3 : fq (fm_need v c) = fq v := rfl
  unfold hB
  rw [e1, e2, e3]
  by_cases hw : fm_nw (fp v) (fq v) (fs v) (fw v) c = 0
  · have h1 : fw v = 0 := by
      apply Classical.byContradiction; intro hn
      unfold fm_nw at hw; rw [if_neg hn] at hw; exact absurd hw (by decide)
    have h2 : fm_nx (fp v) (fq v) (fs v) = c := by
      apply Classical.byContradiction; intro hn
      unfold fm_nw at hw; rw [if_pos h1, if_neg hn] at hw; exact absurd hw (by decide)
    have h3 := z_nxk h.1 h8 h.2.1 hc h2
    have h4 : fm_ns (fp v) (fq v) (fs v) (fw v) c = fs v + 1 := by unfold fm_ns; rw [if_pos hw]
    have h5 : (fs v + 1).toInt = (fs v).toInt + 1 := zi_add (by rw [show (1 : Int32).toInt = 1 from rfl]; have := h.2.1; omega) (by rw [show (1 : Int32).toInt = 1 from rfl]; omega)
    rw [h4, h5]
    exact ⟨⟨h.1, by have := h.2.1; omega, by omega⟩, fun _ => ⟨h1, rfl⟩⟩
  · have h4 : fm_ns (fp v) (fq v) (fs v) (fw v) c = fs v := by unfold fm_ns; rw [if_neg hw, Int32.add_zero]
    rw [h4]
    exact ⟨h, fun h => absurd h hw⟩
theorem tnum_B {q0 : Nat} {v : vX10} {lo hi : Int32} (h8 : q0 ≤ 80) (hlo : lo = 0 ∨ lo = 1) (h : hB q0 v) : hB q0 (fm_tnum v lo hi).2 ∧ (fw (fm_tnum v lo hi).2 = 0 → fw v = 0 ∧ (fs v).toInt + 1 ≤ (fs (fm_tnum v lo hi).2).toInt) := by
  unfold fm_tnum
  by_cases hw : fm_tw (fp v) (fq v) (fs v) (fw v) lo = 0
  · have h1 : fw v = 0 := by
      apply Classical.byContradiction; intro hn
      unfold fm_tw at hw; rw [if_neg hn] at hw; exact absurd hw (by decide)
    have h2 : ¬ fm_in (fm_nx (fp v) (fq v) (fs v)) (48 + lo) 57 = 0 := by
      intro hn
      unfold fm_tw at hw; rw [if_pos h1, if_pos hn] at hw; exact absurd hw (by decide)
    obtain ⟨k, hk, ek⟩ := z_dg h.1 h8 h.2.1 hlo h2
    rw [if_pos hw]
    have h3 := fm_dig_b (f := fp v) (hi := hi) h.1 h8 81 (fm_nx (fp v) (fq v) (fs v) - 48) (k + 1) hk
    have h4 : fs v + 1 = nI (k + 1) := by rw [ek]; exact nI_1 k
    have h5 : (fs v).toInt = k := by rw [ek]; exact nI_toInt (by omega)
    rw [← h4] at h3
    exact ⟨⟨h.1, by show 0 ≤ (fm_dig _ _ _ _ _ _).2.toInt; omega, h3.2⟩, fun _ => ⟨h1, by rw [h5]; exact_mod_cast h3.1⟩⟩
  · rw [if_neg hw]
    exact ⟨h, fun h => absurd h (by show ¬ (1 : Int32) = 0; decide)⟩
def fm_rd (v : vX10) (k : Nat) (x : Int32) : vX10 := fm_sp v (fs v) (fw v) (upd (frd v) k x) (frm v)
def fm_tl1 (v : vX10) : Int32 × vX10 := fm_tnum (fm_need v 99) 0 359
def fm_tl2 (r0 : Nat) (v : vX10) : vX10 := fm_need (fm_rd (fm_tl1 v).2 (3 * r0) (100 * (fm_tl1 v).1)) 118
def fm_tl3 (r0 : Nat) (v : vX10) : Int32 × vX10 := fm_tnum (fm_tl2 r0 v) 0 400
def fm_tl4 (r0 : Nat) (v : vX10) : vX10 := fm_need (fm_rd (fm_tl3 r0 v).2 (3 * r0 + 1) (fm_tl3 r0 v).1) 109
def fm_tl5 (r0 : Nat) (v : vX10) : Int32 × vX10 := fm_tnum (fm_tl4 r0 v) 1 600
def fm_rm1 (v : vX10) : vX10 := fm_sp v (fs v) (fw v) (frd v) (frm v + 1)
def fm_tleg (r0 : Nat) (v : vX10) : vX10 := fm_rm1 (fm_rd (fm_tl5 r0 v).2 (3 * r0 + 2) (fm_tl5 r0 v).1)
theorem need_B1 {q0 : Nat} {v : vX10} {c : Int32} (h8 : q0 ≤ 80) (hc : c ≠ 0) (h : hB q0 v) : hB q0 (fm_need v c) := (need_B h8 hc h).1
theorem tnum_B1 {q0 : Nat} {v : vX10} {lo hi : Int32} (h8 : q0 ≤ 80) (hlo : lo = 0 ∨ lo = 1) (h : hB q0 v) : hB q0 (fm_tnum v lo hi).2 := (tnum_B h8 hlo h).1
theorem rd_B {q0 : Nat} {v : vX10} {k : Nat} {x : Int32} (h : hB q0 v) : hB q0 (fm_rd v k x) := h
theorem tl1_B {q0 : Nat} {v : vX10} (h8 : q0 ≤ 80) (h : hB q0 v) : hB q0 (fm_tl1 v).2 := tnum_B1 h8 (.inl rfl) (need_B1 h8 (by decide) h)
theorem tl2_B {q0 r0 : Nat} {v : vX10} (h8 : q0 ≤ 80) (h : hB q0 v) : hB q0 (fm_tl2 r0 v) := need_B1 h8 (by decide) (rd_B (tl1_B h8 h))
theorem tl3_B {q0 r0 : Nat} {v : vX10} (h8 : q0 ≤ 80) (h : hB q0 v) : hB q0 (fm_tl3 r0 v).2 := tnum_B1 h8 (.inl rfl) (tl2_B h8 h)
theorem tl4_B {q0 r0 : Nat} {v : vX10} (h8 : q0 ≤ 80) (h : hB q0 v) : hB q0 (fm_tl4 r0 v) := need_B1 h8 (by decide) (rd_B (tl3_B h8 h))
theorem tl5_B {q0 r0 : Nat} {v : vX10} (h8 : q0 ≤ 80) (h : hB q0 v) : hB q0 (fm_tl5 r0 v).2 := tnum_B1 h8 (.inr rfl) (tl4_B h8 h)
theorem rm1_B {q0 : Nat} {v : vX10} (h : hB q0 v) : hB q0 (fm_rm1 v) := h
theorem tleg_B {q0 r0 : Nat} {v : vX10} (h8 : q0 ≤ 80) (h : hB q0 v) : hB q0 (fm_tleg r0 v) := by
  unfold fm_tleg; exact rm1_B (rd_B (tl5_B h8 h))
theorem need_m (v : vX10) (c : Int32) : frm (fm_need v c) = frm v := rfl
theorem tnum_m (v : vX10) (lo hi : Int32) : frm (fm_tnum v lo hi).2 = frm v := by unfold fm_tnum; by_cases h : fm_tw (fp v) (fq v) (fs v) (fw v) lo = 0 <;> simp only [h, if_true, if_false] <;> rfl
theorem rd_m (v : vX10) (k : Nat) (x : Int32) : frm (fm_rd v k x) = frm v := rfl
theorem rm1_m (v : vX10) : frm (fm_rm1 v) = frm v + 1 := rfl
theorem rm1_w (v : vX10) : fw (fm_rm1 v) = fw v := rfl
theorem rd_w (v : vX10) (k : Nat) (x : Int32) : fw (fm_rd v k x) = fw v := rfl
theorem rm1_s (v : vX10) : fs (fm_rm1 v) = fs v := rfl
theorem rd_s (v : vX10) (k : Nat) (x : Int32) : fs (fm_rd v k x) = fs v := rfl
theorem tleg_m (r0 : Nat) (v : vX10) : frm (fm_tleg r0 v) = frm v + 1 := by
  unfold fm_tleg; rw [rm1_m, rd_m]
  unfold fm_tl5; rw [tnum_m]; unfold fm_tl4; rw [need_m, rd_m]; unfold fm_tl3; rw [tnum_m]; unfold fm_tl2; rw [need_m, rd_m]; unfold fm_tl1; rw [tnum_m, need_m]
theorem tleg_p {q0 r0 : Nat} {v : vX10} (h8 : q0 ≤ 80) (h : hB q0 v) (hw : fw (fm_tleg r0 v) = 0) : (fs v).toInt + 6 ≤ (fs (fm_tleg r0 v)).toInt := by
  have ew : fw (fm_tleg r0 v) = fw (fm_tl5 r0 v).2 := by unfold fm_tleg; rw [rm1_w, rd_w]
  have es : fs (fm_tleg r0 v) = fs (fm_tl5 r0 v).2 := by unfold fm_tleg; rw [rm1_s, rd_s]
  rw [ew] at hw; rw [es]
  unfold fm_tl5 at hw ⊢
  have a5 := (tnum_B (v := fm_tl4 r0 v) (hi := 600) h8 (.inr rfl) (tl4_B h8 h)).2 hw
  have w4 := a5.1
  unfold fm_tl4 at w4
  have a4 := (need_B h8 (c := 109) (by decide) (rd_B (k := 3 * r0 + 1) (x := (fm_tl3 r0 v).1) (tl3_B (r0 := r0) h8 h))).2 w4
  have w3 := a4.1
  rw [rd_w] at w3; unfold fm_tl3 at w3
  have a3 := (tnum_B (v := fm_tl2 r0 v) (hi := 400) h8 (.inl rfl) (tl2_B h8 h)).2 w3
  have w2 := a3.1
  unfold fm_tl2 at w2
  have a2 := (need_B h8 (c := 118) (by decide) (rd_B (k := 3 * r0) (x := 100 * (fm_tl1 v).1) (tl1_B h8 h))).2 w2
  have w1 := a2.1
  rw [rd_w] at w1; unfold fm_tl1 at w1
  have a1 := (tnum_B (v := fm_need v 99) (hi := 359) h8 (.inl rfl) (need_B1 h8 (by decide) h)).2 w1
  have a0 := (need_B h8 (c := 99) (by decide) h).2 a1.1
  have b5 := a5.2
  have b4 : (fs (fm_tl4 r0 v)).toInt = (fs (fm_tl3 r0 v).2).toInt + 1 := by unfold fm_tl4; rw [a4.2, rd_s]
  have b3 : (fs (fm_tl2 r0 v)).toInt + 1 ≤ (fs (fm_tl3 r0 v).2).toInt := by unfold fm_tl3; exact a3.2
  have b2 : (fs (fm_tl2 r0 v)).toInt = (fs (fm_tl1 v).2).toInt + 1 := by unfold fm_tl2; rw [a2.2, rd_s]
  have b1 : (fs (fm_need v 99)).toInt + 1 ≤ (fs (fm_tl1 v).2).toInt := by unfold fm_tl1; exact a1.2
  have b0 := a0.2
  omega

/-! the other side's pad read whole -/
def fm_f0 (v : vX10) : vX10 := fm_sp v 0 0 (frd v) 0
def fm_s1 (v : vX10) : vX10 := fm_sp v (fs v + 1) (fw v) (frd v) (frm v)
def fm_fl : Nat → Nat → vX10 → vX10
  | 0, _, v => v
  | d + 1, r, v => if fw v = 0 then (if fm_nx (fp v) (fq v) (fs v) = 59 then fm_fl d (r + 1) (fm_tleg r (fm_s1 v)) else v) else v
theorem fm_fl_s {d r : Nat} {v : vX10} (h : 0 < d) (c1 : fw v = 0) (c2 : fm_nx (fp v) (fq v) (fs v) = 59) : fm_fl d r v = fm_fl (d - 1) (r + 1) (fm_tleg r (fm_s1 v)) := by
  obtain ⟨j, rfl⟩ : ∃ j, d = j + 1 := ⟨d - 1, by omega⟩
  show (if fw v = 0 then _ else _) = _
  rw [if_pos c1, if_pos c2, Nat.add_sub_cancel]
theorem fm_fl_e {d r : Nat} {v : vX10} (h : ¬ fw v = 0 ∨ ¬ fm_nx (fp v) (fq v) (fs v) = 59) : fm_fl d r v = v := by
  cases d
  · rfl
  · show (if fw v = 0 then _ else _) = _
    by_cases c1 : fw v = 0
    · rw [if_pos c1, if_neg (h.resolve_left (fun h => h c1))]
    · rw [if_neg c1]
theorem f0_B {q0 : Nat} {v : vX10} (hq : fq v = nI q0) : hB q0 (fm_f0 v) := ⟨hq, Int.le_refl 0, Int.natCast_nonneg q0⟩
theorem s1_B {q0 : Nat} {v : vX10} (h8 : q0 ≤ 80) (h : hB q0 v) (c2 : fm_nx (fp v) (fq v) (fs v) = 59) : (fs v).toInt < q0 ∧ hB q0 (fm_s1 v) ∧ (fs (fm_s1 v)).toInt = (fs v).toInt + 1 := by
  have h3 := z_nxk h.1 h8 h.2.1 (by decide) c2
  have h5 : (fs v + 1).toInt = (fs v).toInt + 1 := zi_add (by rw [show (1 : Int32).toInt = 1 from rfl]; have := h.2.1; omega) (by rw [show (1 : Int32).toInt = 1 from rfl]; omega)
  refine ⟨h3, ⟨h.1, ?_, ?_⟩, h5⟩
  · show 0 ≤ (fs v + 1).toInt; rw [h5]; have := h.2.1; omega
  · show (fs v + 1).toInt ≤ q0; rw [h5]; omega
/-- what a run of legs keeps: r legs read, w stands behind them -/
def hFL (q0 r : Nat) (w : vX10) : Prop := hB q0 w ∧ frm w = nI r ∧ r ≤ 12 ∧ 1 ≤ r ∧ (fw w = 0 → 7 * (r : Int) ≤ (fs w).toInt + 1)
theorem fl_0 {q0 : Nat} {v : vX10} (h8 : q0 ≤ 80) (hq : fq v = nI q0) : hFL q0 1 (fm_tleg 0 (fm_f0 v)) := by
  refine ⟨tleg_B h8 (f0_B hq), ?_, by omega, by omega, fun hw => ?_⟩
  · rw [tleg_m]; rfl
  · have h := tleg_p h8 (f0_B hq) hw
    have h0 : (fs (fm_f0 v)).toInt = 0 := rfl
    omega
theorem fl_1 {q0 r : Nat} {w : vX10} (h8 : q0 ≤ 80) (h : hFL q0 r w) (c1 : fw w = 0) (c2 : fm_nx (fp w) (fq w) (fs w) = 59) : r ≤ 11 ∧ hFL q0 (r + 1) (fm_tleg r (fm_s1 w)) := by
  obtain ⟨h1, h2, h3⟩ := s1_B h8 h.1 c2
  have h4 := h.2.2.2.2 c1
  have h5 : r ≤ 11 := by omega
  refine ⟨h5, tleg_B h8 h2, ?_, by omega, by omega, fun hw => ?_⟩
  · rw [tleg_m, show frm (fm_s1 w) = frm w from rfl, h.2.1]; exact nI_1 r
  · have h6 := tleg_p h8 h2 hw
    push_cast
    omega
theorem fl_n {q0 : Nat} (h8 : q0 ≤ 80) : ∀ (d r : Nat) (w : vX10), hFL q0 r w → ∃ r', hFL q0 r' (fm_fl d r w)
  | 0, r, w, h => ⟨r, h⟩
  | d + 1, r, w, h => by
    by_cases c1 : fw w = 0
    · by_cases c2 : fm_nx (fp w) (fq w) (fs w) = 59
      · rw [fm_fl_s (by omega) c1 c2]; exact fl_n h8 _ _ _ (fl_1 h8 h c1 c2).2
      · rw [fm_fl_e (Or.inr c2)]; exact ⟨r, h⟩
    · rw [fm_fl_e (Or.inl c1)]; exact ⟨r, h⟩
/-- two of them differ in what reading changes alone -/
def hSp (v w : vX10) : Prop := w = fm_sp v (fs w) (fw w) (frd w) (frm w)
theorem hSp.tr {u v w : vX10} (h1 : hSp u v) (h2 : hSp v w) : hSp u w := by
  unfold hSp at h1 h2 ⊢
  generalize fs w = a at h2 ⊢; generalize fw w = b at h2 ⊢; generalize frd w = c at h2 ⊢; generalize frm w = d at h2 ⊢
  rw [h2, h1]; rfl
theorem need_S (v : vX10) (c : Int32) : hSp v (fm_need v c) := rfl
theorem rd_S (v : vX10) (k : Nat) (x : Int32) : hSp v (fm_rd v k x) := rfl
theorem rm1_S (v : vX10) : hSp v (fm_rm1 v) := rfl
theorem s1_S (v : vX10) : hSp v (fm_s1 v) := rfl
theorem f0_S (v : vX10) : hSp v (fm_f0 v) := rfl
theorem tnum_S (v : vX10) (lo hi : Int32) : hSp v (fm_tnum v lo hi).2 := by
  unfold fm_tnum
  by_cases h : fm_tw (fp v) (fq v) (fs v) (fw v) lo = 0
  · rw [if_pos h]; exact rfl
  · rw [if_neg h]; exact rfl
theorem tleg_S (r0 : Nat) (v : vX10) : hSp v (fm_tleg r0 v) := by
  unfold fm_tleg
  refine hSp.tr ?_ (rm1_S _)
  refine hSp.tr ?_ (rd_S _ _ _)
  unfold fm_tl5
  refine hSp.tr ?_ (tnum_S _ _ _)
  unfold fm_tl4
  refine hSp.tr ?_ (need_S _ _)
  refine hSp.tr ?_ (rd_S _ _ _)
  unfold fm_tl3
  refine hSp.tr ?_ (tnum_S _ _ _)
  unfold fm_tl2
  refine hSp.tr ?_ (need_S _ _)
  refine hSp.tr ?_ (rd_S _ _ _)
  unfold fm_tl1
  exact hSp.tr (need_S _ _) (tnum_S _ _ _)
theorem fl_S : ∀ (d r : Nat) (v : vX10), hSp v (fm_fl d r v)
  | 0, r, v => rfl
  | d + 1, r, v => by
    by_cases c1 : fw v = 0
    · by_cases c2 : fm_nx (fp v) (fq v) (fs v) = 59
      · rw [fm_fl_s (by omega) c1 c2]; exact hSp.tr (hSp.tr (s1_S v) (tleg_S r _)) (fl_S _ _ _)
      · rw [fm_fl_e (Or.inr c2)]; rfl
    · rw [fm_fl_e (Or.inl c1)]; rfl
def fm_fW (v : vX10) : vX10 := fm_fl 12 1 (fm_tleg 0 (fm_f0 v))
def fm_fend (w : vX10) : Int32 := if fw w = 0 then (if fq w ≤ fs w then -6 else fs w) else fs w
def fm_fault (v : vX10) : Int32 × vX10 := (fm_fend (fm_fW v), fm_fW v)
theorem fW_S (v : vX10) : hSp v (fm_fW v) := hSp.tr (hSp.tr (f0_S v) (tleg_S 0 _)) (fl_S _ _ _)
theorem fW_n {q0 : Nat} {v : vX10} (h8 : q0 ≤ 80) (hq : fq v = nI q0) : ∃ r, hFL q0 r (fm_fW v) := fl_n h8 12 1 _ (fl_0 h8 hq)
theorem sp_1 {v w : vX10} (h : hSp v w) : w.1 = v.1 := by have h2 : w = fm_sp v (fs w) (fw w) (frd w) (frm w) := h; have h3 := congrArg (fun x : vX10 => x.1) h2; exact h3
theorem sp_pm {v w : vX10} (h : hSp v w) : w.2.2.2.2.2.2.1 = v.2.2.2.2.2.2.1 := by have h2 : w = fm_sp v (fs w) (fw w) (frd w) (frm w) := h; have h3 := congrArg (fun x : vX10 => x.2.2.2.2.2.2.1) h2; exact h3
theorem fW_1 (v : vX10) : (fm_fW v).1 = v.1 := sp_1 (fW_S v)
theorem fW_pm (v : vX10) : (fm_fW v).2.2.2.2.2.2.1 = v.2.2.2.2.2.2.1 := sp_pm (fW_S v)
theorem fau_1 (v : vX10) : (fm_fault v).2 = fm_fW v := by unfold fm_fault; dsimp only
def fm_lds (c0 : Nat) (f a : Nat → Int32) : Nat → Nat → Int32
  | 0 => a
  | k + 1 => fm_addLeg (c0 + k) (fm_lds c0 f a k) (f (3 * k)) (f (3 * k + 1)) (f (3 * k + 2))
theorem lds_3 {c0 : Nat} {f a : Nat → Int32} (h : a 3 = nI c0) : ∀ k, fm_lds c0 f a k 3 = nI (c0 + k)
  | 0 => h
  | k + 1 => by
    have h2 := lds_3 h (f := f) k
    show fm_addLeg (c0 + k) (fm_lds c0 f a k) (f (3 * k)) (f (3 * k + 1)) (f (3 * k + 2)) 3 = _
    unfold fm_addLeg upd
    rw [if_pos rfl, if_neg (by omega), if_neg (by omega), if_neg (by omega), h2]
    exact nI_1 (c0 + k)
def fm_q0 (v : vX10) : vX10 := fm_pput v (fp v) 0
def fm_ldx (c0 : Nat) (w : vX10) : vX10 := (fm_lds c0 (frd w) w.1 (nT (frm w)), w.2)
def fm_load (pm c0 : Nat) (v : vX10) : Int32 × vX10 :=
  if (fm_fault v).1 = -6 then (if (fm_fault v).2.1 3 + frm (fm_fault v).2 ≤ 8 then ((fm_ldx c0 (fm_keep pm (fm_fault v).2)).1 3, fm_q0 (fm_ldx c0 (fm_keep pm (fm_fault v).2))) else (-4, (fm_fault v).2)) else (-3, (fm_fault v).2)
theorem kp_m (pm : Nat) (v : vX10) : frm (fm_keep pm v) = frm v := rfl
theorem kp_1 (pm : Nat) (v : vX10) : (fm_keep pm v).1 = v.1 := rfl
theorem lds_r (c0 k : Nat) (w : vX10) : fm_addL (c0 + k) (fm_lds c0 (frd w) w.1 k, w.2) (frd w (3 * k)) (frd w (3 * k + 1)) (frd w (3 * k + 2)) = (fm_lds c0 (frd w) w.1 (k + 1), w.2) := rfl
theorem lds_e (c0 k : Nat) (w : vX10) (h : frm w = nI k) (h2 : k < 2 ^ 31) : fm_ldx c0 w = (fm_lds c0 (frd w) w.1 k, w.2) := by
  unfold fm_ldx nT; rw [h, nI_toInt h2]; rfl

/-! the other side as it is made -/
def zi_at : Nat → Int32 := upd (upd (upd (upd (upd (upd (upd (upd (upd (upd (upd (fun _ => 0) 8 2) 9 (-6)) 20 20) 21 250) 22 15000) 23 5000) 24 500) 25 3000) 26 20) 27 1) 28 10
abbrev zi_X10 : vX10 := (zi_at, fun _ => 0, fun _ => 0, fun _ => 0, fun _ => 0, fun _ => 0, 0, fun _ => 0, fun _ => 0, fun _ => 0, fun _ => 0, 0, 0, 0, fun _ => 0, 0)

