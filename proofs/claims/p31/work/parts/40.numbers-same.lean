/-! the two sides' numbers are the same -/
theorem zl_add {x y : Int64} (h : -9223372036854775808 ≤ x.toInt + y.toInt) (h2 : x.toInt + y.toInt < 9223372036854775808) : (x + y).toInt = x.toInt + y.toInt := by
  rw [Int64.toInt_add]
  unfold Int.bmod
  simp only []
  omega
theorem zl_sub {x y : Int64} (h : -9223372036854775808 ≤ x.toInt - y.toInt) (h2 : x.toInt - y.toInt < 9223372036854775808) : (x - y).toInt = x.toInt - y.toInt := by
  rw [Int64.toInt_sub]
  unfold Int.bmod
  simp only []
  omega
theorem zl_neg {x : Int64} (h : -9223372036854775808 < x.toInt) : (-x).toInt = -x.toInt := by
  rw [Int64.toInt_neg]
  unfold Int.bmod
  simp only []
  have := (z64 (x := x)).1
  omega
theorem zl_mul {x y : Int64} (h : -9223372036854775808 ≤ x.toInt * y.toInt) (h2 : x.toInt * y.toInt < 9223372036854775808) : (x * y).toInt = x.toInt * y.toInt := by
  rw [Int64.toInt_mul]
  unfold Int.bmod
  simp only []
  omega
theorem zl_div {x y : Int64} (h : -9223372036854775808 < x.toInt) : (x / y).toInt = x.toInt.tdiv y.toInt :=
  Int64.toInt_div_of_ne_left _ _ (fun e => by rw [e] at h; exact absurd h (by decide))
theorem zi_div {x y : Int32} (h : -2147483648 < x.toInt) : (x / y).toInt = x.toInt.tdiv y.toInt :=
  Int32.toInt_div_of_ne_left _ _ (fun e => by rw [e] at h; exact absurd h (by decide))
theorem zt_b {x k m : Int} (hk : 0 < k) (h : -(m * k) ≤ x) (h2 : x ≤ m * k) : -m ≤ x.tdiv k ∧ x.tdiv k ≤ m := by
  have key : ∀ y : Int, 0 ≤ y → y ≤ m * k → 0 ≤ y.tdiv k ∧ y.tdiv k ≤ m := fun y h0 h1 => by
    rw [Int.tdiv_eq_ediv_of_nonneg h0]
    exact ⟨Int.ediv_nonneg h0 (Int.le_of_lt hk), Int.ediv_le_of_le_mul hk h1⟩
  by_cases c : 0 ≤ x
  · have := key x c h2; omega
  · have h3 := key (-x) (by omega) (by omega)
    rw [Int.neg_tdiv] at h3
    omega
theorem zmulb {x y a b : Int} (hx : -a ≤ x ∧ x ≤ a) (hy : -b ≤ y ∧ y ≤ b) : -(a * b) ≤ x * y ∧ x * y ≤ a * b := by
  have h1 : x.natAbs ≤ a.natAbs := by omega
  have h2 : y.natAbs ≤ b.natAbs := by omega
  have h3 : (x * y).natAbs ≤ (a * b).natAbs := by
    rw [Int.natAbs_mul, Int.natAbs_mul]; exact Nat.mul_le_mul h1 h2
  have h4 : 0 ≤ a * b := Int.mul_nonneg (by omega) (by omega)
  omega
/-- ints as longs -/
theorem zx_32 {x : Int64} (h : -2147483648 ≤ x.toInt ∧ x.toInt < 2147483648) : x.toInt32.toInt64 = x := by
  apply Int64.toInt_inj.mp
  rw [Int32.toInt_toInt64, Int64.toInt_toInt32]
  unfold Int.bmod
  simp only []
  omega
theorem zx_i {x : Int64} (h : -2147483648 ≤ x.toInt ∧ x.toInt < 2147483648) : x.toInt32.toInt = x.toInt := by
  rw [Int64.toInt_toInt32]
  unfold Int.bmod
  simp only []
  omega
theorem zx_add {x y : Int32} (h : -2147483648 ≤ x.toInt + y.toInt) (h2 : x.toInt + y.toInt < 2147483648) : (x + y).toInt64 = x.toInt64 + y.toInt64 := by
  apply Int64.toInt_inj.mp
  rw [Int32.toInt_toInt64, zi_add h h2, zl_add (by rw [Int32.toInt_toInt64, Int32.toInt_toInt64]; omega) (by rw [Int32.toInt_toInt64, Int32.toInt_toInt64]; omega), Int32.toInt_toInt64, Int32.toInt_toInt64]
theorem zx_sub {x y : Int32} (h : -2147483648 ≤ x.toInt - y.toInt) (h2 : x.toInt - y.toInt < 2147483648) : (x - y).toInt64 = x.toInt64 - y.toInt64 := by
  apply Int64.toInt_inj.mp
  rw [Int32.toInt_toInt64, zi_sub h h2, zl_sub (by rw [Int32.toInt_toInt64, Int32.toInt_toInt64]; omega) (by rw [Int32.toInt_toInt64, Int32.toInt_toInt64]; omega), Int32.toInt_toInt64, Int32.toInt_toInt64]
theorem zx_neg {x : Int32} (h : -2147483648 < x.toInt) : (-x).toInt64 = -x.toInt64 := by
  apply Int64.toInt_inj.mp
  rw [Int32.toInt_toInt64, zi_neg h, zl_neg (by rw [Int32.toInt_toInt64]; omega), Int32.toInt_toInt64]
theorem zx_mul {x y : Int32} (h : -2147483648 ≤ x.toInt * y.toInt) (h2 : x.toInt * y.toInt < 2147483648) : (x * y).toInt64 = x.toInt64 * y.toInt64 := by
  apply Int64.toInt_inj.mp
  rw [Int32.toInt_toInt64, zi_mul h h2, zl_mul (by rw [Int32.toInt_toInt64, Int32.toInt_toInt64]; omega) (by rw [Int32.toInt_toInt64, Int32.toInt_toInt64]; omega), Int32.toInt_toInt64, Int32.toInt_toInt64]
theorem zx_div {x y : Int32} (h : -2147483648 < x.toInt) : (x / y).toInt64 = x.toInt64 / y.toInt64 := by
  apply Int64.toInt_inj.mp
  rw [Int32.toInt_toInt64, zi_div h, zl_div (by rw [Int32.toInt_toInt64]; omega), Int32.toInt_toInt64, Int32.toInt_toInt64]
theorem zx_inj {x y : Int32} (h : x.toInt64 = y.toInt64) : x = y := by
  apply Int32.toInt_inj.mp
  rw [← Int32.toInt_toInt64 x, ← Int32.toInt_toInt64 y, h]
theorem zx_lt {x y : Int32} : x.toInt64 < y.toInt64 ↔ x < y := by
  rw [Int64.lt_iff_toInt_lt, Int32.lt_iff_toInt_lt, Int32.toInt_toInt64, Int32.toInt_toInt64]
theorem zx_le {x y : Int32} : x.toInt64 ≤ y.toInt64 ↔ x ≤ y := by
  rw [Int64.le_iff_toInt_le, Int32.le_iff_toInt_le, Int32.toInt_toInt64, Int32.toInt_toInt64]
theorem zx_in {x lo hi : Int32} {a b : Int64} (h : lo.toInt64 = a) (h2 : hi.toInt64 = b) : zf_in x.toInt64 a b = fm_in x lo hi := by
  subst h; subst h2
  unfold zf_in fm_in
  simp only [zx_lt]
theorem zabs_i {x : Int64} (h : -9223372036854775808 < x.toInt) : (zf_abs x).toInt = if 0 ≤ x.toInt then x.toInt else -x.toInt := by
  unfold zf_abs
  have z : (0 : Int64).toInt = 0 := by decide
  by_cases c : 0 < x
  · have c' := Int64.lt_iff_toInt_lt.mp c
    rw [if_pos c, if_pos (by omega)]
  · have c' : ¬ (0 : Int64).toInt < x.toInt := fun q => c (Int64.lt_iff_toInt_lt.mpr q)
    rw [if_neg c, zl_neg h]
    split <;> omega
theorem zsize_i {x : Int32} (h : -2147483648 < x.toInt) : (fm_size x).toInt = if 0 ≤ x.toInt then x.toInt else -x.toInt := by
  unfold fm_size
  have z : (0 : Int32).toInt = 0 := by decide
  by_cases c : (0 : Int32) ≤ x
  · have c' := Int32.le_iff_toInt_le.mp c
    rw [if_pos c, if_pos (by omega)]
  · have c' : ¬ (0 : Int32).toInt ≤ x.toInt := fun q => c (Int32.le_iff_toInt_le.mpr q)
    rw [if_neg c, if_neg (by omega), zi_neg h]
theorem zx_abs {x : Int32} (h : -2147483648 < x.toInt) : zf_abs x.toInt64 = (fm_size x).toInt64 := by
  apply Int64.toInt_inj.mp
  rw [Int32.toInt_toInt64, zsize_i h, zabs_i (by rw [Int32.toInt_toInt64]; omega), Int32.toInt_toInt64]
/-- waves -/
theorem zs_nat_all : (List.range 18001).all (fun k => decide (4000000 * (k * (18000 - k)) / (405000000 - k * (18000 - k)) ≤ 1000000 ∧ k * (18000 - k) ≤ 81000000)) = true := by decide +kernel
def zwq (a : Int64) : Int64 := 4000000 * (a * (18000 - a)) / (405000000 - a * (18000 - a))
theorem zwq_b {x : Int32} (h : 0 ≤ x.toInt) (h2 : x.toInt < 18001) : fm_half x = (zwq x.toInt64).toInt32 ∧ (0 ≤ (zwq x.toInt64).toInt ∧ (zwq x.toInt64).toInt ≤ 1000000) ∧ ¬ 405000000 - x.toInt64 * (18000 - x.toInt64) = 0 := by
  have z18 : (18000 : Int32).toInt = 18000 := by decide
  have e1 : (18000 - x).toInt64 = 18000 - x.toInt64 := by rw [zx_sub (by omega) (by omega)]; rfl
  have hne : ¬ 405000000 - x.toInt64 * (18000 - x.toInt64) = 0 := by rw [← e1]; exact z_half_ne h h2
  refine ⟨by unfold fm_half zwq; rw [e1], ?_, hne⟩
  obtain ⟨k, hk, ek⟩ := z_nIof (x := x) (n := 18001) h (by omega)
  have hn := co_dec zs_nat_all hk
  obtain ⟨n1, n2⟩ := hn
  have ex : x.toInt64.toInt = k := by rw [Int32.toInt_toInt64, ek]; exact nI_toInt (by omega)
  have c18 : (18000 : Int64).toInt = 18000 := by decide
  have c4 : (4000000 : Int64).toInt = 4000000 := by decide
  have c405 : (405000000 : Int64).toInt = 405000000 := by decide
  have s1 : (18000 - x.toInt64).toInt = ((18000 - k : Nat) : Int) := by rw [zl_sub (by rw [c18, ex]; omega) (by rw [c18, ex]; omega), c18, ex]; omega
  have pu : ((k : Nat) : Int) * ((18000 - k : Nat) : Int) = ((k * (18000 - k) : Nat) : Int) := (Int.natCast_mul _ _).symm
  generalize hu : k * (18000 - k) = u at *
  have m1 : (x.toInt64 * (18000 - x.toInt64)).toInt = (u : Int) := by
    rw [zl_mul (by rw [ex, s1, pu]; omega) (by rw [ex, s1, pu]; omega), ex, s1, pu]
  have m2 : (4000000 * (x.toInt64 * (18000 - x.toInt64))).toInt = ((4000000 * u : Nat) : Int) := by
    rw [zl_mul (by rw [c4, m1]; omega) (by rw [c4, m1]; omega), c4, m1]; omega
  have m3 : (405000000 - x.toInt64 * (18000 - x.toInt64)).toInt = ((405000000 - u : Nat) : Int) := by
    rw [zl_sub (by rw [c405, m1]; omega) (by rw [c405, m1]; omega), c405, m1]; omega
  have eq : (zwq x.toInt64).toInt = ((4000000 * u / (405000000 - u) : Nat) : Int) := by
    unfold zwq
    rw [zl_div (by rw [m2]; omega), m2, m3]
    rfl
  rw [eq]
  generalize 4000000 * u / (405000000 - u) = w at n1 ⊢
  omega
theorem z_sineEq {x : Int32} (h : zcR x) : zf_sine x.toInt64 = (fm_sine x).toInt64 ∧ -1000000 ≤ (fm_sine x).toInt ∧ (fm_sine x).toInt ≤ 1000000 := by
  have z18 : (18000 : Int32).toInt = 18000 := by decide
  have hx1 := h.1
  have hx2 := h.2
  unfold zf_sine fm_sine
  have e18 : (x.toInt64 ≤ 18000) ↔ (x ≤ 18000) := zx_le (y := 18000)
  by_cases c : 18000 < x
  · have c' := Int32.lt_iff_toInt_lt.mp c
    obtain ⟨b1, b2, b3⟩ := zwq_b (x := x - 18000) (by rw [zi_sub (by omega) (by omega)]; omega) (by rw [zi_sub (by omega) (by omega)]; omega)
    have es : (x - 18000).toInt64 = x.toInt64 - 18000 := by rw [zx_sub (by omega) (by omega)]; rfl
    rw [es] at b1 b2 b3
    rw [if_neg (fun q => by have := Int32.le_iff_toInt_le.mp (e18.mp q); omega), if_neg b3, if_pos c, b1]
    have hi := zx_i (x := zwq (x.toInt64 - 18000)) (by omega)
    refine ⟨?_, by rw [zi_neg (by omega)]; omega, by rw [zi_neg (by omega)]; omega⟩
    rw [zx_neg (by omega), zx_32 (by omega)]; rfl
  · have c' : ¬ (18000 : Int32).toInt < x.toInt := fun q => c (Int32.lt_iff_toInt_lt.mpr q)
    obtain ⟨b1, b2, b3⟩ := zwq_b (x := x) hx1 (by omega)
    rw [if_pos (e18.mpr (Int32.le_iff_toInt_le.mpr (by omega))), if_neg b3, if_neg c, b1]
    have hi := zx_i (x := zwq x.toInt64) (by omega)
    exact ⟨(zx_32 (x := zwq x.toInt64) (by omega)).symm, by omega, by omega⟩
theorem z_cosEq {x : Int32} (h : zcR x) : zf_cosine x.toInt64 = (fm_cosine x).toInt64 ∧ -1000000 ≤ (fm_cosine x).toInt ∧ (fm_cosine x).toInt ≤ 1000000 := by
  have z9 : (9000 : Int32).toInt = 9000 := by decide
  have z36 : (36000 : Int32).toInt = 36000 := by decide
  have hx1 := h.1
  have hx2 := h.2
  have a1 : (x + 9000).toInt = x.toInt + 9000 := by rw [zi_add (by omega) (by omega), z9]
  have d1 : ((x + 9000) / 36000).toInt = (x.toInt + 9000) / 36000 := by rw [zi_div (by omega), a1, z36, Int.tdiv_eq_ediv_of_nonneg (by omega)]
  have m1 : ((x + 9000) / 36000 * 36000).toInt = (x.toInt + 9000) / 36000 * 36000 := by rw [zi_mul (by rw [d1, z36]; omega) (by rw [d1, z36]; omega), d1, z36]
  have e : x.toInt64 + 9000 - (x.toInt64 + 9000) / 36000 * 36000 = (x + 9000 - (x + 9000) / 36000 * 36000).toInt64 := by
    rw [zx_sub (by rw [a1, m1]; omega) (by rw [a1, m1]; omega), zx_mul (by rw [d1, z36]; omega) (by rw [d1, z36]; omega), zx_div (by omega), zx_add (by omega) (by omega)]
    rfl
  have hs := z_sineEq (z_cosIx h)
  unfold zf_cosine fm_cosine
  rw [e]
  exact hs
theorem z_cLatEq {x : Int32} (h : zlR x) : zf_cLat x.toInt64 = (fm_cof x).toInt64 := by
  show zf_abs x.toInt64 / 10000 = (fm_size x / 10000).toInt64
  have h1 := h.1
  have h2 := h.2
  rw [zx_abs (by omega), zx_div (by rw [zsize_i (by omega)]; split <;> omega)]
  rfl
def zsR (x : Int32) : Prop := 0 ≤ x.toInt ∧ x.toInt ≤ 400
theorem z_restEq {a : Nat → Int32} {la sp co : Int32} (hl : zlR la) (hc : zcR co) (hs : zsR sp) (h2 : 0 ≤ (a 22).toInt ∧ (a 22).toInt ≤ 30000) : zf_free (a 22).toInt64 la.toInt64 sp.toInt64 co.toInt64 = (fm_restBy a la sp co).toInt64 ∧ -200000 ≤ (fm_restBy a la sp co).toInt ∧ (fm_restBy a la sp co).toInt ≤ 200000 := by
  have hcc := z_cofC hl
  have hcos := z_cosEq hcc
  have hcr := z_cosR hl
  have hsin := z_sineEq hcc
  have hco := z_cosEq hc
  have e0 : (if 0 ≤ la.toInt64 then zf_sine (zf_cLat la.toInt64) else -zf_sine (zf_cLat la.toInt64)) = fm_sineOf la := by
    unfold fm_sineOf
    rw [z_cLatEq hl, hsin.1]
    have e : (0 ≤ la.toInt64) ↔ (0 ≤ la) := zx_le (x := 0)
    by_cases c : 0 ≤ la
    · rw [if_pos c, if_pos (e.mpr c)]
    · rw [if_neg c, if_neg (fun q => c (e.mp q)), zx_neg (by omega)]
  have e1 : zf_cosine (zf_cLat la.toInt64) = fm_cosOf la := by
    rw [z_cLatEq hl, hcos.1]; rfl
  have ei : (fm_cosOf la).toInt = (fm_cosine (fm_cof la)).toInt := Int32.toInt_toInt64 _
  have es : -1000000 ≤ (fm_sineOf la).toInt ∧ (fm_sineOf la).toInt ≤ 1000000 := by
    unfold fm_sineOf
    by_cases c : 0 ≤ la
    · rw [if_pos c, Int32.toInt_toInt64]; exact hsin.2
    · rw [if_neg c, Int32.toInt_toInt64, zi_neg (by omega)]; omega
  have e2 : zf_free (a 22).toInt64 la.toInt64 sp.toInt64 co.toInt64 = (a 22).toInt64 * fm_sineOf la / fm_cosOf la - 64 * sp.toInt64 * (fm_cosine co).toInt64 / fm_cosOf la := by
    unfold zf_free zf_quot
    rw [e0, e1, hco.1, if_neg (z_cosNe hl), if_neg (z_cosNe hl)]
  have b1 := zmulb (x := (a 22).toInt) (y := (fm_sineOf la).toInt) (a := 30000) (b := 1000000) ⟨by omega, h2.2⟩ es
  have m1 : ((a 22).toInt64 * fm_sineOf la).toInt = (a 22).toInt * (fm_sineOf la).toInt := by
    rw [zl_mul (by rw [Int32.toInt_toInt64]; omega) (by rw [Int32.toInt_toInt64]; omega), Int32.toInt_toInt64]
  have z64c : (64 : Int64).toInt = 64 := by decide
  have m2 : (64 * sp.toInt64).toInt = 64 * sp.toInt := by
    rw [zl_mul (by rw [Int32.toInt_toInt64, z64c]; have := hs.1; omega) (by rw [Int32.toInt_toInt64, z64c]; have := hs.2; omega), Int32.toInt_toInt64, z64c]
  have b2 := zmulb (x := 64 * sp.toInt) (y := (fm_cosine co).toInt) (a := 25600) (b := 1000000) ⟨by have := hs.1; omega, by have := hs.2; omega⟩ hco.2
  have m3 : (64 * sp.toInt64 * (fm_cosine co).toInt64).toInt = 64 * sp.toInt * (fm_cosine co).toInt := by
    rw [zl_mul (by rw [m2, Int32.toInt_toInt64]; omega) (by rw [m2, Int32.toInt_toInt64]; omega), m2, Int32.toInt_toInt64]
  have d1 : ((a 22).toInt64 * fm_sineOf la / fm_cosOf la).toInt = ((a 22).toInt * (fm_sineOf la).toInt).tdiv (fm_cosine (fm_cof la)).toInt := by
    rw [zl_div (by rw [m1]; omega), m1, ei]
  have d2 : (64 * sp.toInt64 * (fm_cosine co).toInt64 / fm_cosOf la).toInt = (64 * sp.toInt * (fm_cosine co).toInt).tdiv (fm_cosine (fm_cof la)).toInt := by
    rw [zl_div (by rw [m3]; omega), m3, ei]
  have t1 := zt_b (x := (a 22).toInt * (fm_sineOf la).toInt) (k := (fm_cosine (fm_cof la)).toInt) (m := 100000) (by omega) (by omega) (by omega)
  have t2 := zt_b (x := 64 * sp.toInt * (fm_cosine co).toInt) (k := (fm_cosine (fm_cof la)).toInt) (m := 100000) (by omega) (by omega) (by omega)
  have s1 : ((a 22).toInt64 * fm_sineOf la / fm_cosOf la - 64 * sp.toInt64 * (fm_cosine co).toInt64 / fm_cosOf la).toInt = ((a 22).toInt * (fm_sineOf la).toInt).tdiv (fm_cosine (fm_cof la)).toInt - (64 * sp.toInt * (fm_cosine co).toInt).tdiv (fm_cosine (fm_cof la)).toInt := by
    rw [zl_sub (by rw [d1, d2]; omega) (by rw [d1, d2]; omega), d1, d2]
  have hX : -200000 ≤ ((a 22).toInt64 * fm_sineOf la / fm_cosOf la - 64 * sp.toInt64 * (fm_cosine co).toInt64 / fm_cosOf la).toInt ∧ ((a 22).toInt64 * fm_sineOf la / fm_cosOf la - 64 * sp.toInt64 * (fm_cosine co).toInt64 / fm_cosOf la).toInt ≤ 200000 := by
    rw [s1]; omega
  have eR : fm_restBy a la sp co = ((a 22).toInt64 * fm_sineOf la / fm_cosOf la - 64 * sp.toInt64 * (fm_cosine co).toInt64 / fm_cosOf la).toInt32 := rfl
  rw [e2, eR, zx_32 (by omega), zx_i (by omega)]
  exact ⟨rfl, hX⟩
theorem z_lim {x : Int64} {m : Int32} {M : Int64} (h0 : 0 ≤ m.toInt) (hM : m.toInt64 = M) : zf_limited x M = (fm_lim x m).toInt64 ∧ -m.toInt ≤ (fm_lim x m).toInt ∧ (fm_lim x m).toInt ≤ m.toInt := by
  subst hM
  have hm := (z32 (x := m)).1
  have en : (-m).toInt64.toInt = -m.toInt := by rw [Int32.toInt_toInt64, zi_neg (by omega)]
  have en2 : (-(m.toInt64)).toInt = -m.toInt := by rw [zl_neg (by rw [Int32.toInt_toInt64]; omega), Int32.toInt_toInt64]
  have em : m.toInt64.toInt = m.toInt := Int32.toInt_toInt64 m
  have e3 : (-m).toInt64 = -(m.toInt64) := Int64.toInt_inj.mp (by rw [en, en2])
  unfold zf_limited fm_lim
  by_cases c : x ≤ m.toInt64
  · have c' := Int64.le_iff_toInt_le.mp c
    rw [if_pos c]
    have eX : (if x < m.toInt64 then x else m.toInt64) = x := by
      by_cases d : x < m.toInt64
      · rw [if_pos d]
      · rw [if_neg d]
        have d' : ¬ x.toInt < m.toInt64.toInt := fun q => d (Int64.lt_iff_toInt_lt.mpr q)
        exact Int64.toInt_inj.mp (by omega)
    rw [eX]
    by_cases d : (-m).toInt64 ≤ x
    · have d' := Int64.le_iff_toInt_le.mp d
      rw [if_pos d, if_neg (fun q => by have q' := Int64.lt_iff_toInt_lt.mp q; omega), zx_32 (by omega), zx_i (by omega)]
      exact ⟨rfl, by omega, by omega⟩
    · have d' : ¬ (-m).toInt64.toInt ≤ x.toInt := fun q => d (Int64.le_iff_toInt_le.mpr q)
      rw [if_neg d, if_pos (Int64.lt_iff_toInt_lt.mpr (by omega)), zx_32 (by omega), zx_i (by omega), e3]
      exact ⟨rfl, by omega, by omega⟩
  · have c' : ¬ x.toInt ≤ m.toInt64.toInt := fun q => c (Int64.le_iff_toInt_le.mpr q)
    have eX : (if x < m.toInt64 then x else m.toInt64) = m.toInt64 := if_neg (fun q => by have q' := Int64.lt_iff_toInt_lt.mp q; omega)
    rw [if_neg c, eX, if_neg (fun q => by have q' := Int64.lt_iff_toInt_lt.mp q; omega), zx_32 (by omega), zx_i (by omega)]
    exact ⟨rfl, by omega, by omega⟩
