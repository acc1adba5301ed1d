/-! waves and rests: what the law holds against them -/
def sn (k : Nat) : Nat := 4000000 * (k * (18000 - k)) / (405000000 - k * (18000 - k))
theorem sn_b {k : Nat} (h : k ≤ 18000) : sn k ≤ 1000000 ∧ k * (18000 - k) ≤ 81000000 := co_dec zs_nat_all (Nat.lt_succ_of_le h)
theorem half_i {k : Nat} (h : k ≤ 18000) : (fm_half (nI k)).toInt = (sn k : Nat) := by
  have z18 : (18000 : Int32).toInt = 18000 := by decide
  obtain ⟨n1, n2⟩ := sn_b h
  have hx : (nI k).toInt = (k : Nat) := nI_toInt (by omega)
  have b := (zwq_b (x := nI k) (by omega) (by omega)).1
  have ex : (nI k).toInt64.toInt = k := by rw [Int32.toInt_toInt64, hx]
  have c18 : (18000 : Int64).toInt = 18000 := by decide
  have c4 : (4000000 : Int64).toInt = 4000000 := by decide
  have c405 : (405000000 : Int64).toInt = 405000000 := by decide
  have s1 : (18000 - (nI k).toInt64).toInt = ((18000 - k : Nat) : Int) := by rw [zl_sub (by rw [c18, ex]; omega) (by rw [c18, ex]; omega), c18, ex]; omega
  have pu : ((k : Nat) : Int) * ((18000 - k : Nat) : Int) = ((k * (18000 - k) : Nat) : Int) := (Int.natCast_mul _ _).symm
  unfold sn at n1 ⊢
  generalize hu : k * (18000 - k) = u at *
  have m1 : ((nI k).toInt64 * (18000 - (nI k).toInt64)).toInt = (u : Int) := by
    rw [zl_mul (by rw [ex, s1, pu]; omega) (by rw [ex, s1, pu]; omega), ex, s1, pu]
  have m2 : (4000000 * ((nI k).toInt64 * (18000 - (nI k).toInt64))).toInt = ((4000000 * u : Nat) : Int) := by
    rw [zl_mul (by rw [c4, m1]; omega) (by rw [c4, m1]; omega), c4, m1]; omega
  have m3 : (405000000 - (nI k).toInt64 * (18000 - (nI k).toInt64)).toInt = ((405000000 - u : Nat) : Int) := by
    rw [zl_sub (by rw [c405, m1]; omega) (by rw [c405, m1]; omega), c405, m1]; omega
  have eq : (zwq (nI k).toInt64).toInt = ((4000000 * u / (405000000 - u) : Nat) : Int) := by
    unfold zwq
    rw [zl_div (by rw [m2]; omega), m2, m3]
    rfl
  generalize 4000000 * u / (405000000 - u) = w at n1 eq ⊢
  rw [b, zx_i (by omega), eq]
theorem sn_sym {k : Nat} (h : k ≤ 18000) : sn (18000 - k) = sn k := by
  unfold sn
  rw [show 18000 - (18000 - k) = k by omega, Nat.mul_comm (18000 - k) k]
theorem sn_mono_all : (List.range 9000).all (fun k => decide (sn k ≤ sn (k + 1))) = true := by decide +kernel
theorem sn_sq_all : (List.range 9001).all (fun k => decide (990000000000 ≤ sn k * sn k + sn (9000 + k) * sn (9000 + k) ∧ sn k * sn k + sn (9000 + k) * sn (9000 + k) ≤ 1010000000000)) = true := by decide +kernel
theorem sine_lo {k : Nat} (h : k ≤ 18000) : (fm_sine (nI k)).toInt = (sn k : Nat) := by
  unfold fm_sine
  rw [if_neg (fun c => by have := (nI_ltI (a := 18000) (b := k) (by decide) (by omega)).mp c; omega), half_i h]
theorem sine_hi {k : Nat} (h0 : 18000 < k) (h : k ≤ 36000) : (fm_sine (nI k)).toInt = -(sn (k - 18000) : Nat) := by
  unfold fm_sine
  have e : nI k - 18000 = nI (k - 18000) := pk_sub (a := k) (b := 18000) (by omega)
  have b := (sn_b (k := k - 18000) (by omega)).1
  have hi := half_i (k := k - 18000) (by omega)
  have c : (18000 : Int32) < nI k := (nI_ltI (a := 18000) (b := k) (by decide) (by omega)).mpr h0
  rw [if_pos c, e, zi_neg (by omega), hi]
theorem cos_n {k : Nat} (h : k < 36000) : fm_cosine (nI k) = fm_sine (nI ((k + 9000) % 36000)) := by
  unfold fm_cosine
  have e1 : nI k + 9000 = nI (k + 9000) := nI_add k 9000
  have e2 : nI (k + 9000) / 36000 = nI ((k + 9000) / 36000) := pk_div (a := k + 9000) (d := 36000) (by omega) (by decide) (by decide)
  have e3 : nI ((k + 9000) / 36000) * 36000 = nI ((k + 9000) / 36000 * 36000) := pk_mul _ 36000
  rw [e1, e2, e3, pk_sub (by omega), show k + 9000 - (k + 9000) / 36000 * 36000 = (k + 9000) % 36000 by omega]
theorem in_c {k : Nat} (h : k < 36000) : ¬ fm_in (nI k) 0 35999 = 0 := by
  unfold fm_in
  rw [if_neg (nI_pos (by omega)), if_neg (fun c => by have := (nI_ltI (a := 35999) (b := k) (by decide) (by omega)).mp c; omega)]
  decide
theorem wave0 {k : Nat} (h : k < 36000) : fm_wave (nI k) 0 = fm_sine (nI k) := by
  unfold fm_wave
  rw [if_neg (in_c h), if_neg (by decide), if_pos (by decide)]
theorem wave1 {k : Nat} (h : k < 36000) : fm_wave (nI k) 1 = fm_cosine (nI k) := by
  unfold fm_wave
  rw [if_neg (in_c h), if_neg (by decide), if_neg (by decide)]
theorem wf_0 {k : Nat} (h : k ≤ 9000) : (fm_wave (nI k) 0).toInt = (sn k : Nat) ∧ (fm_wave (nI k) 1).toInt = (sn (9000 + k) : Nat) := by
  rw [wave0 (by omega), wave1 (by omega), cos_n (by omega), sine_lo (by omega), sine_lo (by omega), show (k + 9000) % 36000 = 9000 + k by omega]
  exact ⟨rfl, rfl⟩
theorem wf_1 {k : Nat} (h : k ≤ 9000) : ¬ fm_wave (nI k) 0 < 0 := fun c => by
  have := Int32.lt_iff_toInt_lt.mp c
  rw [(wf_0 h).1] at this
  have z : (0 : Int32).toInt = 0 := by decide
  omega
theorem wf_2 {k : Nat} (h : k ≤ 9000) : ¬ 1000000 < fm_wave (nI k) 0 := fun c => by
  have := Int32.lt_iff_toInt_lt.mp c
  rw [(wf_0 h).1] at this
  have z : (1000000 : Int32).toInt = 1000000 := by decide
  have := (sn_b (k := k) (by omega)).1
  omega
theorem wf_3 {k : Nat} (h : k ≤ 9000) : fm_wave (18000 - nI k) 0 = fm_wave (nI k) 0 := by
  apply Int32.toInt_inj.mp
  have e : 18000 - nI k = nI (18000 - k) := pk_sub (a := 18000) (b := k) (by omega)
  rw [(wf_0 h).1, e, wave0 (by omega), sine_lo (by omega), sn_sym (by omega)]
theorem wf_4 {k : Nat} (h : k ≤ 9000) (h0 : ¬ nI k ≤ 0) : fm_wave (36000 - nI k) 0 = -fm_wave (nI k) 0 := by
  have hk : 0 < k := Nat.pos_of_ne_zero (fun e => h0 (by subst e; decide))
  apply Int32.toInt_inj.mp
  have b := (sn_b (k := k) (by omega)).1
  have w := (wf_0 h).1
  have e : 36000 - nI k = nI (36000 - k) := pk_sub (a := 36000) (b := k) (by omega)
  rw [zi_neg (by omega), w, e, wave0 (by omega), sine_hi (by omega) (by omega), show 36000 - k - 18000 = 18000 - k by omega, sn_sym (by omega)]
theorem wf_5 {k : Nat} (h : k ≤ 9000) : fm_wave (18000 + nI k) 0 = -fm_wave (nI k) 0 := by
  apply Int32.toInt_inj.mp
  have b := (sn_b (k := k) (by omega)).1
  have w := (wf_0 h).1
  have e : 18000 + nI k = nI (18000 + k) := nI_add 18000 k
  rw [zi_neg (by omega), w, e, wave0 (by omega)]
  by_cases c : k = 0
  · subst c; rw [sine_lo (by omega)]; decide
  · rw [sine_hi (by omega) (by omega), show 18000 + k - 18000 = k by omega]
theorem wf_6 {k : Nat} (h : k ≤ 9000) : fm_wave (nI k) 1 = fm_wave (9000 + nI k) 0 := by
  have e : 9000 + nI k = nI (9000 + k) := nI_add 9000 k
  rw [e, wave1 (by omega), wave0 (by omega), cos_n (by omega), show (k + 9000) % 36000 = 9000 + k by omega]
theorem wf_7 {k : Nat} (h : k ≤ 9000) : fm_wave (9000 - nI k) 1 = fm_wave (nI k) 0 := by
  apply Int32.toInt_inj.mp
  have e : 9000 - nI k = nI (9000 - k) := pk_sub (a := 9000) (b := k) (by omega)
  rw [(wf_0 h).1, e, wave1 (by omega), cos_n (by omega), show (9000 - k + 9000) % 36000 = 18000 - k by omega, sine_lo (by omega), sn_sym (by omega)]
theorem wf_8 {k : Nat} (h : k ≤ 9000) (h0 : ¬ 9000 ≤ nI k) : ¬ fm_wave (nI k + 1) 0 < fm_wave (nI k) 0 := fun c => by
  have hk : k < 9000 := Nat.lt_of_not_le (fun q => h0 ((nI_leI (a := 9000) (b := k) (by decide) (by omega)).mpr q))
  have e : nI k + 1 = nI (k + 1) := nI_add k 1
  have := Int32.lt_iff_toInt_lt.mp c
  rw [e, (wf_0 h).1, (wf_0 (k := k + 1) (by omega)).1] at this
  have := co_dec sn_mono_all hk
  omega
theorem wf_9 {k : Nat} (h : k ≤ 9000) : ((fm_wave (nI k) 0).toInt64 * (fm_wave (nI k) 0).toInt64 + (fm_wave (nI k) 1).toInt64 * (fm_wave (nI k) 1).toInt64).toInt = ((sn k * sn k + sn (9000 + k) * sn (9000 + k) : Nat) : Int) := by
  obtain ⟨w1, w2⟩ := wf_0 h
  have s := (co_dec sn_sq_all (i := k) (by omega)).2
  have m1 : ((fm_wave (nI k) 0).toInt64 * (fm_wave (nI k) 0).toInt64).toInt = ((sn k * sn k : Nat) : Int) := by
    have q : (fm_wave (nI k) 0).toInt64.toInt * (fm_wave (nI k) 0).toInt64.toInt = ((sn k * sn k : Nat) : Int) := by rw [Int32.toInt_toInt64, w1, Int.natCast_mul]
    rw [zl_mul (by rw [q]; omega) (by rw [q]; omega), q]
  have m2 : ((fm_wave (nI k) 1).toInt64 * (fm_wave (nI k) 1).toInt64).toInt = ((sn (9000 + k) * sn (9000 + k) : Nat) : Int) := by
    have q : (fm_wave (nI k) 1).toInt64.toInt * (fm_wave (nI k) 1).toInt64.toInt = ((sn (9000 + k) * sn (9000 + k) : Nat) : Int) := by rw [Int32.toInt_toInt64, w2, Int.natCast_mul]
    rw [zl_mul (by rw [q]; omega) (by rw [q]; omega), q]
  rw [zl_add (by rw [m1, m2]; omega) (by rw [m1, m2]; omega), m1, m2]
  omega
theorem wf_10 {k : Nat} (h : k ≤ 9000) : ¬ ((fm_wave (nI k) 0).toInt64 * (fm_wave (nI k) 0).toInt64 + (fm_wave (nI k) 1).toInt64 * (fm_wave (nI k) 1).toInt64) < 990000000000 := fun c => by
  have := Int64.lt_iff_toInt_lt.mp c
  rw [wf_9 h] at this
  have z : (990000000000 : Int64).toInt = 990000000000 := by decide
  have := (co_dec sn_sq_all (i := k) (by omega)).1
  omega
theorem wf_11 {k : Nat} (h : k ≤ 9000) : ¬ 1010000000000 < ((fm_wave (nI k) 0).toInt64 * (fm_wave (nI k) 0).toInt64 + (fm_wave (nI k) 1).toInt64 * (fm_wave (nI k) 1).toInt64) := fun c => by
  have := Int64.lt_iff_toInt_lt.mp c
  rw [wf_9 h] at this
  have z : (1010000000000 : Int64).toInt = 1010000000000 := by decide
  have := (co_dec sn_sq_all (i := k) (by omega)).2
  omega
/-- rests in whole numbers -/
theorem restBy_i {a : Nat → Int32} {la sp co : Int32} (hl : zlR la) (hc : zcR co) (hs : zsR sp) (h2 : 0 ≤ (a 22).toInt ∧ (a 22).toInt ≤ 30000) : (fm_restBy a la sp co).toInt = ((a 22).toInt * (fm_sineOf la).toInt).tdiv (fm_cosine (fm_cof la)).toInt - (64 * sp.toInt * (fm_cosine co).toInt).tdiv (fm_cosine (fm_cof la)).toInt := by
  have hcc := z_cofC hl
  have hcr := z_cosR hl
  have hsin := z_sineEq hcc
  have hco := z_cosEq hc
  have ei : (fm_cosOf la).toInt = (fm_cosine (fm_cof la)).toInt := Int32.toInt_toInt64 _
  have es : -1000000 ≤ (fm_sineOf la).toInt ∧ (fm_sineOf la).toInt ≤ 1000000 := by
    unfold fm_sineOf
    by_cases c : 0 ≤ la
    · rw [if_pos c, Int32.toInt_toInt64]; exact hsin.2
    · rw [if_neg c, Int32.toInt_toInt64, zi_neg (by omega)]; omega
  have b1 := zmulb (x := (a 22).toInt) (y := (fm_sineOf la).toInt) (a := 30000) (b := 1000000) ⟨by omega, h2.2⟩ es
  have m1 : ((a 22).toInt64 * fm_sineOf la).toInt = (a 22).toInt * (fm_sineOf la).toInt := by
    rw [zl_mul (by rw [Int32.toInt_toInt64]; omega) (by rw [Int32.toInt_toInt64]; omega), Int32.toInt_toInt64]
  have z64c : (64 : Int64).toInt = 64 := by decide
  have m2 : (64 * sp.toInt64).toInt = 64 * sp.toInt := by
    rw [zl_mul (by rw [Int32.toInt_toInt64, z64c]; have := hs.1; omega) (by rw [Int32.toInt_toInt64, z64c]; have := hs.2; omega), Int32.toInt_toInt64, z64c]
  have b2 := zmulb (x := 64 * sp.toInt) (y := (fm_cosine co).toInt) (a := 25600) (b := 1000000) ⟨by have := hs.1; omega, by have := hs.2; omega⟩ hco.2
  have m3 : (64 * sp.toInt64 * (fm_cosine co).toInt64).toInt = 64 * sp.toInt * (fm_cosine co).toInt := by
    rw [zl_mul (by rw [m2, Int32.toInt_toInt64]; omega) (by rw [m2, Int32.toInt_toInt64]; omega), m2, Int32.toInt_toInt64]
  have d1 : ((a 22).toInt64 * fm_sineOf la / fm_cosOf la).toInt = ((a 22).toInt * (fm_sineOf la).toInt).tdiv (fm_cosine (fm_cof la)).toInt := by
    rw [zl_div (by rw [m1]; omega), m1, ei]
  have d2 : (64 * sp.toInt64 * (fm_cosine co).toInt64 / fm_cosOf la).toInt = (64 * sp.toInt * (fm_cosine co).toInt).tdiv (fm_cosine (fm_cof la)).toInt := by
    rw [zl_div (by rw [m3]; omega), m3, ei]
  have t1 := zt_b (x := (a 22).toInt * (fm_sineOf la).toInt) (k := (fm_cosine (fm_cof la)).toInt) (m := 100000) (by omega) (by omega) (by omega)
  have t2 := zt_b (x := 64 * sp.toInt * (fm_cosine co).toInt) (k := (fm_cosine (fm_cof la)).toInt) (m := 100000) (by omega) (by omega) (by omega)
  have s1 : ((a 22).toInt64 * fm_sineOf la / fm_cosOf la - 64 * sp.toInt64 * (fm_cosine co).toInt64 / fm_cosOf la).toInt = ((a 22).toInt * (fm_sineOf la).toInt).tdiv (fm_cosine (fm_cof la)).toInt - (64 * sp.toInt * (fm_cosine co).toInt).tdiv (fm_cosine (fm_cof la)).toInt := by
    rw [zl_sub (by rw [d1, d2]; omega) (by rw [d1, d2]; omega), d1, d2]
  have eR : fm_restBy a la sp co = ((a 22).toInt64 * fm_sineOf la / fm_cosOf la - 64 * sp.toInt64 * (fm_cosine co).toInt64 / fm_cosOf la).toInt32 := rfl
  rw [eR, zx_i (by omega), s1]
theorem in_d {x : Int32} (h : -70 ≤ x.toInt ∧ x.toInt ≤ 70) : ¬ fm_in x (-70) 70 = 0 := by
  unfold fm_in
  have z1 : (-70 : Int32).toInt = -70 := by decide
  have z2 : (70 : Int32).toInt = 70 := by decide
  rw [if_neg (fun c => by have := Int32.lt_iff_toInt_lt.mp c; omega), if_neg (fun c => by have := Int32.lt_iff_toInt_lt.mp c; omega)]
  decide
theorem in_s {x : Int32} (h : zsR x) : ¬ fm_in x 0 400 = 0 := by
  unfold fm_in
  have z1 : (0 : Int32).toInt = 0 := by decide
  have z2 : (400 : Int32).toInt = 400 := by decide
  have h1 := h.1
  have h2 := h.2
  rw [if_neg (fun c => by have := Int32.lt_iff_toInt_lt.mp c; omega), if_neg (fun c => by have := Int32.lt_iff_toInt_lt.mp c; omega)]
  decide
theorem in_c2 {x : Int32} (h : zcR x) : ¬ fm_in x 0 35999 = 0 := by
  unfold fm_in
  have z1 : (0 : Int32).toInt = 0 := by decide
  have z2 : (35999 : Int32).toInt = 35999 := by decide
  have h1 := h.1
  have h2 := h.2
  rw [if_neg (fun c => by have := Int32.lt_iff_toInt_lt.mp c; omega), if_neg (fun c => by have := Int32.lt_iff_toInt_lt.mp c; omega)]
  decide
theorem cof_i {x : Int32} {d : Nat} (hd : d ≤ 70) (h : x.toInt = d ∨ x.toInt = -d) : fm_cof (1000000 * x) = nI (100 * d) := by
  have z : (1000000 : Int32).toInt = 1000000 := by decide
  have e : (1000000 * x).toInt = 1000000 * x.toInt := by rw [zi_mul (by rw [z]; omega) (by rw [z]; omega), z]
  have s := zsize_i (x := 1000000 * x) (by omega)
  have s2 : (fm_size (1000000 * x)).toInt = ((1000000 * d : Nat) : Int) := by
    rw [s]
    split <;> omega
  have s3 : fm_size (1000000 * x) = nI (1000000 * d) := Int32.toInt_inj.mp (by rw [s2, nI_toInt (by omega)])
  unfold fm_cof
  rw [s3]
  have e2 : nI (1000000 * d) / 10000 = nI (1000000 * d / 10000) := pk_div (a := 1000000 * d) (d := 10000) (by omega) (by decide) (by decide)
  rw [e2, show 1000000 * d / 10000 = 100 * d by omega]
/-- restAt at a latitude of d degrees north (n = 1) or south (n = -1) -/
theorem restAt_i {a : Nat → Int32} {x sp co : Int32} {d : Nat} {n : Int} (h2 : 0 ≤ (a 22).toInt ∧ (a 22).toInt ≤ 30000) (hd : d ≤ 70) (hx : (n = 1 ∧ x.toInt = d) ∨ (n = -1 ∧ x.toInt = -d)) (hc : zcR co) (hs : zsR sp) : (fm_restAt a x sp co).toInt = n * (((a 22).toInt * (sn (100 * d) : Nat)).tdiv (sn (9000 + 100 * d) : Nat)) - (64 * sp.toInt * (fm_cosine co).toInt).tdiv (sn (9000 + 100 * d) : Nat) := by
  have hx2 : -70 ≤ x.toInt ∧ x.toInt ≤ 70 := by omega
  have hl : zlR (1000000 * x) := z_deg hx2
  have hc2 := cof_i hd (show x.toInt = d ∨ x.toInt = -d by omega)
  unfold fm_restAt
  rw [if_neg (in_d hx2), if_neg (in_s hs), if_neg (in_c2 hc), restBy_i hl hc hs h2, hc2]
  have w := wf_0 (k := 100 * d) (by omega)
  rw [wave0 (by omega), wave1 (by omega)] at w
  have z : (1000000 : Int32).toInt = 1000000 := by decide
  have e : (1000000 * x).toInt = 1000000 * x.toInt := by rw [zi_mul (by rw [z]; omega) (by rw [z]; omega), z]
  have z0 : (0 : Int32).toInt = 0 := by decide
  have sb := (sn_b (k := 100 * d) (by omega)).1
  have es : (fm_sineOf (1000000 * x)).toInt = n * (sn (100 * d) : Nat) := by
    unfold fm_sineOf
    rw [hc2]
    by_cases c : 0 ≤ 1000000 * x
    · have := Int32.le_iff_toInt_le.mp c
      rw [if_pos c, Int32.toInt_toInt64, w.1]
      rcases hx with ⟨rfl, q⟩ | ⟨rfl, q⟩
      · omega
      · have : d = 0 := by omega
        subst this
        decide
    · have c' : ¬ (0 : Int32).toInt ≤ (1000000 * x).toInt := fun q => c (Int32.le_iff_toInt_le.mpr q)
      rw [if_neg c, Int32.toInt_toInt64, zi_neg (by omega), w.1]
      rcases hx with ⟨rfl, q⟩ | ⟨rfl, q⟩
      · omega
      · omega
  rw [es, w.2]
  rcases hx with ⟨rfl, q⟩ | ⟨rfl, q⟩
  · rw [Int.one_mul, Int.one_mul]
  · rw [show (a 22).toInt * (-1 * ((sn (100 * d) : Nat) : Int)) = -((a 22).toInt * ((sn (100 * d) : Nat) : Int)) by rw [Int.neg_mul, Int.one_mul, Int.mul_neg], Int.neg_tdiv, Int.neg_mul, Int.one_mul]
theorem cos_9 : fm_cosine 9000 = 0 := by decide +kernel
theorem cos_27 : fm_cosine 27000 = 0 := by decide +kernel
theorem zcR_n {k : Nat} (h : k < 36000) : zcR (nI k) := by
  unfold zcR
  rw [nI_toInt (by omega)]
  omega
theorem zsR_n {k : Nat} (h : k ≤ 400) : zsR (nI k) := by
  unfold zsR
  rw [nI_toInt (by omega)]
  omega
theorem rs_b {a : Nat → Int32} {d : Nat} (h2 : 0 ≤ (a 22).toInt ∧ (a 22).toInt ≤ 30000) (hd : d ≤ 70) : ∃ S F : Nat, S = sn (100 * d) ∧ F = sn (9000 + 100 * d) ∧ S ≤ 1000000 ∧ 343163 ≤ F ∧ F ≤ 1000000 ∧ (0 ≤ (a 22).toInt * S ∧ (a 22).toInt * S ≤ 30000000000) := by
  have w := wf_0 (k := 100 * d) (by omega)
  have hz := z_cosR (x := 1000000 * nI d) (z_deg (by rw [nI_toInt (by omega)]; omega))
  rw [cof_i (x := nI d) hd (Or.inl (nI_toInt (by omega)))] at hz
  rw [wave1 (by omega)] at w
  have sb := (sn_b (k := 100 * d) (by omega)).1
  refine ⟨_, _, rfl, rfl, sb, by omega, by omega, Int.mul_nonneg h2.1 (by omega), ?_⟩
  have := Int.mul_le_mul h2.2 (show ((sn (100 * d) : Nat) : Int) ≤ 1000000 by omega) (by omega) (by omega)
  omega
theorem td_b {x : Int} {F : Nat} (hF : 343163 ≤ F) (h0 : 0 ≤ x) (h1 : x ≤ 30000000000) : 0 ≤ x.tdiv F ∧ x.tdiv F ≤ 100000 ∧ x.tdiv F * F ≤ x ∧ x < x.tdiv F * F + F := by
  have e := Int.tdiv_eq_ediv_of_nonneg (b := (F : Int)) h0
  rw [e]
  have hp : (0 : Int) < F := by omega
  have m0 := Int.emod_nonneg x (show (F : Int) ≠ 0 by omega)
  have m1 := Int.emod_lt_of_pos x hp
  have dm := Int.mul_ediv_add_emod x F
  have q0 : 0 ≤ x / (F : Int) := Int.ediv_nonneg h0 (by omega)
  have q1 : x / (F : Int) ≤ 100000 := Int.ediv_le_of_le_mul hp (by omega)
  rw [Int.mul_comm] at dm
  omega
theorem rs_st {a : Nat → Int32} {d k : Nat} (h2 : 0 ≤ (a 22).toInt ∧ (a 22).toInt ≤ 30000) (hd : d ≤ 70) (hk : k ≤ 9000) : (fm_restAt a (nI d) 0 (nI k)).toInt = ((a 22).toInt * (sn (100 * d) : Nat)).tdiv (sn (9000 + 100 * d) : Nat) := by
  have z0 : (0 : Int32).toInt = 0 := by decide
  rw [restAt_i (n := 1) (sp := 0) (co := nI k) h2 hd (Or.inl ⟨rfl, nI_toInt (by omega)⟩) (zcR_n (by omega)) ⟨by decide, by decide⟩, z0]
  have e : (64 * 0 * (fm_cosine (nI k)).toInt : Int) = 0 := by omega
  rw [e, Int.zero_tdiv]
  omega
theorem rs_w {d : Nat} (hd : d ≤ 70) : (fm_wave (100 * nI d) 0).toInt = (sn (100 * d) : Nat) ∧ (fm_wave (100 * nI d) 1).toInt = (sn (9000 + 100 * d) : Nat) := by
  have e : 100 * nI d = nI (100 * d) := pk_mul 100 d
  rw [e]
  exact wf_0 (by omega)
theorem rs_aw {a : Nat → Int32} {d k : Nat} (h2 : 0 ≤ (a 22).toInt ∧ (a 22).toInt ≤ 30000) (hd : d ≤ 70) (hk : k ≤ 9000) : -((sn (9000 + 100 * d) : Nat) : Int) < ((fm_restAt a (nI d) 0 (nI k)).toInt64 * (fm_wave (100 * nI d) 1).toInt64 - (a 22).toInt64 * (fm_wave (100 * nI d) 0).toInt64).toInt ∧ ((fm_restAt a (nI d) 0 (nI k)).toInt64 * (fm_wave (100 * nI d) 1).toInt64 - (a 22).toInt64 * (fm_wave (100 * nI d) 0).toInt64).toInt ≤ 0 := by
  have es := rs_st h2 hd hk
  obtain ⟨w0, w1⟩ := rs_w hd
  obtain ⟨S, F, eS, eF, b1, b2, b3, b4, b5⟩ := rs_b h2 hd
  rw [← eS, ← eF] at es
  rw [← eS] at w0
  rw [← eF] at w1 ⊢
  obtain ⟨t0, t1, t2, t3⟩ := td_b b2 b4 b5
  generalize ((a 22).toInt * (S : Int)).tdiv F = q at es t0 t1 t2 t3
  have qF : 0 ≤ q * (F : Int) := Int.mul_nonneg t0 (by omega)
  have m1 : ((fm_restAt a (nI d) 0 (nI k)).toInt64 * (fm_wave (100 * nI d) 1).toInt64).toInt = q * (F : Int) := by
    rw [zl_mul (by rw [Int32.toInt_toInt64, Int32.toInt_toInt64, es, w1]; omega) (by rw [Int32.toInt_toInt64, Int32.toInt_toInt64, es, w1]; omega), Int32.toInt_toInt64, Int32.toInt_toInt64, es, w1]
  have m2 : ((a 22).toInt64 * (fm_wave (100 * nI d) 0).toInt64).toInt = (a 22).toInt * (S : Int) := by
    rw [zl_mul (by rw [Int32.toInt_toInt64, Int32.toInt_toInt64, w0]; omega) (by rw [Int32.toInt_toInt64, Int32.toInt_toInt64, w0]; omega), Int32.toInt_toInt64, Int32.toInt_toInt64, w0]
  rw [zl_sub (by rw [m1, m2]; omega) (by rw [m1, m2]; omega), m1, m2]
  omega
theorem rs_A {a : Nat → Int32} {d k : Nat} (h2 : 0 ≤ (a 22).toInt ∧ (a 22).toInt ≤ 30000) (hd : d ≤ 70) (hk : k ≤ 9000) : ¬ 0 < ((fm_restAt a (nI d) 0 (nI k)).toInt64 * (fm_wave (100 * nI d) 1).toInt64 - (a 22).toInt64 * (fm_wave (100 * nI d) 0).toInt64) := fun c => by
  have := Int64.lt_iff_toInt_lt.mp c
  have z : (0 : Int64).toInt = 0 := by decide
  have := (rs_aw h2 hd hk).2
  omega
theorem rs_B {a : Nat → Int32} {d k : Nat} (h2 : 0 ≤ (a 22).toInt ∧ (a 22).toInt ≤ 30000) (hd : d ≤ 70) (hk : k ≤ 9000) : ¬ ((fm_restAt a (nI d) 0 (nI k)).toInt64 * (fm_wave (100 * nI d) 1).toInt64 - (a 22).toInt64 * (fm_wave (100 * nI d) 0).toInt64) ≤ (-fm_wave (100 * nI d) 1).toInt64 := fun c => by
  have := Int64.le_iff_toInt_le.mp c
  have w := (rs_w hd).2
  rw [Int32.toInt_toInt64, zi_neg (by omega), w] at this
  have := (rs_aw h2 hd hk).1
  omega
theorem rs_C {a : Nat → Int32} {d k : Nat} (h2 : 0 ≤ (a 22).toInt ∧ (a 22).toInt ≤ 30000) (hd : d ≤ 70) (hk : k ≤ 9000) : fm_restAt a (-nI d) 0 (nI k) = -fm_restAt a (nI d) 0 (nI k) := by
  apply Int32.toInt_inj.mp
  have es := rs_st h2 hd hk
  have z0 : (0 : Int32).toInt = 0 := by decide
  have en : (-nI d).toInt = -(d : Nat) := by rw [zi_neg (by rw [nI_toInt (by omega)]; omega), nI_toInt (by omega)]
  obtain ⟨S, F, eS, eF, b1, b2, b3, b4, b5⟩ := rs_b h2 hd
  have hb := td_b b2 b4 b5
  rw [← eS, ← eF] at es
  rw [zi_neg (by omega), es, restAt_i (n := -1) (sp := 0) (co := nI k) h2 hd (Or.inr ⟨rfl, en⟩) (zcR_n (by omega)) ⟨by decide, by decide⟩, ← eS, ← eF, z0]
  have e : (64 * 0 * (fm_cosine (nI k)).toInt : Int) = 0 := by omega
  rw [e, Int.zero_tdiv]
  omega
theorem rs_DE {a : Nat → Int32} {d k sp : Nat} {co : Int32} (h2 : 0 ≤ (a 22).toInt ∧ (a 22).toInt ≤ 30000) (hd : d ≤ 70) (hk : k ≤ 9000) (hs : sp ≤ 400) (hc : zcR co) (hz : fm_cosine co = 0) : fm_restAt a (nI d) (nI sp) co = fm_restAt a (nI d) 0 (nI k) := by
  apply Int32.toInt_inj.mp
  have z0 : (0 : Int32).toInt = 0 := by decide
  rw [rs_st h2 hd hk, restAt_i (n := 1) h2 hd (Or.inl ⟨rfl, nI_toInt (by omega)⟩) hc (zsR_n hs), hz, z0, Int.mul_zero, Int.zero_tdiv]
  omega
theorem rs_sp {a : Nat → Int32} {d k sp : Nat} (h2 : 0 ≤ (a 22).toInt ∧ (a 22).toInt ≤ 30000) (hd : d ≤ 70) (hk : k < 36000) (hs : sp ≤ 400) : (fm_restAt a (nI d) (nI sp) (nI k)).toInt = ((a 22).toInt * (sn (100 * d) : Nat)).tdiv (sn (9000 + 100 * d) : Nat) - (64 * (sp : Nat) * (fm_cosine (nI k)).toInt).tdiv (sn (9000 + 100 * d) : Nat) := by
  rw [restAt_i (n := 1) h2 hd (Or.inl ⟨rfl, nI_toInt (by omega)⟩) (zcR_n hk) (zsR_n hs), nI_toInt (n := sp) (by omega), Int.one_mul]
theorem cos_m {k : Nat} (hk : k ≤ 9000) : (fm_cosine (nI k)).toInt = (sn (9000 + k) : Nat) ∧ (fm_cosine (nI (18000 - k))).toInt = -(sn (9000 + k) : Nat) := by
  have w := (wf_0 hk).2
  rw [wave1 (by omega)] at w
  refine ⟨w, ?_⟩
  rw [cos_n (by omega), show (18000 - k + 9000) % 36000 = 27000 - k by omega]
  by_cases c : k = 9000
  · subst c; rw [sine_lo (by omega)]; decide
  · rw [sine_hi (by omega) (by omega), show 27000 - k - 18000 = 18000 - (9000 + k) by omega, sn_sym (by omega)]
theorem rs_F {a : Nat → Int32} {d k sp : Nat} (h2 : 0 ≤ (a 22).toInt ∧ (a 22).toInt ≤ 30000) (hd : d ≤ 70) (hk : k ≤ 9000) (hs : sp ≤ 400) : fm_restAt a (nI d) (nI sp) (nI k) - fm_restAt a (nI d) 0 (nI k) = fm_restAt a (nI d) 0 (nI k) - fm_restAt a (nI d) (nI sp) (18000 - nI k) := by
  have e : 18000 - nI k = nI (18000 - k) := pk_sub (a := 18000) (b := k) (by omega)
  rw [e]
  apply Int32.toInt_inj.mp
  have es := rs_st h2 hd hk
  have e1 := rs_sp h2 hd (k := k) (by omega) hs
  have e2 := rs_sp h2 hd (k := 18000 - k) (by omega) hs
  obtain ⟨c1, c2⟩ := cos_m hk
  rw [c1] at e1
  rw [c2, Int.mul_neg, Int.neg_tdiv] at e2
  obtain ⟨S, F, eS, eF, b1, b2, b3, b4, b5⟩ := rs_b h2 hd
  have hb := td_b b2 b4 b5
  have sb := (sn_b (k := 9000 + k) (by omega)).1
  have mb : 0 ≤ (64 * (sp : Nat) * (sn (9000 + k) : Nat) : Int) ∧ (64 * (sp : Nat) * (sn (9000 + k) : Nat) : Int) ≤ 30000000000 := by
    have := zmulb (x := 64 * (sp : Nat)) (y := (sn (9000 + k) : Nat)) (a := 25600) (b := 1000000) (by omega) (by omega)
    exact ⟨Int.mul_nonneg (by omega) (by omega), by omega⟩
  have hc := td_b b2 mb.1 mb.2
  rw [← eS, ← eF] at es e1 e2
  rw [zi_sub (by omega) (by omega), zi_sub (by omega) (by omega)]
  omega
theorem rs_G {a : Nat → Int32} {d k sp : Nat} (h2 : 0 ≤ (a 22).toInt ∧ (a 22).toInt ≤ 30000) (hd : d ≤ 70) (hk : k ≤ 9000) (hs : sp ≤ 400) : ¬ fm_restAt a (nI d) (nI sp) (nI k) < fm_restAt a (nI d) (nI sp) 0 := fun c => by
  have := Int32.lt_iff_toInt_lt.mp c
  have e1 := rs_sp h2 hd (k := k) (by omega) hs
  have e2 : (fm_restAt a (nI d) (nI sp) 0).toInt = _ := rs_sp h2 hd (k := 0) (by omega) hs
  rw [(cos_m hk).1] at e1
  rw [(cos_m (k := 0) (by omega)).1] at e2
  obtain ⟨S, F, eS, eF, b1, b2, b3, b4, b5⟩ := rs_b h2 hd
  have sb := (sn_b (k := 9000 + k) (by omega)).1
  have s9 : sn (9000 + 0) = 1000000 := by decide
  rw [s9] at e2
  rw [e1, e2, ← eF] at this
  have m1 : (64 * (sp : Nat) * (sn (9000 + k) : Nat) : Int) ≤ 64 * (sp : Nat) * (1000000 : Nat) := Int.mul_le_mul_of_nonneg_left (by omega) (by omega)
  have m0 : 0 ≤ (64 * (sp : Nat) * (sn (9000 + k) : Nat) : Int) := Int.mul_nonneg (by omega) (by omega)
  have := Int.tdiv_le_tdiv (c := (F : Int)) (by omega) m1
  omega
