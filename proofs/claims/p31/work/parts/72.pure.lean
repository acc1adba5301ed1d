/-! an observed line: what the law holds against it -/
theorem td_m (x : Int) {k : Int} (hk : 0 < k) : ∃ q m : Int, x.tdiv k = q ∧ x = k * q + m ∧ -k < m ∧ m < k ∧ (0 ≤ x → 0 ≤ m) ∧ (x ≤ 0 → m ≤ 0) := by
  by_cases c : 0 ≤ x
  · refine ⟨x / k, x % k, Int.tdiv_eq_ediv_of_nonneg c, (Int.mul_ediv_add_emod x k).symm, ?_, Int.emod_lt_of_pos x hk, fun _ => Int.emod_nonneg x (by omega), fun h => ?_⟩
    · have := Int.emod_nonneg x (show k ≠ 0 by omega); omega
    · have : x = 0 := by omega
      subst this; simp
  · have e : x.tdiv k = -((-x) / k) := by rw [← Int.tdiv_eq_ediv_of_nonneg (by omega), Int.neg_tdiv, Int.neg_neg]
    have d := Int.mul_ediv_add_emod (-x) k
    have m0 := Int.emod_nonneg (-x) (show k ≠ 0 by omega)
    have m1 := Int.emod_lt_of_pos (-x) hk
    refine ⟨-((-x) / k), -((-x) % k), e, ?_, by omega, by omega, fun h => absurd h c, fun _ => by omega⟩
    rw [Int.mul_neg]; omega
theorem zrem_i {x : Int32} {k : Nat} (hk : 0 < k) (hk2 : k < 2 ^ 30) (h : -2147483648 < x.toInt) : ∃ q m : Int, (x - x / nI k * nI k).toInt = m ∧ x.toInt = k * q + m ∧ -k < m ∧ m < k ∧ (0 ≤ x.toInt → 0 ≤ m) ∧ (x.toInt ≤ 0 → m ≤ 0) := by
  obtain ⟨q, m, e, d, b1, b2, s1, s2⟩ := td_m x.toInt (k := (k : Int)) (by omega)
  have hx := z32 (x := x)
  have ek : (nI k).toInt = (k : Nat) := nI_toInt (by omega)
  have e1 : (x / nI k).toInt = q := by rw [zi_div h, ek, e]
  have qk : q * (k : Int) = x.toInt - m := by rw [Int.mul_comm]; omega
  have bd : -2147483648 ≤ x.toInt - m ∧ x.toInt - m < 2147483648 := by
    rcases Int.le_total 0 x.toInt with c | c
    · have := s1 c; omega
    · have := s2 c; omega
  have e2 : (x / nI k * nI k).toInt = x.toInt - m := by
    have q1 : (x / nI k).toInt * (nI k).toInt = x.toInt - m := by rw [e1, ek, qk]
    rw [zi_mul (by rw [q1]; exact bd.1) (by rw [q1]; exact bd.2), q1]
  refine ⟨q, m, ?_, d, b1, b2, s1, s2⟩
  rw [zi_sub (by rw [e2]; omega) (by rw [e2]; omega), e2]
  omega
theorem zz_f {y : Int32} (h : -100000 ≤ y.toInt ∧ y.toInt ≤ 100000) {z r : Int32} (hz : z = y - y / 36000 * 36000 + 36000) (hr : r = z - z / 36000 * 36000) : (0 ≤ r.toInt ∧ r.toInt < 36000) ∧ (y - r) - (y - r) / 36000 * 36000 = 0 := by
  obtain ⟨q, m, e1, d1, a1, a2, -, -⟩ := zrem_i (x := y) (k := 36000) (by decide) (by decide) (by omega)
  have e1 : (y - y / 36000 * 36000).toInt = m := e1
  have z36 : (36000 : Int32).toInt = 36000 := by decide
  have ez : z.toInt = m + 36000 := by rw [hz, zi_add (by rw [e1, z36]; omega) (by rw [e1, z36]; omega), e1, z36]
  obtain ⟨q2, m2, e2, d2, b1, b2, b3, -⟩ := zrem_i (x := z) (k := 36000) (by decide) (by decide) (by omega)
  have e2 : r.toInt = m2 := by rw [hr]; exact e2
  have m20 := b3 (by omega)
  refine ⟨by omega, ?_⟩
  have e3 : (y - r).toInt = y.toInt - m2 := by rw [zi_sub (by omega) (by omega), e2]
  obtain ⟨q3, m3, e4, d3, c1, c2, -, -⟩ := zrem_i (x := y - r) (k := 36000) (by decide) (by decide) (by omega)
  have e4 : ((y - r) - (y - r) / 36000 * 36000).toInt = m3 := e4
  apply Int32.toInt_inj.mp
  rw [e4]
  have z : (0 : Int32).toInt = 0 := by decide
  omega
section
variable {t : vTv} {w : vX10}
theorem rel_27 (h : Rel t w) : 0 ≤ (w.1 27).toInt ∧ (w.1 27).toInt ≤ 65535 := (h.1.1 7 (by decide)).2
theorem rel_19 (h : Rel t w) : w.1 19 = nI (nT (w.1 19)) ∧ nT (w.1 19) ≤ 6 := rel_lines h
/-- a line more -/
theorem ob_line (hR : Rel t w) {x r : Int32} {v : vX10} {pm : Nat} (hx : zcR x) (hr : r = (fm_line pm (nT (w.1 19)) w x).1) (hv : v = (fm_line pm (nT (w.1 19)) w x).2) : (w.1 19 = 6 ∧ r = -4 ∧ v = w) ∨ (¬ w.1 19 = 6 ∧ r = w.1 19 ∧ v.1 = upd (upd w.1 (79 + nT (w.1 19)) x) 19 (w.1 19 + 1)) := by
  obtain ⟨e, h6⟩ := rel_19 hR
  unfold fm_line at hr hv
  rw [if_neg (in_c2 hx)] at hr hv
  by_cases c : w.1 19 = 6
  · rw [if_pos c] at hr hv
    exact Or.inl ⟨c, hr, hv⟩
  · rw [if_neg c] at hr hv
    have k1 : (fm_keep pm w).1 = w.1 := rfl
    have hn : upd w.1 (79 + nT (w.1 19)) x 19 = w.1 19 := upd_ne (by omega)
    dsimp only at hr hv
    rw [k1] at hr hv
    refine Or.inr ⟨c, ?_, ?_⟩
    · rw [hr, upd_eq, hn]; exact Int32.add_sub_cancel _ _
    · rw [hv, hn]
theorem ob_K (hR : Rel t w) {x r : Int32} {v : vX10} (h : (w.1 19 = 6 ∧ r = -4 ∧ v = w) ∨ (¬ w.1 19 = 6 ∧ r = w.1 19 ∧ v.1 = upd (upd w.1 (79 + nT (w.1 19)) x) 19 (w.1 19 + 1))) (c : ¬ r < 0) : r = nI (nT (w.1 19)) ∧ nT (w.1 19) ≤ 5 ∧ v.1 19 = nI (nT (w.1 19) + 1) ∧ v.1 (79 + nT (w.1 19)) = x ∧ (∀ i, i < 19 ∨ (20 ≤ i ∧ i < 79) → v.1 i = w.1 i) := by
  obtain ⟨e, h6⟩ := rel_19 hR
  rcases h with ⟨-, rfl, -⟩ | ⟨h1, rfl, h3⟩
  · exact absurd (by decide) c
  · have h5 : nT (w.1 19) ≤ 5 := by
      have : ¬ nT (w.1 19) = 6 := fun q => h1 (by rw [e, q]; rfl)
      omega
    refine ⟨e, h5, ?_, ?_, fun i hi => ?_⟩
    · rw [h3, upd_eq]
      generalize nT (w.1 19) = k at e
      rw [e]; exact nI_1 k
    · rw [h3, upd_ne (by omega), upd_eq]
    · rw [h3, upd_ne (by omega), upd_ne (by omega)]
theorem ob_9 {x r : Int32} {v : vX10} (h : (w.1 19 = 6 ∧ r = -4 ∧ v = w) ∨ (¬ w.1 19 = 6 ∧ r = w.1 19 ∧ v.1 = upd (upd w.1 (79 + nT (w.1 19)) x) 19 (w.1 19 + 1))) (c : ¬ w.1 19 = 6) : r = w.1 19 := by
  rcases h with ⟨h1, -⟩ | ⟨-, h1, -⟩
  · exact absurd h1 c
  · exact h1
theorem ob_10 {x r : Int32} {v : vX10} (h : (w.1 19 = 6 ∧ r = -4 ∧ v = w) ∨ (¬ w.1 19 = 6 ∧ r = w.1 19 ∧ v.1 = upd (upd w.1 (79 + nT (w.1 19)) x) 19 (w.1 19 + 1))) (c : w.1 19 = 6) : r = -4 := by
  rcases h with ⟨-, h1, -⟩ | ⟨h1, -⟩
  · exact h1
  · exact absurd c h1
theorem ob_w (hR : Rel t w) {x r : Int32} {v : vX10} (h : (w.1 19 = 6 ∧ r = -4 ∧ v = w) ∨ (¬ w.1 19 = 6 ∧ r = w.1 19 ∧ v.1 = upd (upd w.1 (79 + nT (w.1 19)) x) 19 (w.1 19 + 1))) (c : r < 0) : v = w ∧ w.1 19 = 6 := by
  rcases h with ⟨h1, -, h2⟩ | ⟨-, h1, -⟩
  · exact ⟨h2, h1⟩
  · rw [h1, (rel_19 hR).1] at c
    exact absurd c (nI_pos (by have := (rel_19 hR).2; omega))
theorem ob_8 (hR : Rel t w) {x r : Int32} {v : vX10} {pm c : Nat} (h : (w.1 19 = 6 ∧ r = -4 ∧ v = w) ∨ (¬ w.1 19 = 6 ∧ r = w.1 19 ∧ v.1 = upd (upd w.1 (79 + nT (w.1 19)) x) 19 (w.1 19 + 1))) (hc : r < 0) : fm_obs pm c v 6 = (-1, v) := by
  obtain ⟨rfl, h6⟩ := ob_w hR h hc
  unfold fm_obs
  rw [if_neg (by decide), if_neg (by rw [h6]; decide)]
end
/-- what an observation does to the row: v behind the line, u behind the observation -/
def ob_sd (a : Nat → Int32) : Int32 := if fm_seed a = 65536 then 0 else fm_seed a
def ob_D (a : Nat → Int32) : Int32 := a 4 / 100 + (ob_sd a - ob_sd a / (2 * a 26 + 1) * (2 * a 26 + 1)) - a 26
theorem ob_dif (a : Nat → Int32) : fm_diff (fm_ob1 a) = ob_D a := by
  unfold fm_diff ob_D
  have e27 : fm_ob1 a (20 + 7) = ob_sd a := by unfold fm_ob1; exact upd_eq
  have e26 : fm_ob1 a (20 + 6) = a 26 := by unfold fm_ob1; exact upd_ne (by decide)
  have e4 : fm_ob1 a 4 = a 4 := by unfold fm_ob1; exact upd_ne (by decide)
  rw [e27, e26, e4]
section
variable {t t' : vTv} {v u : vX10}
/-- the rows behind an observation -/
theorem ob_row {pm : Nat} {x r : Int32} {k : Nat} (hR : Rel t v) (hx : x = nI k) (hk : k < 6) (hk2 : nI k < v.1 19) (hu : u = (fm_obs pm (nT (v.1 15)) v x).2) (hr : r = (fm_obs pm (nT (v.1 15)) v x).1) :
    (u.1 27 = ob_sd v.1 ∧ u.1 74 = ob_D v.1 ∧ u.1 15 = nI ((if nT (v.1 15) < 5 then nT (v.1 15) else 4) + 1) ∧ u.1 16 = v.1 16 + 1 ∧ (0 < nT (v.1 15) → u.1 75 = v.1 74)) ∧ (∀ i, i < 15 ∨ (17 ≤ i ∧ i < 27) ∨ (28 ≤ i ∧ i < 74) → u.1 i = v.1 i) ∧ ∃ z : Int32, z = (v.1 (79 + k) + ob_D v.1) - (v.1 (79 + k) + ob_D v.1) / 36000 * 36000 + 36000 ∧ r = z - z / 36000 * 36000 := by
  obtain ⟨e15, h5⟩ := rel_chk hR
  subst hx
  have h0 : ¬ nI k < 0 := nI_pos (by omega)
  unfold fm_obs at hu hr
  rw [if_neg h0, if_pos hk2] at hu hr
  dsimp only at hu hr
  have e1 : (fm_ob2 (nT (v.1 15)) (fm_keep pm v)).1 = fm_chk (nT (v.1 15)) (fm_ob1 v.1) (ob_D v.1) := by
    unfold fm_ob2 fm_chkv
    dsimp only
    rw [show (fm_keep pm v).1 = v.1 from rfl, ob_dif]
  rw [e1] at hu hr
  rw [show (fm_keep pm v).1 = v.1 from rfl, ob_dif] at hr
  generalize hm : (if nT (v.1 15) < 5 then nT (v.1 15) else 4) = m
  have hm4 : m ≤ 4 := by rw [← hm]; split <;> omega
  have ec : ∀ i, fm_chk (nT (v.1 15)) (fm_ob1 v.1) (ob_D v.1) i = if i = 15 then nI (m + 1) else if i = 74 then ob_D v.1 else if 74 < i ∧ i ≤ 74 + m then fm_ob1 v.1 (i - 1) else fm_ob1 v.1 i := fun i => by
    unfold fm_chk
    rw [hm]
    rfl
  have eo : ∀ i, fm_ob1 v.1 i = if i = 27 then ob_sd v.1 else v.1 i := fun i => rfl
  have eu : ∀ i, u.1 i = if i = 16 then fm_chk (nT (v.1 15)) (fm_ob1 v.1) (ob_D v.1) 16 + 1 else fm_chk (nT (v.1 15)) (fm_ob1 v.1) (ob_D v.1) i := fun i => by rw [hu]; rfl
  refine ⟨⟨?_, ?_, ?_, ?_, fun h => ?_⟩, fun i hi => ?_, ?_⟩
  · rw [eu, if_neg (by decide), ec, if_neg (by decide), if_neg (by decide), if_neg (by omega), eo, if_pos rfl]
  · rw [eu, if_neg (by decide), ec, if_neg (by decide), if_pos rfl]
  · rw [eu, if_neg (by decide), ec, if_pos rfl]
  · rw [eu, if_pos rfl, ec, if_neg (by decide), if_neg (by decide), if_neg (by omega), eo, if_neg (by decide)]
  · have : 1 ≤ m := by rw [← hm]; split <;> omega
    rw [eu, if_neg (by decide), ec, if_neg (by decide), if_neg (by decide), if_pos (by omega), eo, if_neg (by decide)]
  · rw [eu, if_neg (by omega), ec, if_neg (by omega), if_neg (by omega), if_neg (by omega), eo, if_neg (by omega)]
  · have eb : upd (fm_chk (nT (v.1 15)) (fm_ob1 v.1) (ob_D v.1)) 16 (fm_chk (nT (v.1 15)) (fm_ob1 v.1) (ob_D v.1) 16 + 1) (79 + (nI k).toNatClampNeg) = v.1 (79 + k) := by
      rw [nI_clamp (by omega), upd_ne (by omega), ec, if_neg (by omega), if_neg (by omega), if_neg (by omega), eo, if_neg (by omega)]
    rw [eb] at hr
    exact ⟨_, rfl, hr⟩
theorem ob_sd_r (hR : Rel t v) {y : Int32} (hy : y = ((((75 : Int64) * (v.1 27).toInt64 + (74 : Int64)) - ((75 : Int64) * (v.1 27).toInt64 + (74 : Int64)) / (65537 : Int64) * (65537 : Int64)).toInt32)) {j : Int32} (hj : ((¬ (y = (65536 : Int32))) ∧ j = y) ∨ ((y = (65536 : Int32)) ∧ j = (0 : Int32))) : j = ob_sd v.1 ∧ ∃ s : Nat, s < 65537 ∧ j = nI s := by
  have h27 := rel_27 hR
  have z75 : (75 : Int64).toInt = 75 := by decide
  have z74 : (74 : Int64).toInt = 74 := by decide
  have z65 : (65537 : Int64).toInt = 65537 := by decide
  have y75 : (75 : Int32).toInt = 75 := by decide
  have y74 : (74 : Int32).toInt = 74 := by decide
  have y65 : (65537 : Int32).toInt = 65537 := by decide
  have m1 : ((75 : Int64) * (v.1 27).toInt64).toInt = 75 * (v.1 27).toInt := by rw [zl_mul (by rw [z75, Int32.toInt_toInt64]; omega) (by rw [z75, Int32.toInt_toInt64]; omega), z75, Int32.toInt_toInt64]
  have m2 : ((75 : Int64) * (v.1 27).toInt64 + 74).toInt = 75 * (v.1 27).toInt + 74 := by rw [zl_add (by rw [m1, z74]; omega) (by rw [m1, z74]; omega), m1, z74]
  have m3 : (((75 : Int64) * (v.1 27).toInt64 + 74) / 65537).toInt = (75 * (v.1 27).toInt + 74) / 65537 := by rw [zl_div (by rw [m2]; omega), m2, z65, Int.tdiv_eq_ediv_of_nonneg (by omega)]
  have m4 : (((75 : Int64) * (v.1 27).toInt64 + 74) / 65537 * 65537).toInt = (75 * (v.1 27).toInt + 74) / 65537 * 65537 := by rw [zl_mul (by rw [m3, z65]; omega) (by rw [m3, z65]; omega), m3, z65]
  have m5 : (((75 : Int64) * (v.1 27).toInt64 + 74) - ((75 : Int64) * (v.1 27).toInt64 + 74) / 65537 * 65537).toInt = (75 * (v.1 27).toInt + 74) % 65537 := by rw [zl_sub (by rw [m2, m4]; omega) (by rw [m2, m4]; omega), m2, m4]; omega
  have n1 : (75 * v.1 27 + 74).toInt = 75 * (v.1 27).toInt + 74 := by
    have q : (75 * v.1 27).toInt = 75 * (v.1 27).toInt := by rw [zi_mul (by rw [y75]; omega) (by rw [y75]; omega), y75]
    rw [zi_add (by rw [q, y74]; omega) (by rw [q, y74]; omega), q, y74]
  have n3 : ((75 * v.1 27 + 74) / 65537).toInt = (75 * (v.1 27).toInt + 74) / 65537 := by rw [zi_div (by rw [n1]; omega), n1, y65, Int.tdiv_eq_ediv_of_nonneg (by omega)]
  have n4 : ((75 * v.1 27 + 74) / 65537 * 65537).toInt = (75 * (v.1 27).toInt + 74) / 65537 * 65537 := by rw [zi_mul (by rw [n3, y65]; omega) (by rw [n3, y65]; omega), n3, y65]
  have n5 : (fm_seed v.1).toInt = (75 * (v.1 27).toInt + 74) % 65537 := by
    show ((75 * v.1 27 + 74) - (75 * v.1 27 + 74) / 65537 * 65537).toInt = _
    rw [zi_sub (by rw [n1, n4]; omega) (by rw [n1, n4]; omega), n1, n4]; omega
  have ey : y = fm_seed v.1 := by
    apply Int32.toInt_inj.mp
    rw [hy, zx_i (by omega), m5, n5]
  have es : j = ob_sd v.1 := by
    unfold ob_sd
    rw [← ey]
    rcases hj with ⟨h, rfl⟩ | ⟨h, rfl⟩
    · rw [if_neg h]
    · rw [if_pos h]
  refine ⟨es, ?_⟩
  rcases hj with ⟨h, rfl⟩ | ⟨h, rfl⟩
  · rw [ey]
    exact z_nIof (by omega) (by omega)
  · exact ⟨0, by decide, rfl⟩
theorem ob_6 (hR : Rel t v) {s : Nat} (hs : s < 65537) (es : ob_sd v.1 = nI s) (hD : zB 20000 (ob_D v.1)) : ¬ v.1 26 < fm_size (ob_D v.1 - v.1 4 / 100) := fun c => by
  have c' := Int32.lt_iff_toInt_lt.mp c
  have h26 := rel_26 hR
  have h4 : zB 1800000 (v.1 4) := hR.1.2.2.1.2.1.2
  obtain ⟨k, hk, ek⟩ := z_nIof (x := v.1 26) (n := 501) h26.1 (by omega)
  have e2 : 2 * v.1 26 + 1 = nI (2 * k + 1) := by rw [ek, show (2 : Int32) * nI k = nI (2 * k) from pk_mul 2 k]; exact nI_1 _
  have er : ob_sd v.1 - ob_sd v.1 / (2 * v.1 26 + 1) * (2 * v.1 26 + 1) = nI (s % (2 * k + 1)) := by
    have hq : s - s / (2 * k + 1) * (2 * k + 1) = s % (2 * k + 1) := by
      have := Nat.div_add_mod s (2 * k + 1)
      rw [Nat.mul_comm] at this
      omega
    rw [es, e2, pk_div (by omega) (by omega) (by omega), pk_mul, pk_sub (Nat.div_mul_le_self s _), hq]
  have hm := Nat.mod_lt s (show 0 < 2 * k + 1 by omega)
  have z100 : (100 : Int32).toInt = 100 := by decide
  have h41 := h4.1
  have h42 := h4.2
  have e4 : (v.1 4 / 100).toInt = (v.1 4).toInt.tdiv 100 := by rw [zi_div (by omega), z100]
  obtain ⟨q, m, eq, dq, mb1, mb2, -, -⟩ := td_m (v.1 4).toInt (k := 100) (by decide)
  rw [eq] at e4
  have t26 : (v.1 26).toInt = (k : Nat) := by rw [ek, nI_toInt (by omega)]
  have eD : (ob_D v.1).toInt = q + ((s % (2 * k + 1) : Nat) : Int) - k := by
    unfold ob_D
    rw [er]
    have a1 : (v.1 4 / 100 + nI (s % (2 * k + 1))).toInt = q + ((s % (2 * k + 1) : Nat) : Int) := by rw [zi_add (by rw [e4, nI_toInt (by omega)]; omega) (by rw [e4, nI_toInt (by omega)]; omega), e4, nI_toInt (by omega)]
    rw [zi_sub (by rw [a1, t26]; omega) (by rw [a1, t26]; omega), a1, t26]
  have hd1 := hD.1
  have hd2 := hD.2
  have ed : (ob_D v.1 - v.1 4 / 100).toInt = ((s % (2 * k + 1) : Nat) : Int) - k := by rw [zi_sub (by omega) (by omega), e4, eD]; omega
  rw [zsize_i (by omega), ed, t26] at c'
  split at c' <;> omega
theorem ob_B (hR : Rel t u) {D : Int32} (h : u.1 74 = D) {m : Nat} (h15 : u.1 15 = nI (m + 1)) (hm : m ≤ 4) : zB 20000 D := by
  have g := hR.1.2.2.2.2.1.2.2.2.2.2.1 0 (by rw [h15, nT_nI (by omega)]; omega)
  have g2 : zB 20000 (u.1 74) := g.2
  rw [h] at g2
  exact g2
theorem ob_IV {n : Nat} (hI : IV n v) (h15 : u.1 15 = nI ((if nT (v.1 15) < 5 then nT (v.1 15) else 4) + 1)) (h16 : u.1 16 = v.1 16 + 1) (e15 : v.1 15 = nI (nT (v.1 15))) (h5 : nT (v.1 15) ≤ 5) (h : ∀ i, i < 15 ∨ (17 ≤ i ∧ i < 27) ∨ (28 ≤ i ∧ i < 74) → u.1 i = v.1 i) (hn : n < 90000) : IV (n + 1) u := by
  obtain ⟨i1, i2, i3, i4, i5, i6⟩ := hI
  have z1 : (1 : Int32).toInt = 1 := by decide
  have q15 : (v.1 15).toInt = (nT (v.1 15) : Nat) := by rw [congrArg Int32.toInt e15, nI_toInt (by omega)]
  have e16 : (u.1 16).toInt = (v.1 16).toInt + 1 := by rw [h16, zi_add (by omega) (by omega), z1]
  have em : fl_ms u.1 5 = fl_ms v.1 5 := by
    show ((((0 + u.1 29) + u.1 30) + u.1 31) + u.1 32) + u.1 33 = ((((0 + v.1 29) + v.1 30) + v.1 31) + v.1 32) + v.1 33
    rw [h 29 (by omega), h 30 (by omega), h 31 (by omega), h 32 (by omega), h 33 (by omega)]
  unfold IV
  rw [em, h 10 (by omega), h 13 (by omega), h 14 (by omega), h15, nI_toInt (by split <;> omega), e16]
  refine ⟨by omega, i2, i3, by omega, ?_, by omega⟩
  split <;> omega
end
section
variable {t t' : vTv} {v u : vX10}
theorem ob_y {x : Int32} (hx : zcR x) {D : Int32} (hD : zB 20000 D) : -100000 ≤ (x + D).toInt ∧ (x + D).toInt ≤ 100000 := by
  have h1 := hx.1
  have h2 := hx.2
  have h3 := hD.1
  have h4 := hD.2
  rw [zi_add (by omega) (by omega)]
  omega
theorem ob_c0 (hR : Rel t u) {m : Nat} {D : Int32} (hm : m ≤ 4) (h15 : u.1 15 = nI (m + 1)) (h : u.1 74 = D) : fm_check u.1 0 = D := by
  have t0 : fm_check u.1 0 = u.1 74 := check_n (j := 0) h15 (by omega) (by omega)
  rw [t0, h]
theorem ob_l5 (hR : Rel t v) (h15 : u.1 15 = nI ((if nT (v.1 15) < 5 then nT (v.1 15) else 4) + 1)) {j : Int32} (hj : ((¬ (v.1 15 = (5 : Int32))) ∧ j = (v.1 15 + (1 : Int32))) ∨ ((v.1 15 = (5 : Int32)) ∧ j = (5 : Int32))) : u.1 15 = j := by
  obtain ⟨e, h5⟩ := rel_chk hR
  rw [h15]
  rcases hj with ⟨h, rfl⟩ | ⟨h, rfl⟩
  · have : ¬ nT (v.1 15) = 5 := fun q => h (by rw [e, q]; rfl)
    rw [if_pos (by omega)]
    generalize nT (v.1 15) = k at e
    rw [e]; exact (nI_1 k).symm
  · rw [h]; decide
theorem ob_l6 (hR : Rel t v) {s : Nat} (hs : s < 65537) (es : ob_sd v.1 = nI s) (hD : zB 20000 (ob_D v.1)) (e4 : u.1 4 = v.1 4) : ¬ v.1 26 < fm_size (ob_D v.1 - u.1 4 / 100) := by
  rw [e4]
  exact ob_6 hR hs es hD
theorem ob_l7 (hR : Rel t v) (h15 : u.1 15 = nI ((if nT (v.1 15) < 5 then nT (v.1 15) else 4) + 1)) (h75 : 0 < nT (v.1 15) → u.1 75 = v.1 74) {j : Int32} (hj : ((v.1 15 ≤ 0) ∧ j = (0 : Int32)) ∨ ((¬ (v.1 15 ≤ 0)) ∧ j = ((fm_check v.1 (0 : Int32))))) (h : ¬ v.1 15 = 0) : fm_check u.1 1 = j := by
  obtain ⟨e, h5⟩ := rel_chk hR
  have hp : 0 < nT (v.1 15) := Nat.pos_of_ne_zero (fun q => h (by rw [e, q]; rfl))
  have t1 : fm_check u.1 1 = u.1 75 := check_n (j := 1) h15 (by split <;> omega) (by split <;> omega)
  have t0 : fm_check v.1 0 = v.1 74 := check_n (j := 0) e h5 hp
  rcases hj with ⟨q, -⟩ | ⟨-, rfl⟩
  · rw [e] at q
    exact absurd q (nI_nle hp (by omega))
  · rw [t1, t0, h75 hp]
theorem ob_l3 {r : Int32} (h : 0 ≤ r.toInt ∧ r.toInt < 36000) : ¬ r < 0 := fun c => by
  have := Int32.lt_iff_toInt_lt.mp c
  have z : (0 : Int32).toInt = 0 := by decide
  omega
theorem ob_l4 {r : Int32} (h : 0 ≤ r.toInt ∧ r.toInt < 36000) : ¬ (36000 : Int32) ≤ r := fun c => by
  have := Int32.le_iff_toInt_le.mp c
  have z : (36000 : Int32).toInt = 36000 := by decide
  omega
end
