/-! a minute, on both sides -/
theorem mm1_ne {a : Nat → Int32} {i : Nat} (h : i ≠ 1) (h2 : i ≠ 2) : fm_mm1 a i = a i := by unfold fm_mm1; rw [upd_ne h2, upd_ne h]
theorem mm1_1 (a : Nat → Int32) : fm_mm1 a 1 = fm_course a := by unfold fm_mm1; rw [upd_ne (by decide), upd_eq]
theorem mm1_2 (a : Nat → Int32) : fm_mm1 a 2 = fm_speed a := by
  unfold fm_mm1; rw [upd_eq]
  unfold fm_speed; rw [upd_ne (by decide), upd_ne (by decide), upd_ne (by decide)]
theorem mm1_c (a : Nat → Int32) : fm_course (fm_mm1 a) = fm_course a ∧ fm_speed (fm_mm1 a) = fm_speed a := by
  have e1 := mm1_1 a
  have e2 := mm1_2 a
  have e3 : fm_mm1 a 3 = a 3 := mm1_ne (by decide) (by decide)
  have e34 : fm_mm1 a 34 = a 34 := mm1_ne (by decide) (by decide)
  have e35 : fm_mm1 a 35 = a 35 := mm1_ne (by decide) (by decide)
  constructor
  · show (if fm_mm1 a 3 ≤ 0 then fm_mm1 a 1 else fm_mm1 a 34) = _
    rw [e3, e1, e34]
    by_cases c : a 3 ≤ 0
    · rw [if_pos c]
    · rw [if_neg c]; unfold fm_course; rw [if_neg c]
  · show (if fm_mm1 a 3 ≤ 0 then fm_mm1 a 2 else fm_mm1 a 35) = _
    rw [e3, e2, e35]
    by_cases c : a 3 ≤ 0
    · rw [if_pos c]
    · rw [if_neg c]; unfold fm_speed; rw [if_neg c]
theorem mm1_rest (a : Nat → Int32) : fm_rest (fm_mm1 a) = fm_rest a := by
  unfold fm_rest
  rw [(mm1_c a).1, (mm1_c a).2]
  unfold fm_restBy
  rw [mm1_ne (i := 20 + 2) (by decide) (by decide), mm1_ne (i := 0) (by decide) (by decide), mm1_ne (i := 6) (by decide) (by decide), mm1_ne (i := 7) (by decide) (by decide)]
/-- the rows behind the swing -/
def fm_A2 (a : Nat → Int32) : Nat → Int32 := fm_sw2 (fm_sw1 (fm_mm1 a))
theorem A2_ne {a : Nat → Int32} {i : Nat} (h : i ≠ 1) (h2 : i ≠ 2) (h4 : i ≠ 4) (h5 : i ≠ 5) : fm_A2 a i = a i := by
  unfold fm_A2 fm_sw2 fm_sw1; rw [upd_ne h4, upd_ne h5, mm1_ne h h2]
theorem A2_1 (a : Nat → Int32) : fm_A2 a 1 = fm_course a := by unfold fm_A2 fm_sw2 fm_sw1; rw [upd_ne (by decide), upd_ne (by decide), mm1_1]
theorem A2_2 (a : Nat → Int32) : fm_A2 a 2 = fm_speed a := by unfold fm_A2 fm_sw2 fm_sw1; rw [upd_ne (by decide), upd_ne (by decide), mm1_2]
theorem z_dampEq {x : Int32} (h : 0 ≤ x.toInt ∧ x.toInt ≤ 4) : zf_at 5 z_damp x = (if x.toInt64 = 0 then (0 : Int64) else (10 : Int64) <<< ((x - 1).toInt64 &&& 63)) := by
  obtain ⟨k, hk, rfl⟩ := z_nIof (x := x) (n := 5) h.1 (by omega)
  have hk' : k = 0 ∨ k = 1 ∨ k = 2 ∨ k = 3 ∨ k = 4 := by omega
  rcases hk' with rfl | rfl | rfl | rfl | rfl <;> decide
def zf_g (S : vX7) : vX0 := zf_swing S.2.2.1 (zf_at 9 S.1 0) (zf_at 9 S.1 1) (zf_rest S) (zf_cosine (zf_cLat S.2.1.2.1))
theorem swing_eq {T : Int} {S : vX7} {a : Nat → Int32} {s : Nat → Int64} (h : RS T S a s) : ((zf_g S).2.1 = (fm_A2 a 4).toInt64 ∧ zB 1800000 (fm_A2 a 4)) ∧ ((zf_g S).2.2.1 = (fm_A2 a 5).toInt64 ∧ zB 900000 (fm_A2 a 5)) := by
  have hr := rest_eq h
  obtain ⟨h1, h2, h3, -⟩ := h
  obtain ⟨-, ⟨l1, l2⟩, -⟩ := h2
  obtain ⟨-, ⟨g1, g2⟩, ⟨t1, t2⟩, -, -, ⟨v1, v2⟩, -⟩ := h3
  have e20 : zf_at 9 S.1 0 = (a 20).toInt64 := set_at h1 (k := 0) (by decide)
  have e21 : zf_at 9 S.1 1 = (a 21).toInt64 := set_at h1 (k := 1) (by decide)
  have ec : zf_cosine (zf_cLat S.2.1.2.1) = fm_cosOf (a 0) := by
    rw [l1, z_cLatEq l2, (z_cosEq (z_cofC l2)).1]; rfl
  have esub : (a 4 - fm_rest a).toInt64 = (a 4).toInt64 - (fm_rest a).toInt64 := zx_sub (by have := g2.1; have := hr.2.2; omega) (by have := g2.2; have := hr.2.1; omega)
  have et : fm_tilt (fm_mm1 a) = S.2.2.1.2.2.1 - zf_at 9 S.1 0 * (S.2.2.1.2.1 - zf_rest S) / 1000 * zf_cosine (zf_cLat S.2.1.2.1) / 1000000 := by
    unfold fm_tilt
    rw [mm1_rest, mm1_ne (i := 5) (by decide) (by decide), mm1_ne (i := 4) (by decide) (by decide), mm1_ne (i := 0) (by decide) (by decide), mm1_ne (i := 20 + 0) (by decide) (by decide), esub, e20, ec, g1, t1, hr.1]
  have ed : fm_damp1 (fm_mm1 a) = zf_at 5 z_damp S.2.2.1.2.2.2.2.2.1 := by
    unfold fm_damp1
    rw [mm1_ne (i := 8) (by decide) (by decide), v1, z_dampEq v2]
  have m9 : (900000 : Int32).toInt = 900000 := by decide
  have m18 : (1800000 : Int32).toInt = 1800000 := by decide
  have q1 := z_lim (x := fm_tilt (fm_mm1 a) - fm_tilt (fm_mm1 a) * fm_damp1 (fm_mm1 a) / 1000) (m := 900000) (M := 900000) (by omega) rfl
  have e5 : fm_A2 a 5 = fm_lim (fm_tilt (fm_mm1 a) - fm_tilt (fm_mm1 a) * fm_damp1 (fm_mm1 a) / 1000) 900000 := by
    unfold fm_A2 fm_sw2; rw [upd_ne (by decide)]; unfold fm_sw1; rw [upd_eq]
  have et3 : (zf_g S).2.2.1 = (fm_A2 a 5).toInt64 := by
    show zf_limited _ 900000 = _
    rw [e5, ← q1.1, et, ed]
  have q2 := z_lim (x := (a 4).toInt64 + (a 21).toInt64 * (fm_A2 a 5).toInt64 / 1000) (m := 1800000) (M := 1800000) (by omega) rfl
  have e4 : fm_A2 a 4 = fm_lim ((a 4).toInt64 + (a 21).toInt64 * (fm_A2 a 5).toInt64 / 1000) 1800000 := by
    have e5' : fm_sw1 (fm_mm1 a) 5 = fm_A2 a 5 := by unfold fm_A2 fm_sw2; rw [upd_ne (by decide)]
    have e4' : fm_sw1 (fm_mm1 a) 4 = a 4 := by unfold fm_sw1; rw [upd_ne (by decide), mm1_ne (by decide) (by decide)]
    have e1' : fm_sw1 (fm_mm1 a) (20 + 1) = a 21 := by unfold fm_sw1; rw [upd_ne (by decide), mm1_ne (by decide) (by decide)]
    show fm_sw2 (fm_sw1 (fm_mm1 a)) 4 = _
    unfold fm_sw2; rw [upd_eq, e5', e4', e1']
  have er : (zf_g S).2.1 = (fm_A2 a 4).toInt64 := by
    have e0 : (zf_g S).2.1 = zf_limited (S.2.2.1.2.1 + zf_at 9 S.1 1 * (zf_g S).2.2.1 / 1000) 1800000 := rfl
    rw [e0, et3, e4, ← q2.1, g1, e21]
  rw [m9] at q1
  rw [m18] at q2
  refine ⟨⟨er, ?_⟩, et3, ?_⟩
  · rw [e4]; exact q2.2
  · rw [e5]; exact q1.2
/-- the rows behind the search for a turning point -/
def fm_W2 (a : Nat → Int32) (s : Nat → Int64) : vX10 := fm_mm2 (nT (a 13)) (fm_A2 a, s, fr0) (a 4)
theorem tn2_ne {t : Nat} {b : Nat → Int32} {i : Nat} (h : i ≠ 59) (h3 : i ≠ 13) (h4 : i ≠ 14) : fm_tn2 t b i = b i := by
  unfold fm_tn2; rw [upd_ne h4, upd_ne h3, upd_ne h]
theorem tn1_ne {t : Nat} {b : Nat → Int32} {e : Int32} {i : Nat} (h : i < 58 ∨ 74 ≤ i) : fm_tn1 t b e i = b i := by
  unfold fm_tn1; rw [upd_ne (by omega)]
  unfold ztu
  by_cases c : t < 8
  · rw [if_pos c, if_neg (by omega)]
  · rw [if_neg c, if_neg (by omega)]
theorem W2_ne {a : Nat → Int32} {s : Nat → Int64} {i : Nat} (h : i < 12 ∨ (15 ≤ i ∧ i < 58) ∨ 74 ≤ i) : (fm_W2 a s).1 i = fm_A2 a i := by
  unfold fm_W2 fm_mm2
  dsimp only
  by_cases c : fm_A2 a 4 = a 4
  · rw [if_pos c]
  · rw [if_neg c]
    by_cases c2 : fm_A2 a 12 = -fm_dir (fm_A2 a 4) (a 4)
    · rw [if_pos c2]
      show upd (fm_addTurn (nT (a 13)) (fm_A2 a, s, fr0) (a 4)).1 12 _ i = _
      rw [upd_ne (by omega)]
      show fm_tn2 (nT (a 13)) (fm_tn1 (nT (a 13)) (fm_A2 a) (a 4)) i = _
      rw [tn2_ne (by omega) (by omega) (by omega), tn1_ne (by omega)]
    · rw [if_neg c2]
      show upd (fm_A2 a) 12 _ i = _
      rw [upd_ne (by omega)]
/-- the swings' group one minute later: time is the one behind the minute -/
def rSwN (v : vX8) (b : Nat → Int32) (s : Nat → Int64) (n : Nat) : Prop := v.1.2 = b 13 ∧ b 13 = nI n ∧ n ≤ 8 ∧ (∀ j, j < n → v.1.1 j = (b (58 + 2 * j)).toInt64 ∧ zB 1800000 (b (58 + 2 * j)) ∧ v.2.1.1 j = (b (58 + 2 * j + 1)).toInt64 ∧ v.2.2.1.1 j = s (1 + j))
theorem dir_eq {x y : Int32} : zf_dir y.toInt64 x.toInt64 = fm_dir x y := by
  unfold zf_dir fm_dir
  simp only [zx_le]
theorem shn_eq {t : Nat} (h : t ≤ 8) : (if nI 8 < nI t + 1 then nI 8 else nI t + 1) = nI ((if t < 8 then t else 7) + 1) := by
  rw [nI_1]
  by_cases c : t < 8
  · rw [if_pos c, if_neg (fun q => by have := (nI_ltI (a := 8) (b := t + 1) (by omega) (by omega)).mp q; omega)]
  · rw [if_neg c, if_pos (nI_lt (a := 8) (b := t + 1) (by omega) (by omega))]
theorem tn_row {t : Nat} {b : Nat → Int32} {e : Int32} {j : Nat} (h0 : 0 < j) (hj : j ≤ (if t < 8 then t else 7)) : fm_tn2 t (fm_tn1 t b e) (58 + 2 * j) = b (58 + 2 * (j - 1)) ∧ fm_tn2 t (fm_tn1 t b e) (58 + 2 * j + 1) = b (58 + 2 * (j - 1) + 1) := by
  constructor
  · rw [tn2_ne (by omega) (by omega) (by omega)]
    unfold fm_tn1; rw [upd_ne (by omega)]
    unfold ztu; rw [if_pos (by omega), show 58 + 2 * j - 2 = 58 + 2 * (j - 1) by omega]
  · rw [tn2_ne (by omega) (by omega) (by omega)]
    unfold fm_tn1; rw [upd_ne (by omega)]
    unfold ztu; rw [if_pos (by omega), show 58 + 2 * j + 1 - 2 = 58 + 2 * (j - 1) + 1 by omega]
theorem tn_58 {t : Nat} {b : Nat → Int32} {e : Int32} : fm_tn2 t (fm_tn1 t b e) 58 = e := by
  rw [tn2_ne (by decide) (by decide) (by decide)]; unfold fm_tn1; rw [upd_eq]
theorem tn_59 {t : Nat} {b : Nat → Int32} : fm_tn2 t b 59 = b 10 := by
  unfold fm_tn2; rw [upd_ne (by decide), upd_ne (by decide), upd_eq]
theorem tn_13 {t : Nat} {b : Nat → Int32} : fm_tn2 t b 13 = nI ((if t < 8 then t else 7) + 1) := by
  unfold fm_tn2; rw [upd_ne (by decide), upd_eq]
theorem tn_14 {t : Nat} {b : Nat → Int32} : fm_tn2 t b 14 = b 14 + 1 := by
  unfold fm_tn2; rw [upd_eq, upd_ne (by decide), upd_ne (by decide)]
theorem tns_0 {t : Nat} {s : Nat → Int64} : fm_tns t s 0 = s 0 := by
  unfold fm_tns; rw [updL_ne (by decide)]; unfold zcu; rw [if_neg (by omega)]
theorem tns_1 {t : Nat} {s : Nat → Int64} : fm_tns t s 1 = s 0 := by
  unfold fm_tns; rw [updL_eq]; unfold zcu; rw [if_neg (by omega)]
theorem tns_j {t j : Nat} {s : Nat → Int64} (h0 : 0 < j) (hj : j ≤ (if t < 8 then t else 7)) : fm_tns t s (1 + j) = s j := by
  unfold fm_tns; rw [updL_ne (by omega)]; unfold zcu; rw [if_pos (by omega), show 1 + j - 1 = j by omega]
