/-! turning points, checks, reasons: what the law holds against them -/
theorem rel_22 {t : vTv} {w : vX10} (h : Rel t w) : 0 ≤ (w.1 22).toInt ∧ (w.1 22).toInt ≤ 30000 := (h.1.1 2 (by decide)).2
theorem rel_13 {t : vTv} {w : vX10} (h : Rel t w) : w.1 13 = nI (nT (w.1 13)) ∧ nT (w.1 13) ≤ 8 := by
  have g := ok13 h.1.2.2.2.1.2.1
  exact ⟨g.2, g.1⟩
theorem rel_sw {t : vTv} {w : vX10} (h : Rel t w) {j : Nat} (hj : j < nT (w.1 13)) : zB 1800000 (w.1 (58 + 2 * j)) ∧ 0 ≤ tm w.1 (j + 1) ∧ tm w.1 (j + 1) < tm w.1 j := by
  have g := h.1.2.2.2.1.2.2.1 j hj
  exact ⟨g.2.1, g.2.2.2.2.1, g.2.2.2.2.2.1⟩
theorem turn_n {a : Nat → Int32} {n j x : Nat} (h : a 13 = nI n) (hn : n ≤ 8) (hj : j < n) (hx : x < 2) : fm_turn a (nI j) (nI x) = a (58 + 2 * j + x) := by
  unfold fm_turn
  have hi : ¬ fm_in (nI x) 0 1 = 0 := by rcases (show x = 0 ∨ x = 1 by omega) with rfl | rfl <;> decide
  rw [if_neg (nI_pos (by omega)), h, if_pos ((nI_ltI (by omega) (by omega)).mpr hj), if_neg hi, nI_clamp (by omega), nI_clamp (by omega)]
theorem check_n {a : Nat → Int32} {n j : Nat} (h : a 15 = nI n) (hn : n ≤ 5) (hj : j < n) : fm_check a (nI j) = a (74 + j) := by
  unfold fm_check
  rw [if_neg (nI_pos (by omega)), h, if_pos ((nI_ltI (by omega) (by omega)).mpr hj), nI_clamp (by omega)]
theorem tr_k {t : vTv} {w : vX10} (hR : Rel t w) {k : Nat} (hk : k ≤ 8) (h : ¬ w.1 13 ≤ nI k + 1) : k + 1 < nT (w.1 13) ∧ nT (w.1 13) ≤ 8 := by
  obtain ⟨e, h8⟩ := rel_13 hR
  refine ⟨Nat.lt_of_not_le (fun q => h ?_), h8⟩
  rw [e, show nI k + 1 = nI (k + 1) from nI_add k 1]
  exact nI_le q (by omega)
theorem tr_0 {t : vTv} {w : vX10} (hR : Rel t w) : fm_turn w.1 (w.1 13) 0 = -1000000001 := by
  obtain ⟨e, h8⟩ := rel_13 hR
  unfold fm_turn
  rw [if_neg (by rw [e]; exact nI_pos (by omega)), if_neg (fun c => by have := Int32.lt_iff_toInt_lt.mp c; omega)]
theorem tr_12 {t : vTv} {w : vX10} (hR : Rel t w) : fm_check w.1 (w.1 15) = -1000000001 := by
  obtain ⟨e, h8⟩ := rel_chk hR
  unfold fm_check
  rw [if_neg (by rw [e]; exact nI_pos (by omega)), if_neg (fun c => by have := Int32.lt_iff_toInt_lt.mp c; omega)]
theorem tr_n2 {t : vTv} {w : vX10} (hR : Rel t w) (h : 2 ≤ w.1 13) : 2 ≤ nT (w.1 13) := by
  obtain ⟨e, h8⟩ := rel_13 hR
  rw [e] at h
  exact (nI_leI (a := 2) (by decide) (by omega)).mp h
theorem tr_n3 {t : vTv} {w : vX10} (hR : Rel t w) (h : 3 ≤ w.1 13) : 3 ≤ nT (w.1 13) := by
  obtain ⟨e, h8⟩ := rel_13 hR
  rw [e] at h
  exact (nI_leI (a := 3) (by decide) (by omega)).mp h
theorem tr_d {t : vTv} {w : vX10} (hR : Rel t w) (h : 2 ≤ w.1 13) : ¬ w.1 58 - w.1 60 = -1000000006 := fun c => by
  have h2 := tr_n2 hR h
  have b0 := (rel_sw hR (j := 0) (by omega)).1
  have b1 := (rel_sw hR (j := 1) (by omega)).1
  have e0 : zB 1800000 (w.1 58) := b0
  have e1 : zB 1800000 (w.1 60) := b1
  have s := zi_sub (x := w.1 58) (y := w.1 60) (by have := e0.1; have := e0.2; have := e1.1; have := e1.2; omega) (by have := e0.1; have := e0.2; have := e1.1; have := e1.2; omega)
  rw [c] at s
  have z : (-1000000006 : Int32).toInt = -1000000006 := by decide
  have := e0.1; have := e0.2; have := e1.1; have := e1.2
  omega
theorem tr_1 {t : vTv} {w : vX10} (hR : Rel t w) {j q : Int32} (h : ((2 : Int32) ≤ w.1 13 ∧ j = 0) ∨ (¬ (2 : Int32) ≤ w.1 13 ∧ j = 1)) (h2 : (¬ (if 2 ≤ w.1 13 then w.1 58 - w.1 60 else -1000000006) = (-1000000006 : Int32) ∧ q = 0) ∨ ((if 2 ≤ w.1 13 then w.1 58 - w.1 60 else -1000000006) = (-1000000006 : Int32) ∧ q = 1)) : j = q := by
  rcases h with ⟨a1, rfl⟩ | ⟨a1, rfl⟩ <;> rcases h2 with ⟨b1, rfl⟩ | ⟨b1, rfl⟩
  · rfl
  · rw [if_pos a1] at b1; exact absurd b1 (tr_d hR a1)
  · rw [if_neg a1] at b1; exact absurd rfl b1
  · rfl
theorem tr_11 {t : vTv} {w : vX10} (hR : Rel t w) (h : ¬ w.1 13 ≤ 1) : (if 2 ≤ w.1 13 then w.1 58 - w.1 60 else -1000000006) = fm_turn w.1 0 0 - fm_turn w.1 1 0 := by
  obtain ⟨e, h8⟩ := rel_13 hR
  have h2 : 2 ≤ nT (w.1 13) := Nat.lt_of_not_le (fun q => h (by rw [e]; exact nI_le (b := 1) q (by decide)))
  rw [if_pos (by rw [e]; exact nI_le (a := 2) h2 (by omega))]
  have t0 : fm_turn w.1 0 0 = w.1 58 := turn_n (j := 0) (x := 0) e h8 (by omega) (by omega)
  have t1 : fm_turn w.1 1 0 = w.1 60 := turn_n (j := 1) (x := 0) e h8 (by omega) (by omega)
  rw [t0, t1]
theorem tr_13 {t : vTv} {w : vX10} (hR : Rel t w) {k : Nat} (hk : k ≤ 8) (h : ¬ w.1 13 ≤ nI k + 1) : fm_turn w.1 (nI k + 1) 1 < fm_turn w.1 (nI k) 1 := by
  obtain ⟨h1, h8⟩ := tr_k hR hk h
  obtain ⟨e, -⟩ := rel_13 hR
  rw [show nI k + 1 = nI (k + 1) from nI_add k 1]
  have t0 : fm_turn w.1 (nI k) 1 = w.1 (58 + 2 * k + 1) := turn_n (j := k) (x := 1) e h8 (by omega) (by omega)
  have t1 : fm_turn w.1 (nI (k + 1)) 1 = w.1 (58 + 2 * (k + 1) + 1) := turn_n (j := k + 1) (x := 1) e h8 (by omega) (by omega)
  rw [t0, t1]
  exact Int32.lt_iff_toInt_lt.mpr (rel_sw hR h1).2.2
theorem tr_7 {t : vTv} {w : vX10} (hR : Rel t w) (h : 3 ≤ w.1 13) : fm_settled w.1 = (fm_turn w.1 2 0 + 2 * fm_turn w.1 1 0 + fm_turn w.1 0 0) / 4 := by
  obtain ⟨e, h8⟩ := rel_13 hR
  have h3 := tr_n3 hR h
  have t0 : fm_turn w.1 0 0 = w.1 58 := turn_n (j := 0) (x := 0) e h8 (by omega) (by omega)
  have t1 : fm_turn w.1 1 0 = w.1 60 := turn_n (j := 1) (x := 0) e h8 (by omega) (by omega)
  have t2 : fm_turn w.1 2 0 = w.1 62 := turn_n (j := 2) (x := 0) e h8 (by omega) (by omega)
  rw [t0, t1, t2]
  rfl
section
variable {a : Nat → Int32} {s : Nat → Int64}
theorem tr_8 (h : ¬ 3 ≤ a 13) : fm_reason a s = 1 := by unfold fm_reason; rw [if_neg h]
theorem tr_c6 (h3 : 3 ≤ a 13) : (if 2 ≤ a 13 then a 58 - a 60 else -1000000006) = a (58 + 2 * 0) - a (58 + 2 * 1) := by
  rw [if_pos (Int32.le_iff_toInt_le.mpr (by have := Int32.le_iff_toInt_le.mp h3; have z : (3 : Int32).toInt = 3 := by decide
                                            have z2 : (2 : Int32).toInt = 2 := by decide
                                            omega))]
theorem tr_6 (h3 : 3 ≤ a 13) (p1 : ¬ fm_size (if 2 ≤ a 13 then a 58 - a 60 else -1000000006) ≤ a 23) : fm_reason a s = 2 := by
  rw [tr_c6 h3] at p1
  unfold fm_reason
  rw [if_pos h3, if_neg p1]
theorem tr_5 (h3 : 3 ≤ a 13) (p2 : fm_size (if 2 ≤ a 13 then a 58 - a 60 else -1000000006) ≤ a 23) (p1 : ¬ fm_size (fm_settled a - fm_mean a s) ≤ a 24) : fm_reason a s = 3 := by
  rw [tr_c6 h3] at p2
  unfold fm_reason
  rw [if_pos h3, if_pos p2, if_neg p1]
theorem tr_4 (h3 : 3 ≤ a 13) (p3 : fm_size (if 2 ≤ a 13 then a 58 - a 60 else -1000000006) ≤ a 23) (p2 : fm_size (fm_settled a - fm_mean a s) ≤ a 24) (p1 : ¬ 3 ≤ a 15) : fm_reason a s = 4 := by
  rw [tr_c6 h3] at p3
  unfold fm_reason
  rw [if_pos h3, if_pos p3, if_pos p2, if_neg p1]
end
theorem tr_cs {t : vTv} {w : vX10} (hR : Rel t w) (h : 3 ≤ w.1 15) : (fm_check w.1 0 + fm_check w.1 1 + fm_check w.1 2) / 3 = fm_csum w.1 3 / 3 := by
  obtain ⟨e, h5⟩ := rel_chk hR
  have h3 : 3 ≤ nT (w.1 15) := by rw [e] at h; exact (nI_leI (a := 3) (by decide) (by omega)).mp h
  have t0 : fm_check w.1 0 = w.1 74 := check_n (j := 0) e h5 (by omega)
  have t1 : fm_check w.1 1 = w.1 75 := check_n (j := 1) e h5 (by omega)
  have t2 : fm_check w.1 2 = w.1 76 := check_n (j := 2) e h5 (by omega)
  have es : fm_csum w.1 3 = 0 + w.1 74 + w.1 75 + w.1 76 := rfl
  rw [t0, t1, t2, es, Int32.zero_add]
theorem tr_3 {t : vTv} {w : vX10} (hR : Rel t w) (h3 : 3 ≤ w.1 13) (p4 : fm_size (if 2 ≤ w.1 13 then w.1 58 - w.1 60 else -1000000006) ≤ w.1 23) (p3 : fm_size (fm_settled w.1 - fm_mean w.1 w.2.1) ≤ w.1 24) (p2 : 3 ≤ w.1 15) (p1 : ¬ fm_size (100 * ((fm_check w.1 0 + fm_check w.1 1 + fm_check w.1 2) / 3) - fm_settled w.1) ≤ w.1 25) : fm_reason w.1 w.2.1 = 5 := by
  rw [tr_c6 h3] at p4
  rw [tr_cs hR p2] at p1
  unfold fm_reason
  rw [if_pos h3, if_pos p4, if_pos p3, if_pos p2, if_neg p1]
theorem tr_2 {t : vTv} {w : vX10} (hR : Rel t w) (h3 : 3 ≤ w.1 13) (p4 : fm_size (if 2 ≤ w.1 13 then w.1 58 - w.1 60 else -1000000006) ≤ w.1 23) (p3 : fm_size (fm_settled w.1 - fm_mean w.1 w.2.1) ≤ w.1 24) (p2 : 3 ≤ w.1 15) (p1 : fm_size (100 * ((fm_check w.1 0 + fm_check w.1 1 + fm_check w.1 2) / 3) - fm_settled w.1) ≤ w.1 25) {j : Int32} (h : (fm_size (fm_settled w.1) ≤ w.1 25 ∧ ¬ w.1 8 = 0 ∧ j = 0) ∨ (fm_size (fm_settled w.1) ≤ w.1 25 ∧ w.1 8 = 0 ∧ j = 7) ∨ (¬ fm_size (fm_settled w.1) ≤ w.1 25 ∧ j = 6)) : fm_reason w.1 w.2.1 = j := by
  rw [tr_c6 h3] at p4
  rw [tr_cs hR p2] at p1
  unfold fm_reason
  rw [if_pos h3, if_pos p4, if_pos p3, if_pos p2, if_pos p1]
  rcases h with ⟨q1, q2, rfl⟩ | ⟨q1, q2, rfl⟩ | ⟨q1, rfl⟩
  · rw [if_pos q1, if_neg q2]
  · rw [if_pos q1, if_pos q2]
  · rw [if_neg q1]
