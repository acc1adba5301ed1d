/-! the law's steps: what it holds against each change -/
theorem up_n (x : Int32) {n : Nat} (h0 : 0 < n) (hn : n < 2 ^ 31) : 0 ≤ (fl_up x (nI n)).toInt ∧ (fl_up x (nI n)).toInt < n := by
  obtain ⟨k, hk, ek⟩ := up_ex x h0 hn
  rw [ek, nI_toInt (by omega)]
  omega
theorem up_b (x : Int32) {m c : Nat} (h0 : 0 < m) (hm : m < 2 ^ 30) (hc : c < 2 ^ 30) : -(c : Int) ≤ (fl_up x (nI m) - nI c).toInt ∧ (fl_up x (nI m) - nI c).toInt < (m : Int) - c := by
  have h := up_n x h0 (by omega)
  have ec : (nI c).toInt = (c : Nat) := nI_toInt (by omega)
  rw [zi_sub (by omega) (by omega), ec]
  omega
theorem up_c (x : Int32) : zcR (fl_up x (36000 : Int32)) := by
  have h := up_n x (n := 36000) (by decide) (by decide)
  exact ⟨h.1, h.2⟩
theorem up_s (x : Int32) : zsR (fl_up x (401 : Int32)) := by
  have h := up_n x (n := 401) (by decide) (by decide)
  have h2 : (fl_up x (401 : Int32)).toInt < 401 := h.2
  exact ⟨h.1, by omega⟩
theorem up_1 (x : Int32) : 1 ≤ (1 + fl_up x (9 : Int32)).toInt ∧ (1 + fl_up x (9 : Int32)).toInt ≤ 9 := by
  have h := up_n x (n := 9) (by decide) (by decide)
  have h1 : 0 ≤ (fl_up x (9 : Int32)).toInt := h.1
  have h2 : (fl_up x (9 : Int32)).toInt < 9 := h.2
  have z : (1 : Int32).toInt = 1 := by decide
  rw [zi_add (by omega) (by omega), z]
  omega
theorem up_1b (x : Int32) : ∃ k : Nat, k ≤ 8 ∧ 1 + fl_up x (8 : Int32) = nI k := by
  obtain ⟨k, hk, ek⟩ := up_ex x (n := 8) (by decide) (by decide)
  refine ⟨1 + k, by omega, ?_⟩
  have ek : fl_up x (8 : Int32) = nI k := ek
  rw [ek]
  exact nI_add 1 k
theorem up_4 (x : Int32) : 0 ≤ (fl_up x (5 : Int32)).toInt ∧ (fl_up x (5 : Int32)).toInt ≤ 4 := by
  have h := up_n x (n := 5) (by decide) (by decide)
  have h2 : (fl_up x (5 : Int32)).toInt < 5 := h.2
  exact ⟨h.1, by omega⟩
theorem up_d (x : Int32) : -70 ≤ (fl_up x (141 : Int32) - 70).toInt ∧ (fl_up x (141 : Int32) - 70).toInt ≤ 70 := by
  have h := up_b x (m := 141) (c := 70) (by decide) (by decide) (by decide)
  have h1 : -((70 : Nat) : Int) ≤ (fl_up x (141 : Int32) - 70).toInt := h.1
  have h2 : (fl_up x (141 : Int32) - 70).toInt < ((141 : Nat) : Int) - (70 : Nat) := h.2
  omega
theorem up_g (x : Int32) : -1800000 ≤ (fl_up x (40001 : Int32) - 20000).toInt ∧ (fl_up x (40001 : Int32) - 20000).toInt ≤ 1800000 := by
  have h := up_b x (m := 40001) (c := 20000) (by decide) (by decide) (by decide)
  have h1 : -((20000 : Nat) : Int) ≤ (fl_up x (40001 : Int32) - 20000).toInt := h.1
  have h2 : (fl_up x (40001 : Int32) - 20000).toInt < ((40001 : Nat) : Int) - (20000 : Nat) := h.2
  omega
theorem ac_k {k : Nat} (hk : k ≤ 8) {x : Int32} (h : ∃ j : Nat, j ≤ 8 ∧ x = nI j) (c : ¬ x ≤ nI k) : k < 8 := by
  obtain ⟨j, hj, rfl⟩ := h
  have : ¬ j ≤ k := fun q => c (nI_le q (by omega))
  omega
theorem in_i {x lo hi : Int32} (h : lo.toInt ≤ x.toInt ∧ x.toInt ≤ hi.toInt) : ¬ fm_in x lo hi = 0 := by
  unfold fm_in
  rw [if_neg (fun c => by have := Int32.lt_iff_toInt_lt.mp c; omega), if_neg (fun c => by have := Int32.lt_iff_toInt_lt.mp c; omega)]
  decide
theorem addLeg_3 (k : Nat) (a : Nat → Int32) (x y z : Int32) : fm_addLeg k a x y z 3 = a 3 + 1 := by
  unfold fm_addLeg
  rw [upd_eq, upd_ne (by omega), upd_ne (by omega), upd_ne (by omega)]
theorem addLeg_ne (k : Nat) (a : Nat → Int32) (x y z : Int32) {i : Nat} (h : i ≠ 3) (h2 : i < 34) : fm_addLeg k a x y z i = a i := by
  unfold fm_addLeg
  rw [upd_ne h, upd_ne (by omega), upd_ne (by omega), upd_ne (by omega)]
section
variable {t : vTv} {w v : vX10} {pm : Nat} {r x y z : Int32}
theorem ac_start (hx : -((30000 : Nat) : Int) ≤ x.toInt ∧ x.toInt < ((60001 : Nat) : Int) - (30000 : Nat)) (hy : -((1000 : Nat) : Int) ≤ y.toInt ∧ y.toInt < ((2001 : Nat) : Int) - (1000 : Nat)) (hr : r = (fm_start pm w x y).1) (hv : v = (fm_start pm w x y).2) : r = w.1 4 ∧ v.1 = upd (upd w.1 4 x) 5 y := by
  have z1 : (-900000 : Int32).toInt = -900000 := by decide
  have z2 : (900000 : Int32).toInt = 900000 := by decide
  have z3 : (-100000 : Int32).toInt = -100000 := by decide
  have z4 : (100000 : Int32).toInt = 100000 := by decide
  unfold fm_start at hr hv
  rw [if_neg (in_i (by omega)), if_neg (in_i (by omega))] at hr hv
  exact ⟨hr, by rw [hv]; rfl⟩
theorem ac_i1 (h : v.1 = upd (upd w.1 4 x) 5 y) : ∀ i, (i = 10 ∨ (29 ≤ i ∧ i < 34) ∨ (13 ≤ i ∧ i < 17)) → v.1 i = w.1 i := fun i hi => by rw [h, upd_ne (by omega), upd_ne (by omega)]
theorem ac_leg (hR : Rel t w) (hx : zcR x) (hy : zsR y) (hz : 1 ≤ z.toInt ∧ z.toInt ≤ 9) (hr : r = (fm_leg pm (nT (w.1 3)) w x y z).1) (hv : v = (fm_leg pm (nT (w.1 3)) w x y z).2) : (w.1 3 = 8 ∧ r = -4 ∧ v = w) ∨ (¬ w.1 3 = 8 ∧ r = w.1 3 + 1 ∧ v.1 = fm_addLeg (nT (w.1 3)) w.1 x y z) := by
  have h8 := (rel_legs hR).2
  have z1 : (1 : Int32).toInt = 1 := by decide
  have z2 : (600 : Int32).toInt = 600 := by decide
  unfold fm_leg at hr hv
  rw [if_neg (in_c2 hx), if_neg (in_s hy), if_neg (in_i (by omega))] at hr hv
  by_cases c : w.1 3 = 8
  · rw [if_pos c] at hr hv
    exact Or.inl ⟨c, hr, hv⟩
  · rw [if_neg c] at hr hv
    refine Or.inr ⟨c, ?_, by rw [hv]; rfl⟩
    rw [hr]
    exact addLeg_3 (nT (w.1 3)) w.1 x y z
abbrev LG (w v : vX10) (r x y z : Int32) : Prop := (w.1 3 = 8 ∧ r = -4 ∧ v = w) ∨ (¬ w.1 3 = 8 ∧ r = w.1 3 + 1 ∧ v.1 = fm_addLeg (nT (w.1 3)) w.1 x y z)
theorem ac_l4 (h : LG w v r x y z) (c : ¬ w.1 3 = 8) : r = w.1 3 + 1 := by
  rcases h with ⟨h1, -⟩ | ⟨-, h1, -⟩
  · exact absurd h1 c
  · exact h1
theorem ac_l8 (h : LG w v r x y z) (c : w.1 3 = 8) : r = -4 := by
  rcases h with ⟨-, h1, -⟩ | ⟨h1, -⟩
  · exact h1
  · exact absurd c h1
theorem ac_l0 (hR : Rel t w) (h : LG w v r x y z) (c : ¬ 0 < w.1 3) : fm_course v.1 = x ∧ fm_speed v.1 = y ∧ (if v.1 3 = 0 then 0 else v.1 36) = z := by
  obtain ⟨e, h8⟩ := rel_legs hR
  have n0 : nT (w.1 3) = 0 := by
    have : ¬ 0 < nT (w.1 3) := fun q => c (by rw [e]; exact nI_lt (a := 0) q (by omega))
    omega
  have e0 : w.1 3 = 0 := by rw [e, n0]; rfl
  rcases h with ⟨h1, -⟩ | ⟨-, -, h3⟩
  · rw [e0] at h1; exact absurd h1 (by decide)
  · rw [n0] at h3
    have b3 : v.1 3 = 1 := by
      rw [h3, addLeg_3, e0]
      decide
    have b34 : v.1 34 = x := by rw [h3]; rfl
    have b35 : v.1 35 = y := by rw [h3]; rfl
    have b36 : v.1 36 = z := by rw [h3]; rfl
    unfold fm_course fm_speed
    rw [b3, b34, b35, b36, if_neg (by decide), if_neg (by decide), if_neg (by decide)]
    exact ⟨rfl, rfl, rfl⟩
theorem ac_i2 (hR : Rel t w) {n : Nat} (hI : IV n w) (h : LG w v r x y z) : IV n v := by
  have h8 := (rel_legs hR).2
  rcases h with ⟨-, -, rfl⟩ | ⟨-, -, h3⟩
  · exact hI
  · refine IV_c hI (fun i hi => ?_)
    rw [h3]
    exact addLeg_ne _ _ _ _ _ (by omega) (by omega)
theorem ac_steer (hx : zcR x) (hy : zsR y) (hr : r = (fm_steer pm w x y).1) (hv : v = (fm_steer pm w x y).2) : r = w.1 3 ∧ v.1 = upd (upd (upd w.1 3 0) 1 x) 2 y := by
  unfold fm_steer at hr hv
  rw [if_neg (in_c2 hx), if_neg (in_s hy)] at hr hv
  exact ⟨hr, by rw [hv]; rfl⟩
theorem ac_s (h : v.1 = upd (upd (upd w.1 3 0) 1 x) 2 y) : fm_course v.1 = x ∧ fm_speed v.1 = y ∧ v.1 3 = 0 := by
  have b3 : v.1 3 = 0 := by rw [h]; rfl
  have b1 : v.1 1 = x := by rw [h]; rfl
  have b2 : v.1 2 = y := by rw [h]; rfl
  unfold fm_course fm_speed
  rw [b3, b1, b2, if_pos (by decide), if_pos (by decide)]
  exact ⟨rfl, rfl, rfl⟩
theorem ac_i3 (h : v.1 = upd (upd (upd w.1 3 0) 1 x) 2 y) : ∀ i, (i = 10 ∨ (29 ≤ i ∧ i < 34) ∨ (13 ≤ i ∧ i < 17)) → v.1 i = w.1 i := fun i hi => by rw [h, upd_ne (by omega), upd_ne (by omega), upd_ne (by omega)]
abbrev since (w : vX10) : Int32 := if 0 ≤ w.1 9 then w.1 10 - w.1 9 else -6
abbrev DG (w v : vX10) (r x : Int32) : Prop := ((¬ since w < 0) ∧ (¬ w.1 28 ≤ since w) ∧ r = -5 ∧ v = w) ∨ ((since w < 0 ∨ w.1 28 ≤ since w) ∧ r = w.1 8 ∧ v.1 = upd (upd w.1 8 x) 9 (w.1 10))
theorem ac_damp (hR : Rel t w) {n : Nat} (hI : IV n w) (hn : n < 90000) (hx : 0 ≤ x.toInt ∧ x.toInt ≤ 4) (hr : r = (fm_damp pm w x).1) (hv : v = (fm_damp pm w x).2) : DG w v r x := by
  have z0 : (0 : Int32).toInt = 0 := by decide
  have z4 : (4 : Int32).toInt = 4 := by decide
  have hd := hR.1.2.2.1.2.2.2.2.2.2
  have i1 := hI.1
  have k10 : upd (fm_keep pm w).1 8 x 10 = w.1 10 := upd_ne (by decide)
  unfold fm_damp at hr hv
  rw [if_neg (in_i (by omega))] at hr hv
  rw [k10] at hr hv
  by_cases c : w.1 9 < 0
  · rw [if_pos c] at hr hv
    refine Or.inr ⟨Or.inl ?_, hr, by rw [hv]; rfl⟩
    unfold since
    rw [if_neg (Int32.not_le.mpr c)]
    decide
  · rw [if_neg c] at hr hv
    have c0 : 0 ≤ w.1 9 := Int32.not_lt.mp c
    have es : since w = w.1 10 - w.1 9 := if_pos c0
    have c' := Int32.le_iff_toInt_le.mp c0
    have h9 : 0 ≤ (w.1 9).toInt ∧ (w.1 9).toInt ≤ (w.1 10).toInt := by
      rcases hd with ⟨-, h⟩ | ⟨-, h⟩
      · rw [h] at c; exact absurd (by decide) c
      · exact h
    have e : (w.1 10 - w.1 9).toInt = (w.1 10).toInt - (w.1 9).toInt := zi_sub (by omega) (by omega)
    by_cases c2 : w.1 (20 + 8) ≤ w.1 10 - w.1 9
    · rw [if_pos c2] at hr hv
      exact Or.inr ⟨Or.inr (by rw [es]; exact c2), hr, by rw [hv]; rfl⟩
    · rw [if_neg c2] at hr hv
      refine Or.inl ⟨?_, by rw [es]; exact c2, hr, hv⟩
      rw [es]
      exact fun q => by have := Int32.lt_iff_toInt_lt.mp q; omega
theorem dg_28 (h : DG w v r x) : v.1 28 = w.1 28 := by
  rcases h with ⟨-, -, -, rfl⟩ | ⟨-, -, h⟩
  · rfl
  · rw [h, upd_ne (by decide), upd_ne (by decide)]
theorem ac_dA (h : DG w v r x) (h1 : ¬ since w < 0) (h2 : ¬ v.1 28 ≤ since w) : r = -5 ∧ v = w := by
  rw [dg_28 h] at h2
  rcases h with ⟨-, -, h3⟩ | ⟨h3 | h3, -⟩
  · exact h3
  · exact absurd h3 h1
  · exact absurd h3 h2
theorem ac_dB (h : DG w v r x) (h1 : since w < 0) : r = w.1 8 ∧ v.1 = upd (upd w.1 8 x) 9 (w.1 10) := by
  rcases h with ⟨h3, -⟩ | ⟨-, h3⟩
  · exact absurd h1 h3
  · exact h3
theorem ac_dC (h : DG w v r x) (h1 : v.1 28 ≤ since w) : r = w.1 8 ∧ v.1 = upd (upd w.1 8 x) 9 (w.1 10) := by
  rw [dg_28 h] at h1
  rcases h with ⟨-, h3, -⟩ | ⟨-, h3⟩
  · exact absurd h1 h3
  · exact h3
theorem ac_d7 (hR : Rel t w) (h : v.1 = upd (upd w.1 8 x) 9 (w.1 10)) : (if 0 ≤ v.1 9 then v.1 10 - v.1 9 else -6) = 0 := by
  have h10 : 0 ≤ (w.1 10).toInt := hR.1.2.2.2.2.2.1.2.1
  have e9 : v.1 9 = w.1 10 := by rw [h]; rfl
  have e10 : v.1 10 = w.1 10 := by rw [h]; rfl
  have z0 : (0 : Int32).toInt = 0 := by decide
  rw [e9, e10, if_pos (Int32.le_iff_toInt_le.mpr (by omega))]
  exact Int32.sub_self _
theorem ac_i4 {n : Nat} (hI : IV n w) (h : DG w v r x) : IV n v := by
  rcases h with ⟨-, -, -, rfl⟩ | ⟨-, -, h⟩
  · exact hI
  · exact IV_c hI (fun i hi => by rw [h, upd_ne (by omega), upd_ne (by omega)])
theorem ac_corr (hx : -70 ≤ x.toInt ∧ x.toInt ≤ 70) (hy : zsR y) (hr : r = (fm_correct pm w x y).1) (hv : v = (fm_correct pm w x y).2) : r = (if fm_rest (upd (upd w.1 6 x) 7 y) = fm_rest w.1 then 0 else 1) ∧ v.1 = upd (upd w.1 6 x) 7 y := by
  unfold fm_correct at hr hv
  rw [if_neg (in_d hx), if_neg (in_s hy)] at hr hv
  exact ⟨hr, by rw [hv]; rfl⟩
theorem ac_c5 (hr : r = (if fm_rest (upd (upd w.1 6 x) 7 y) = fm_rest w.1 then 0 else 1)) (hw : v.1 = upd (upd w.1 6 x) 7 y) {j : Int32} (hj : ((¬ (fm_rest v.1 = fm_rest w.1)) ∧ j = (1 : Int32)) ∨ ((fm_rest v.1 = fm_rest w.1) ∧ j = (0 : Int32))) : r = j := by
  rw [hr, ← hw]
  rcases hj with ⟨h, rfl⟩ | ⟨h, rfl⟩
  · rw [if_neg h]
  · rw [if_pos h]
theorem ac_i5 (h : v.1 = upd (upd w.1 6 x) 7 y) : ∀ i, (i = 10 ∨ (29 ≤ i ∧ i < 34) ∨ (13 ≤ i ∧ i < 17)) → v.1 i = w.1 i := fun i hi => by rw [h, upd_ne (by omega), upd_ne (by omega)]
theorem ac_guess (hx : -1800000 ≤ x.toInt ∧ x.toInt ≤ 1800000) (hr : r = (fm_guess pm w x).1) (hv : v = (fm_guess pm w x).2) : r = fm_size (x - fm_rest w.1) ∧ v.1 = upd (upd w.1 18 (w.1 18 + fm_size (x - fm_rest w.1))) 17 (w.1 17 + 1) := by
  have z1 : (-1800000 : Int32).toInt = -1800000 := by decide
  have z2 : (1800000 : Int32).toInt = 1800000 := by decide
  unfold fm_guess at hr hv
  rw [if_neg (in_i (by omega))] at hr hv
  exact ⟨hr, by rw [hv]; rfl⟩
theorem ac_i6 (h : v.1 = upd (upd w.1 18 (w.1 18 + z)) 17 (w.1 17 + 1)) : ∀ i, (i = 10 ∨ (29 ≤ i ∧ i < 34) ∨ (13 ≤ i ∧ i < 17)) → v.1 i = w.1 i := fun i hi => by rw [h, upd_ne (by omega), upd_ne (by omega)]
end
