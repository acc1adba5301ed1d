/-! a minute: legs, and what holds behind it -/
section
variable {t : vTv} {w : vX10} {b : Nat → Int32}
theorem mi_36 (hR : Rel t w) (h0 : ¬ w.1 3 = 0) : 0 < nT (w.1 3) ∧ nT (w.1 3) ≤ 8 ∧ w.1 3 = nI (nT (w.1 3)) ∧ (1 ≤ (w.1 36).toInt ∧ (w.1 36).toInt ≤ 600) := by
  obtain ⟨e, h8⟩ := rel_legs hR
  have hp : 0 < nT (w.1 3) := Nat.pos_of_ne_zero (fun q => h0 (by rw [e, q]; rfl))
  have g := hR.1.2.1.1.2.2 0 hp
  exact ⟨hp, h8, e, g.2.2.2.2.2.1, g.2.2.2.2.2.2⟩
theorem mi_C (hR : Rel t w) {i : Nat} (h : i = 3 ∨ (34 ≤ i ∧ i < 58)) : fm_C w.1 w.2.1 i = w.1 i := C_a (rel_8 hR).2 (by omega)
theorem ml_0 (hR : Rel t w) (hB : MB w b) (h : w.1 3 = 0) : b 3 = 0 ∧ fm_course b = fm_course w.1 ∧ fm_speed b = fm_speed w.1 := by
  have e3 : fm_C w.1 w.2.1 3 = 0 := by rw [mi_C hR (by omega), h]
  have e : b = fm_C w.1 w.2.1 := by
    rw [hB]
    unfold fm_D
    rw [if_pos (by rw [e3]; decide)]
  have e1 := C_1 (s := w.2.1) (rel_8 hR).2
  have e2 := C_2 (s := w.2.1) (rel_8 hR).2
  refine ⟨by rw [e]; exact e3, ?_, ?_⟩
  · show (if b 3 ≤ 0 then b 1 else b 34) = _
    rw [e, e3, if_pos (by decide), e1]
  · show (if b 3 ≤ 0 then b 2 else b 35) = _
    rw [e, e3, if_pos (by decide), e2]
theorem ml_n3 (hR : Rel t w) (h : ¬ w.1 3 = 0) : ¬ fm_C w.1 w.2.1 3 ≤ 0 := by
  obtain ⟨h0, h8, e, -⟩ := mi_36 hR h
  rw [mi_C hR (by omega), e]
  exact nI_nle h0 (by omega)
theorem ml_n0 (hR : Rel t w) (h : ¬ w.1 3 = 0) : ¬ w.1 3 ≤ 0 := by
  have := ml_n3 hR h
  rw [mi_C hR (by omega)] at this
  exact this
theorem ml_m (hR : Rel t w) : fm_me (fm_C w.1 w.2.1) 36 = w.1 36 - 1 := by rw [me_36, mi_C hR (by omega)]
theorem ml_1 (hR : Rel t w) (hB : MB w b) (h : ¬ w.1 3 = 0) (h2 : ¬ (if w.1 3 = 0 then (0 : Int32) else w.1 36) ≤ 1) : b 3 = w.1 3 ∧ (if b 3 = 0 then 0 else b 36) = (if w.1 3 = 0 then (0 : Int32) else w.1 36) - 1 ∧ fm_course b = fm_course w.1 ∧ fm_speed b = fm_speed w.1 := by
  obtain ⟨h0, h8, e, m1, m2⟩ := mi_36 hR h
  rw [if_neg h] at h2 ⊢
  have z1 : (1 : Int32).toInt = 1 := by decide
  have m3 : ¬ (w.1 36).toInt ≤ 1 := fun q => h2 (Int32.le_iff_toInt_le.mpr (by omega))
  have hne : ¬ w.1 36 - 1 = 0 := fun q => by
    have q2 := congrArg Int32.toInt q
    rw [zi_sub (by omega) (by omega), z1] at q2
    have z : (0 : Int32).toInt = 0 := by decide
    omega
  have eb : b = fm_me (fm_C w.1 w.2.1) := by
    rw [hB]
    unfold fm_D
    rw [if_neg (ml_n3 hR h), ml_m hR, if_neg hne]
  have e3 : b 3 = w.1 3 := by rw [eb, me_ne (by decide), mi_C hR (by omega)]
  have e34 : b 34 = w.1 34 := by rw [eb, me_ne (by decide), mi_C hR (by omega)]
  have e35 : b 35 = w.1 35 := by rw [eb, me_ne (by decide), mi_C hR (by omega)]
  refine ⟨e3, ?_, ?_, ?_⟩
  · rw [e3, if_neg h, eb, ml_m hR]
  · show (if b 3 ≤ 0 then b 1 else b 34) = (if w.1 3 ≤ 0 then w.1 1 else w.1 34)
    rw [e3, if_neg (ml_n0 hR h), if_neg (ml_n0 hR h), e34]
  · show (if b 3 ≤ 0 then b 2 else b 35) = (if w.1 3 ≤ 0 then w.1 2 else w.1 35)
    rw [e3, if_neg (ml_n0 hR h), if_neg (ml_n0 hR h), e35]
theorem ml_e (hR : Rel t w) (hB : MB w b) (h : ¬ w.1 3 = 0) (h2 : (if w.1 3 = 0 then (0 : Int32) else w.1 36) ≤ 1) : b = fm_end (nT (w.1 3) - 1) (fm_me (fm_C w.1 w.2.1)) := by
  obtain ⟨h0, h8, e, m1, m2⟩ := mi_36 hR h
  rw [if_neg h] at h2
  have z1 : (1 : Int32).toInt = 1 := by decide
  have m3 := Int32.le_iff_toInt_le.mp h2
  have he : w.1 36 - 1 = 0 := by
    apply Int32.toInt_inj.mp
    rw [zi_sub (by omega) (by omega), z1]
    have z : (0 : Int32).toInt = 0 := by decide
    omega
  rw [hB]
  unfold fm_D
  rw [if_neg (ml_n3 hR h), ml_m hR, if_pos he]
theorem ml_2 (hR : Rel t w) (hB : MB w b) (h : ¬ w.1 3 = 0) (h2 : (if w.1 3 = 0 then (0 : Int32) else w.1 36) ≤ 1) : b 3 = w.1 3 - 1 := by
  obtain ⟨h0, h8, e, -⟩ := mi_36 hR h
  rw [ml_e hR hB h h2, end_3]
  have : w.1 3 - 1 = nI (nT (w.1 3) - 1) := by
    generalize nT (w.1 3) = k at e h0
    rw [e]
    exact pk_sub (a := k) (b := 1) h0
  exact this.symm
theorem ml_3 (hR : Rel t w) (hB : MB w b) (h : ¬ w.1 3 = 0) (h2 : (if w.1 3 = 0 then (0 : Int32) else w.1 36) ≤ 1) (h3 : ¬ 1 < w.1 3) : b 3 = 0 ∧ fm_course b = fm_course w.1 ∧ fm_speed b = 0 := by
  obtain ⟨h0, h8, e, -⟩ := mi_36 hR h
  have k1 : nT (w.1 3) = 1 := by
    have : ¬ 1 < nT (w.1 3) := fun q => h3 (by rw [e]; exact nI_lt (a := 1) q (by omega))
    omega
  have eb := ml_e hR hB h h2
  rw [k1] at eb
  have e3 : b 3 = 0 := by rw [eb, end_3]; rfl
  refine ⟨e3, ?_, ?_⟩
  · show (if b 3 ≤ 0 then b 1 else b 34) = _
    rw [e3, if_pos (by decide), eb, end_1, me_ne (by decide), C_1 (rel_8 hR).2]
  · show (if b 3 ≤ 0 then b 2 else b 35) = _
    rw [e3, if_pos (by decide), eb]
    exact end_2
theorem ml_4 (h : b 3 = 0) : (if b 3 = 0 then (0 : Int32) else b 36) = 0 := if_pos h
/-- the number of minutes at the levels: one more -/
theorem fl_ms1 {a c : Nat → Int32} {k : Nat} (hk : k ≤ 4) (h : ∀ i, i < 5 → c (29 + i) = if i = k then a (29 + i) + 1 else a (29 + i)) : fl_ms c 5 = fl_ms a 5 + 1 := by
  show ((((0 + c 29) + c 30) + c 31) + c 32) + c 33 = ((((0 + a 29) + a 30) + a 31) + a 32) + a 33 + 1
  have h0 := h 0 (by omega)
  have h1 := h 1 (by omega)
  have h2 := h 2 (by omega)
  have h3 := h 3 (by omega)
  have h4 := h 4 (by omega)
  rcases (show k = 0 ∨ k = 1 ∨ k = 2 ∨ k = 3 ∨ k = 4 by omega) with rfl | rfl | rfl | rfl | rfl
  · rw [if_pos rfl] at h0
    rw [if_neg (by decide)] at h1
    rw [if_neg (by decide)] at h2
    rw [if_neg (by decide)] at h3
    rw [if_neg (by decide)] at h4
    rw [show c 29 = _ from h0, show c 30 = _ from h1, show c 31 = _ from h2, show c 32 = _ from h3, show c 33 = _ from h4]
    ac_rfl
  · rw [if_pos rfl] at h1
    rw [if_neg (by decide)] at h0
    rw [if_neg (by decide)] at h2
    rw [if_neg (by decide)] at h3
    rw [if_neg (by decide)] at h4
    rw [show c 29 = _ from h0, show c 30 = _ from h1, show c 31 = _ from h2, show c 32 = _ from h3, show c 33 = _ from h4]
    ac_rfl
  · rw [if_pos rfl] at h2
    rw [if_neg (by decide)] at h0
    rw [if_neg (by decide)] at h1
    rw [if_neg (by decide)] at h3
    rw [if_neg (by decide)] at h4
    rw [show c 29 = _ from h0, show c 30 = _ from h1, show c 31 = _ from h2, show c 32 = _ from h3, show c 33 = _ from h4]
    ac_rfl
  · rw [if_pos rfl] at h3
    rw [if_neg (by decide)] at h0
    rw [if_neg (by decide)] at h1
    rw [if_neg (by decide)] at h2
    rw [if_neg (by decide)] at h4
    rw [show c 29 = _ from h0, show c 30 = _ from h1, show c 31 = _ from h2, show c 32 = _ from h3, show c 33 = _ from h4]
    ac_rfl
  · rw [if_pos rfl] at h4
    rw [if_neg (by decide)] at h0
    rw [if_neg (by decide)] at h1
    rw [if_neg (by decide)] at h2
    rw [if_neg (by decide)] at h3
    rw [show c 29 = _ from h0, show c 30 = _ from h1, show c 31 = _ from h2, show c 32 = _ from h3, show c 33 = _ from h4]
    ac_rfl
theorem mi_IV (hR : Rel t w) {v : vX10} (hB : MB w v.1) {T : Int32} (hT : MT w v.1 T) {n : Nat} (hI : IV n w) (hn : n < 90000) : IV (n + 1) v := by
  obtain ⟨i1, i2, i3, i4, i5, i6⟩ := hI
  have h10 : 0 ≤ (w.1 10).toInt := hR.1.2.2.2.2.2.1.2.1
  obtain ⟨e13, h8⟩ := rel_13 hR
  have z1 : (1 : Int32).toInt = 1 := by decide
  have e10 := mi_6 hR hB
  have t10 : (v.1 10).toInt = (w.1 10).toInt + 1 := by rw [e10, zi_add (by omega) (by omega), z1]
  have em : fl_ms v.1 5 = v.1 10 := by rw [fl_ms1 (rel_8 hR).2 (fun i hi => mi_lv hR hB hi), i2, e10]
  have e15 := mb_a hR hB (i := 15) (by decide)
  have e16 := mb_a hR hB (i := 16) (by decide)
  have t13 : 0 ≤ (w.1 13).toInt := by rw [e13, nI_toInt (by omega)]; omega
  refine ⟨by omega, em, ?_, ?_, by rw [e15, e16]; exact i5, by rw [e16]; omega⟩
  · rcases hT with ⟨-, h13, h14, -⟩ | ⟨-, h13, h14, -⟩
    · rw [h13, h14]; exact i3
    · have e14 : (v.1 14).toInt = (w.1 14).toInt + 1 := by rw [h14, zi_add (by omega) (by omega), z1]
      have q13 : (w.1 13).toInt = (nT (w.1 13) : Nat) := by rw [congrArg Int32.toInt e13, nI_toInt (by omega)]
      rw [h13, nI_toInt (by split <;> omega), e14]
      split <;> omega
  · rcases hT with ⟨-, h13, h14, -⟩ | ⟨-, h13, h14, -⟩
    · rw [h14]; omega
    · have e14 : (v.1 14).toInt = (w.1 14).toInt + 1 := by rw [h14, zi_add (by omega) (by omega), z1]
      omega
end
