/-! what is refused -/
def rfar (x : Int32) : Prop := x.toInt < -1800000 ∨ 1800000 < x.toInt
theorem rf_far {v j : Int32} (h : ((0 ≤ v) ∧ j = ((v - v / (1000000 : Int32) * (1000000 : Int32)) + (1800001 : Int32))) ∨ ((¬ (0 ≤ v)) ∧ j = ((-1800001 : Int32) - (fl_up (v) (1000000 : Int32))))) : rfar j := by
  rcases h with ⟨h0, rfl⟩ | ⟨h0, rfl⟩
  · have h0' := Int32.le_iff_toInt_le.mp h0
    have z : (0 : Int32).toInt = 0 := by decide
    obtain ⟨k, hk, ek⟩ := z_nIof (x := v) (n := 2147483648) (by omega) (by have := (z32 (x := v)).1; omega)
    subst ek
    have e1 : nI k / 1000000 = nI (k / 1000000) := pk_div (a := k) (d := 1000000) hk (by decide) (by decide)
    have e2 : nI (k / 1000000) * 1000000 = nI (k / 1000000 * 1000000) := pk_mul _ 1000000
    have e3 : nI k - nI (k / 1000000 * 1000000) = nI (k - k / 1000000 * 1000000) := pk_sub (Nat.div_mul_le_self k 1000000)
    have e4 : nI (k - k / 1000000 * 1000000) + 1800001 = nI (k - k / 1000000 * 1000000 + 1800001) := nI_add _ 1800001
    rw [e1, e2, e3, e4]
    right
    rw [nI_toInt (by omega)]
    omega
  · obtain ⟨k, hk, ek⟩ := up_ex v (n := 1000000) (by decide) (by decide)
    have ek : fl_up v 1000000 = nI k := ek
    rw [ek]
    left
    have z : (-1800001 : Int32).toInt = -1800001 := by decide
    rw [zi_sub (by rw [z, nI_toInt (by omega)]; omega) (by rw [z, nI_toInt (by omega)]; omega), z, nI_toInt (by omega)]
    omega
section
variable {x : Int32}
theorem rf_ne {k : Int32} (h : rfar x) (hk : -1800000 ≤ k.toInt ∧ k.toInt ≤ 1800000) : ¬ x = k := fun e => by
  subst e
  rcases h with h | h <;> omega
theorem rf_in {lo hi : Int32} (h : rfar x) (h1 : -1800000 ≤ lo.toInt) (h2 : hi.toInt ≤ 1800000) : fm_in x lo hi = 0 := by
  unfold fm_in
  rcases h with h | h
  · rw [if_pos (Int32.lt_iff_toInt_lt.mpr (by omega))]
  · by_cases c : x < lo
    · rw [if_pos c]
    · rw [if_neg c, if_pos (Int32.lt_iff_toInt_lt.mpr (by omega))]
variable {pm c n : Nat} {w : vX10} {a : Nat → Int32} {s : Nat → Int64} {y z p q : Int32}
theorem rf_set1 (h : rfar x) : fm_set pm w x y = (-2, w) := by
  unfold fm_set fm_takes
  rw [if_neg (rf_ne h (by decide)), if_neg (rf_ne h (by decide)), if_neg (rf_ne h (by decide)), if_neg (rf_ne h (by decide)), if_neg (rf_ne h (by decide)), if_neg (rf_ne h (by decide)), if_neg (rf_ne h (by decide)), if_neg (rf_ne h (by decide)), if_neg (rf_ne h (by decide)), if_pos rfl]
theorem rf_set2 (h : rfar x) : fm_set pm w 0 x = (-2, w) := by
  unfold fm_set fm_takes
  rw [if_pos (show (0 : Int32) = 0 from rfl), rf_in h (by decide) (by decide), if_pos rfl]
theorem rf_set3 (h : rfar x) : fm_set pm w 7 x = (-2, w) := by
  have e : fm_takes 7 x = 0 := by
    unfold fm_takes
    rw [if_neg (by decide), if_neg (by decide), if_neg (by decide), if_neg (by decide), if_neg (by decide), if_neg (by decide), if_neg (by decide), if_pos (show (7 : Int32) = 7 from rfl), rf_in h (by decide) (by decide)]
  unfold fm_set
  rw [e, if_pos rfl]
theorem rf_start1 (h : rfar x) : fm_start pm w x y = (-1000000002, w) := by
  unfold fm_start
  rw [rf_in h (by decide) (by decide), if_pos rfl]
theorem rf_start2 (h : rfar x) : fm_start pm w 0 x = (-1000000002, w) := by
  unfold fm_start
  rw [if_neg (by decide), rf_in h (by decide) (by decide), if_pos rfl]
theorem rf_place (h : rfar x) : fm_place pm w x = (-2, w) := by
  unfold fm_place
  rw [rf_in h (by decide) (by decide), if_pos rfl]
theorem rf_line (h : rfar x) : fm_line pm n w x = (-2, w) := by
  unfold fm_line
  rw [rf_in h (by decide) (by decide), if_pos rfl]
theorem rf_steer1 (h : rfar x) : fm_steer pm w x y = (-2, w) := by
  unfold fm_steer
  rw [rf_in h (by decide) (by decide), if_pos rfl]
theorem rf_steer2 (h : rfar x) : fm_steer pm w 0 x = (-2, w) := by
  unfold fm_steer
  rw [if_neg (by decide), rf_in h (by decide) (by decide), if_pos rfl]
theorem rf_leg1 (h : rfar x) : fm_leg pm n w x y z = (-2, w) := by
  unfold fm_leg
  rw [rf_in h (by decide) (by decide), if_pos rfl]
theorem rf_leg2 (h : rfar x) : fm_leg pm n w 0 x z = (-2, w) := by
  unfold fm_leg
  rw [if_neg (by decide), rf_in h (by decide) (by decide), if_pos rfl]
theorem rf_leg3 (h : rfar x) : fm_leg pm n w 0 0 x = (-2, w) := by
  unfold fm_leg
  rw [if_neg (by decide), if_neg (by decide), rf_in h (by decide) (by decide), if_pos rfl]
theorem rf_pass (h : rfar x) : fm_pass pm w x = (-2, w) := by
  unfold fm_pass
  rw [rf_in h (by decide) (by decide), if_pos rfl]
theorem rf_damp (h : rfar x) : fm_damp pm w x = (-2, w) := by
  unfold fm_damp
  rw [rf_in h (by decide) (by decide), if_pos rfl]
theorem rf_corr1 (h : rfar x) : fm_correct pm w x y = (-2, w) := by
  unfold fm_correct
  rw [rf_in h (by decide) (by decide), if_pos rfl]
theorem rf_corr2 (h : rfar x) : fm_correct pm w 0 x = (-2, w) := by
  unfold fm_correct
  rw [if_neg (by decide), rf_in h (by decide) (by decide), if_pos rfl]
theorem rf_nlt (h : rfar x) (h0 : ¬ x < 0) (hy : y = 0) : ¬ x < y := fun c => h0 (by rw [← hy]; exact c)
theorem rf_obs (h : rfar x) (h0 : w.1 19 = 0) : fm_obs pm n w x = (-1, w) := by
  unfold fm_obs
  by_cases c : x < 0
  · rw [if_pos c]
  · rw [if_neg c, if_neg (rf_nlt h c h0)]
theorem rf_guess (h : rfar x) : fm_guess pm w x = (-2, w) := by
  unfold fm_guess
  rw [rf_in h (by decide) (by decide), if_pos rfl]
theorem rf_calm1 (h : rfar x) : fm_calmIn w x y = (-2, w) := by
  unfold fm_calmIn
  rw [rf_in h (by decide) (by decide), if_pos rfl]
theorem rf_calm2 (h : rfar x) : fm_calmIn w 0 x = (-2, w) := by
  unfold fm_calmIn
  rw [if_neg (by decide), rf_in h (by decide) (by decide), if_pos rfl]
theorem rf_best (h : rfar x) : fm_best w x y = (-2, w) := by
  unfold fm_best
  rw [rf_in h (by decide) (by decide), if_pos rfl]
theorem rf_undo (h : pmN w = 0) : fm_undo (pmN w) w = (-5, w) := by
  unfold fm_undo
  rw [if_pos h]
theorem rf_save (h : rfar x) : fm_saveX w x = (-2, w) := by
  unfold fm_saveX
  rw [rf_in h (by decide) (by decide), if_pos rfl]
theorem rf_rest (h : rfar x) : fm_restX pm w x = (-2, w) := by
  unfold fm_restX
  rw [rf_in h (by decide) (by decide), if_pos rfl]
theorem rf_compass (h : rfar x) : fm_compass n a s x = -1000000002 := by
  unfold fm_compass
  rw [if_neg (rf_ne h (by decide)), if_neg (rf_ne h (by decide)), if_neg (rf_ne h (by decide)), if_neg (rf_ne h (by decide)), if_neg (rf_ne h (by decide)), if_neg (rf_ne h (by decide)), if_neg (rf_ne h (by decide)), if_neg (rf_ne h (by decide)), if_neg (rf_ne h (by decide)), if_neg (rf_ne h (by decide)), if_neg (rf_ne h (by decide))]
theorem rf_turn (h : rfar x) (h0 : a 13 = 0) : fm_turn a x y = -1000000001 := by
  unfold fm_turn
  by_cases c : x < 0
  · rw [if_pos c]
  · rw [if_neg c, if_neg (rf_nlt h c h0)]
theorem rf_check (h : rfar x) (h0 : a 15 = 0) : fm_check a x = -1000000001 := by
  unfold fm_check
  by_cases c : x < 0
  · rw [if_pos c]
  · rw [if_neg c, if_neg (rf_nlt h c h0)]
theorem rf_state (h : rfar x) : fm_state a p q x = -2 := by
  unfold fm_state
  rw [if_pos (rf_in h (by decide) (by decide)), if_pos (rf_in h (by decide) (by decide)), if_neg (rf_ne h (by decide)), if_neg (rf_ne h (by decide)), if_neg (rf_ne h (by decide)), if_neg (rf_ne h (by decide)), if_neg (rf_ne h (by decide)), if_neg (rf_ne h (by decide)), if_neg (rf_ne h (by decide)), if_neg (rf_ne h (by decide)), if_neg (rf_ne h (by decide)), if_neg (rf_ne h (by decide)), if_neg (rf_ne h (by decide)), if_neg (rf_ne h (by decide)), if_neg (rf_ne h (by decide)), if_neg (rf_ne h (by decide)), if_neg (rf_ne h (by decide)), if_neg (rf_ne h (by decide)), if_neg (rf_ne h (by decide))]
theorem rf_wave (h : rfar x) : fm_wave x y = -1000000002 := by
  unfold fm_wave
  rw [rf_in h (by decide) (by decide), if_pos rfl]
theorem rf_restAt (h : rfar x) : fm_restAt a x y z = -1000000002 := by
  unfold fm_restAt
  rw [rf_in h (by decide) (by decide), if_pos rfl]
end
theorem rf_load0 : ¬ (fm_fault zi_X10).1 = -6 := by decide +kernel
theorem rf_load (pm n : Nat) : fm_load pm n zi_X10 = (-3, fm_fW zi_X10) := by
  unfold fm_load
  rw [if_neg rf_load0, fau_1]
theorem rf_load1 (pm n : Nat) : (fm_load pm n zi_X10).2.1 = zi_at := by rw [rf_load]; exact fW_1 zi_X10
theorem rf_load21 (pm n : Nat) : (fm_load pm n zi_X10).2.2.2.2.2.2.2.1 = 0 := by rw [rf_load]; exact fW_pm zi_X10
theorem rf_IV : IV 0 zi_X10 := by
  unfold IV
  refine ⟨by decide, by decide, by decide, by decide, by decide, by decide⟩
