/-! sums: what the law holds against them; what holds behind each of its steps -/
def fl_ms (a : Nat → Int32) : Nat → Int32
  | 0 => 0
  | m + 1 => fl_ms a m + a (29 + m)
/-- behind at most n steps: the number of minutes, those at the levels, turning points and checks against those that are kept -/
def IV (n : Nat) (w : vX10) : Prop := (w.1 10).toInt ≤ n ∧ fl_ms w.1 5 = w.1 10 ∧ (w.1 13).toInt ≤ (w.1 14).toInt ∧ (w.1 14).toInt ≤ n ∧ (w.1 15).toInt ≤ (w.1 16).toInt ∧ (w.1 16).toInt ≤ n
theorem IV_c {n : Nat} {v w : vX10} (h : IV n v) (e : ∀ i, (i = 10 ∨ (29 ≤ i ∧ i < 34) ∨ (13 ≤ i ∧ i < 17)) → w.1 i = v.1 i) : IV n w := by
  obtain ⟨h1, h2, h3, h4, h5, h6⟩ := h
  have em : fl_ms w.1 5 = fl_ms v.1 5 := by
    show ((((0 + w.1 29) + w.1 30) + w.1 31) + w.1 32) + w.1 33 = ((((0 + v.1 29) + v.1 30) + v.1 31) + v.1 32) + v.1 33
    rw [e 29 (by omega), e 30 (by omega), e 31 (by omega), e 32 (by omega), e 33 (by omega)]
  unfold IV
  rw [em, e 10 (by omega), e 13 (by omega), e 14 (by omega), e 15 (by omega), e 16 (by omega)]
  exact ⟨h1, h2, h3, h4, h5, h6⟩
theorem IV_le {n k : Nat} {w : vX10} (h : IV n w) (hk : n ≤ k) : IV k w := by
  obtain ⟨h1, h2, h3, h4, h5, h6⟩ := h
  exact ⟨by omega, h2, h3, by omega, h5, by omega⟩
theorem su_lt {t : vTv} {w : vX10} (hR : Rel t w) {k : Nat} (hk : k ≤ nT (w.1 15)) (h : ¬ w.1 15 ≤ nI k) : k < nT (w.1 15) := by
  obtain ⟨e, h5⟩ := rel_chk hR
  refine Nat.lt_of_not_le (fun q => h ?_)
  rw [e]
  exact nI_le q (by omega)
theorem su_eq {t : vTv} {w : vX10} (hR : Rel t w) {k : Nat} (hk : k ≤ nT (w.1 15)) (h : w.1 15 ≤ nI k) : k = nT (w.1 15) := by
  obtain ⟨e, h5⟩ := rel_chk hR
  have h' : nI (nT (w.1 15)) ≤ nI k := by rw [← e]; exact h
  have := (nI_leI (by omega) (by omega)).mp h'
  omega
theorem su_m {m : Nat} (hm : m ≤ 5) (h : ¬ (13 : Int32) ≤ nI (8 + m)) : m < 5 := by
  refine Nat.lt_of_not_le (fun q => h ?_)
  exact nI_le (a := 13) (by omega) (by omega)
theorem su_m5 {m : Nat} (hm : m ≤ 5) (h : (13 : Int32) ≤ nI (8 + m)) : m = 5 := by
  have := (nI_leI (a := 13) (b := 8 + m) (by decide) (by omega)).mp h
  omega
theorem su_1 {n : Nat} {w : vX10} (h : IV n w) : ¬ w.1 16 < w.1 15 := fun c => by
  have := Int32.lt_iff_toInt_lt.mp c
  have := h.2.2.2.2.1
  omega
theorem su_2 {n : Nat} {w : vX10} (h : IV n w) : ¬ w.1 14 < w.1 13 := fun c => by
  have := Int32.lt_iff_toInt_lt.mp c
  have := h.2.2.1
  omega
theorem su_3 {n : Nat} {w : vX10} (h : IV n w) : fl_ms w.1 5 = w.1 10 := h.2.1
theorem su_4 {t : vTv} {w : vX10} (hR : Rel t w) : ¬ 70000000 < fm_size (w.1 0) := fun c => by
  have h : zlR (w.1 0) := (rel_okR hR).1
  have h1 := h.1
  have h2 := h.2
  have e := zsize_i (x := w.1 0) (by omega)
  have := Int32.lt_iff_toInt_lt.mp c
  have z : (70000000 : Int32).toInt = 70000000 := by decide
  rw [e, z] at this
  split at this <;> omega
