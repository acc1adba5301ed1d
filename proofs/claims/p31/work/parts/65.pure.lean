/-! the law's own numbers, and what reading calls tell at known numbers -/
def fl_up (x m : Int32) : Int32 := (x &&& (2147483647 : Int32)) - (x &&& (2147483647 : Int32)) / m * m
theorem up_ex (x : Int32) {n : Nat} (h0 : 0 < n) (hn : n < 2 ^ 31) : ∃ k : Nat, k < n ∧ fl_up x (nI n) = nI k := by
  obtain ⟨j, hj, ej⟩ := pk_andE x (m := (2147483647 : Int32)) 31 (by decide)
  refine ⟨j - j / n * n, ?_, ?_⟩
  · have h1 := Nat.mod_lt j h0
    have h2 := Nat.div_add_mod j n
    rw [Nat.mul_comm] at h2
    omega
  · unfold fl_up
    rw [ej, pk_div hj h0 hn, pk_mul, pk_sub (Nat.div_mul_le_self j n)]
theorem fs_0 {a : Nat → Int32} {p q : Int32} : fm_state a p q 0 = a 10 := by
  unfold fm_state
  rw [if_pos (by decide), if_pos (by decide), if_pos (by decide)]
theorem fs_1 {a : Nat → Int32} {p q : Int32} : fm_state a p q 1 = fm_course a := by
  unfold fm_state
  rw [if_pos (by decide), if_pos (by decide), if_neg (by decide), if_pos (by decide)]
theorem fs_2 {a : Nat → Int32} {p q : Int32} : fm_state a p q 2 = fm_speed a := by
  unfold fm_state
  rw [if_pos (by decide), if_pos (by decide), if_neg (by decide), if_neg (by decide), if_pos (by decide)]
theorem fs_3 {a : Nat → Int32} {p q : Int32} : fm_state a p q 3 = a 3 := by
  unfold fm_state
  rw [if_pos (by decide), if_pos (by decide), if_neg (by decide), if_neg (by decide), if_neg (by decide), if_pos (by decide)]
theorem fs_4 {a : Nat → Int32} {p q : Int32} : fm_state a p q 4 = (if a 3 = 0 then 0 else a 36) := by
  unfold fm_state
  rw [if_pos (by decide), if_pos (by decide), if_neg (by decide), if_neg (by decide), if_neg (by decide), if_neg (by decide), if_pos (by decide)]
theorem fs_5 {a : Nat → Int32} {p q : Int32} : fm_state a p q 5 = a 11 := by
  unfold fm_state
  rw [if_pos (by decide), if_pos (by decide), if_neg (by decide), if_neg (by decide), if_neg (by decide), if_neg (by decide), if_neg (by decide), if_pos (by decide)]
theorem fs_6 {a : Nat → Int32} {p q : Int32} : fm_state a p q 6 = a 8 := by
  unfold fm_state
  rw [if_pos (by decide), if_pos (by decide), if_neg (by decide), if_neg (by decide), if_neg (by decide), if_neg (by decide), if_neg (by decide), if_neg (by decide), if_pos (by decide)]
theorem fs_7 {a : Nat → Int32} {p q : Int32} : fm_state a p q 7 = (if 0 ≤ a 9 then a 10 - a 9 else -6) := by
  unfold fm_state
  rw [if_pos (by decide), if_pos (by decide), if_neg (by decide), if_neg (by decide), if_neg (by decide), if_neg (by decide), if_neg (by decide), if_neg (by decide), if_neg (by decide), if_pos (by decide)]
theorem fs_13 {a : Nat → Int32} {p q : Int32} : fm_state a p q 13 = a 13 := by
  unfold fm_state
  rw [if_pos (by decide), if_pos (by decide), if_neg (by decide), if_neg (by decide), if_neg (by decide), if_neg (by decide), if_neg (by decide), if_neg (by decide), if_neg (by decide), if_neg (by decide), if_pos (by decide)]
theorem fs_14 {a : Nat → Int32} {p q : Int32} : fm_state a p q 14 = a 14 := by
  unfold fm_state
  rw [if_pos (by decide), if_pos (by decide), if_neg (by decide), if_neg (by decide), if_neg (by decide), if_neg (by decide), if_neg (by decide), if_neg (by decide), if_neg (by decide), if_neg (by decide), if_neg (by decide), if_pos (by decide)]
theorem fs_15 {a : Nat → Int32} {p q : Int32} : fm_state a p q 15 = a 15 := by
  unfold fm_state
  rw [if_pos (by decide), if_pos (by decide), if_neg (by decide), if_neg (by decide), if_neg (by decide), if_neg (by decide), if_neg (by decide), if_neg (by decide), if_neg (by decide), if_neg (by decide), if_neg (by decide), if_neg (by decide), if_pos (by decide)]
theorem fs_16 {a : Nat → Int32} {p q : Int32} : fm_state a p q 16 = a 16 := by
  unfold fm_state
  rw [if_pos (by decide), if_pos (by decide), if_neg (by decide), if_neg (by decide), if_neg (by decide), if_neg (by decide), if_neg (by decide), if_neg (by decide), if_neg (by decide), if_neg (by decide), if_neg (by decide), if_neg (by decide), if_neg (by decide), if_pos (by decide)]
theorem fs_17 {a : Nat → Int32} {p q : Int32} : fm_state a p q 17 = a 17 := by
  unfold fm_state
  rw [if_pos (by decide), if_pos (by decide), if_neg (by decide), if_neg (by decide), if_neg (by decide), if_neg (by decide), if_neg (by decide), if_neg (by decide), if_neg (by decide), if_neg (by decide), if_neg (by decide), if_neg (by decide), if_neg (by decide), if_neg (by decide), if_pos (by decide)]
theorem fs_18 {a : Nat → Int32} {p q : Int32} : fm_state a p q 18 = a 7 := by
  unfold fm_state
  rw [if_pos (by decide), if_pos (by decide), if_neg (by decide), if_neg (by decide), if_neg (by decide), if_neg (by decide), if_neg (by decide), if_neg (by decide), if_neg (by decide), if_neg (by decide), if_neg (by decide), if_neg (by decide), if_neg (by decide), if_neg (by decide), if_neg (by decide), if_pos (by decide)]
theorem fs_19 {a : Nat → Int32} {p q : Int32} : fm_state a p q 19 = a 19 := by
  unfold fm_state
  rw [if_pos (by decide), if_pos (by decide), if_neg (by decide), if_neg (by decide), if_neg (by decide), if_neg (by decide), if_neg (by decide), if_neg (by decide), if_neg (by decide), if_neg (by decide), if_neg (by decide), if_neg (by decide), if_neg (by decide), if_neg (by decide), if_neg (by decide), if_neg (by decide), if_pos (by decide)]
theorem fs_20 {a : Nat → Int32} {p q : Int32} : fm_state a p q 20 = q := by
  unfold fm_state
  rw [if_pos (by decide), if_pos (by decide), if_neg (by decide), if_neg (by decide), if_neg (by decide), if_neg (by decide), if_neg (by decide), if_neg (by decide), if_neg (by decide), if_neg (by decide), if_neg (by decide), if_neg (by decide), if_neg (by decide), if_neg (by decide), if_neg (by decide), if_neg (by decide), if_neg (by decide), if_pos (by decide)]
theorem fs_21 {a : Nat → Int32} {p q : Int32} : fm_state a p q 21 = p := by
  unfold fm_state
  rw [if_pos (by decide), if_pos (by decide), if_neg (by decide), if_neg (by decide), if_neg (by decide), if_neg (by decide), if_neg (by decide), if_neg (by decide), if_neg (by decide), if_neg (by decide), if_neg (by decide), if_neg (by decide), if_neg (by decide), if_neg (by decide), if_neg (by decide), if_neg (by decide), if_neg (by decide), if_neg (by decide), if_pos (by decide)]
theorem fs_22 {a : Nat → Int32} {p q : Int32} : fm_state a p q 22 = a 20 := by
  unfold fm_state
  rw [if_pos (by decide), if_neg (by decide)]
  exact congrArg a (by decide)
theorem fs_23 {a : Nat → Int32} {p q : Int32} : fm_state a p q 23 = a 21 := by
  unfold fm_state
  rw [if_pos (by decide), if_neg (by decide)]
  exact congrArg a (by decide)
theorem fs_24 {a : Nat → Int32} {p q : Int32} : fm_state a p q 24 = a 22 := by
  unfold fm_state
  rw [if_pos (by decide), if_neg (by decide)]
  exact congrArg a (by decide)
theorem fs_25 {a : Nat → Int32} {p q : Int32} : fm_state a p q 25 = a 23 := by
  unfold fm_state
  rw [if_pos (by decide), if_neg (by decide)]
  exact congrArg a (by decide)
theorem fs_26 {a : Nat → Int32} {p q : Int32} : fm_state a p q 26 = a 24 := by
  unfold fm_state
  rw [if_pos (by decide), if_neg (by decide)]
  exact congrArg a (by decide)
theorem fs_27 {a : Nat → Int32} {p q : Int32} : fm_state a p q 27 = a 25 := by
  unfold fm_state
  rw [if_pos (by decide), if_neg (by decide)]
  exact congrArg a (by decide)
theorem fs_28 {a : Nat → Int32} {p q : Int32} : fm_state a p q 28 = a 26 := by
  unfold fm_state
  rw [if_pos (by decide), if_neg (by decide)]
  exact congrArg a (by decide)
theorem fs_29 {a : Nat → Int32} {p q : Int32} : fm_state a p q 29 = a 27 := by
  unfold fm_state
  rw [if_pos (by decide), if_neg (by decide)]
  exact congrArg a (by decide)
theorem fs_30 {a : Nat → Int32} {p q : Int32} : fm_state a p q 30 = a 28 := by
  unfold fm_state
  rw [if_pos (by decide), if_neg (by decide)]
  exact congrArg a (by decide)
theorem fs_lv {a : Nat → Int32} {p q : Int32} {j : Nat} (h : j < 5) : fm_state a p q (nI (8 + j)) = a (29 + j) := by
  rcases (show j = 0 ∨ j = 1 ∨ j = 2 ∨ j = 3 ∨ j = 4 by omega) with rfl | rfl | rfl | rfl | rfl <;> (unfold fm_state; rw [if_neg (by decide)]; exact congrArg a (by decide))
theorem fk_0 {c : Nat} {a : Nat → Int32} {s : Nat → Int64} : fm_compass c a s 0 = a 4 := by
  unfold fm_compass
  rw [if_pos (by decide)]
theorem fk_1 {c : Nat} {a : Nat → Int32} {s : Nat → Int64} : fm_compass c a s 1 = a 5 := by
  unfold fm_compass
  rw [if_neg (by decide), if_pos (by decide)]
theorem fk_2 {c : Nat} {a : Nat → Int32} {s : Nat → Int64} : fm_compass c a s 2 = fm_rest a := by
  unfold fm_compass
  rw [if_neg (by decide), if_neg (by decide), if_pos (by decide)]
theorem fk_3 {c : Nat} {a : Nat → Int32} {s : Nat → Int64} : fm_compass c a s 3 = a 12 := by
  unfold fm_compass
  rw [if_neg (by decide), if_neg (by decide), if_neg (by decide), if_pos (by decide)]
theorem fk_4 {c : Nat} {a : Nat → Int32} {s : Nat → Int64} : fm_compass c a s 4 = (if 3 ≤ a 13 then fm_settled a else -1000000006) := by
  unfold fm_compass
  rw [if_neg (by decide), if_neg (by decide), if_neg (by decide), if_neg (by decide), if_pos (by decide)]
theorem fk_5 {c : Nat} {a : Nat → Int32} {s : Nat → Int64} : fm_compass c a s 5 = (if 3 ≤ a 13 then fm_mean a s else -1000000006) := by
  unfold fm_compass
  rw [if_neg (by decide), if_neg (by decide), if_neg (by decide), if_neg (by decide), if_neg (by decide), if_pos (by decide)]
theorem fk_6 {c : Nat} {a : Nat → Int32} {s : Nat → Int64} : fm_compass c a s 6 = (if 2 ≤ a 13 then a 58 - a 60 else -1000000006) := by
  unfold fm_compass
  rw [if_neg (by decide), if_neg (by decide), if_neg (by decide), if_neg (by decide), if_neg (by decide), if_neg (by decide), if_pos (by decide)]
theorem fk_7 {c : Nat} {a : Nat → Int32} {s : Nat → Int64} : fm_compass c a s 7 = fm_csum a c := by
  unfold fm_compass
  rw [if_neg (by decide), if_neg (by decide), if_neg (by decide), if_neg (by decide), if_neg (by decide), if_neg (by decide), if_neg (by decide), if_pos (by decide)]
theorem fk_8 {c : Nat} {a : Nat → Int32} {s : Nat → Int64} : fm_compass c a s 8 = a 0 := by
  unfold fm_compass
  rw [if_neg (by decide), if_neg (by decide), if_neg (by decide), if_neg (by decide), if_neg (by decide), if_neg (by decide), if_neg (by decide), if_neg (by decide), if_pos (by decide)]
theorem fk_9 {c : Nat} {a : Nat → Int32} {s : Nat → Int64} : fm_compass c a s 9 = a 6 := by
  unfold fm_compass
  rw [if_neg (by decide), if_neg (by decide), if_neg (by decide), if_neg (by decide), if_neg (by decide), if_neg (by decide), if_neg (by decide), if_neg (by decide), if_neg (by decide), if_pos (by decide)]
theorem fk_10 {c : Nat} {a : Nat → Int32} {s : Nat → Int64} : fm_compass c a s 10 = a 18 := by
  unfold fm_compass
  rw [if_neg (by decide), if_neg (by decide), if_neg (by decide), if_neg (by decide), if_neg (by decide), if_neg (by decide), if_neg (by decide), if_neg (by decide), if_neg (by decide), if_neg (by decide), if_pos (by decide)]
