/-! what the other side's minutes rest on holds for ever; the beginning -/
def MX (a : Nat → Int32) : Prop := (∃ v : vX5, rShip v a) ∧ okN (a 13) ∧ (0 ≤ (a 8).toInt ∧ (a 8).toInt ≤ 4) ∧ zB 70 (a 6)
theorem MX_MI {a : Nat → Int32} (h : MX a) : MI a := by
  obtain ⟨⟨v, ⟨l1, l2, l3⟩, ⟨-, q2⟩, ⟨-, q3⟩, -⟩, h2, h3, h4⟩ := h
  exact ⟨⟨q2, h4, q3⟩, h2, h3, l2⟩
theorem RS_MX {T : Int} {S : vX7} {a : Nat → Int32} {s : Nat → Int64} (h : RS T S a s) : MX a := ⟨⟨S.2.1, h.2.1⟩, h.2.2.2.1.2.1, h.2.2.1.2.2.2.2.2.1.2, h.2.2.1.2.2.2.1.2⟩
theorem MX_lv {a : Nat → Int32} (h : MX a) {x : Int32} (hx : 0 ≤ x.toInt ∧ x.toInt ≤ 4) : MX (upd a 8 x) := by
  obtain ⟨⟨v, hv⟩, h2, h3, h4⟩ := h
  refine ⟨⟨v, rShip_c hv (fun i hi => upd_ne (by omega))⟩, ?_, ?_, ?_⟩
  · rw [upd_ne (by decide)]; exact h2
  · rw [upd_eq]; exact hx
  · rw [upd_ne (by decide)]; exact h4
theorem W2_13 {a : Nat → Int32} {s : Nat → Int64} (h : okN (a 13)) : okN ((fm_W2 a s).1 13) := by
  have e13 : fm_A2 a 13 = a 13 := A2_ne (by decide) (by decide) (by decide) (by decide)
  unfold fm_W2 fm_mm2
  dsimp only
  by_cases c : fm_A2 a 4 = a 4
  · rw [if_pos c]
    show okN (fm_A2 a 13)
    rw [e13]; exact h
  · rw [if_neg c]
    by_cases c2 : fm_A2 a 12 = -fm_dir (fm_A2 a 4) (a 4)
    · rw [if_pos c2]
      show okN (upd (fm_addTurn (nT (a 13)) (fm_A2 a, s, fr0) (a 4)).1 12 (fm_dir (fm_A2 a 4) (a 4)) 13)
      rw [upd_ne (by decide)]
      show okN (fm_tn2 (nT (a 13)) (fm_tn1 (nT (a 13)) (fm_A2 a) (a 4)) 13)
      rw [tn_13]
      have : (if nT (a 13) < 8 then nT (a 13) else 7) ≤ 7 := by split <;> omega
      unfold okN
      rw [nI_toInt (by omega)]; omega
    · rw [if_neg c2]
      show okN (upd (fm_A2 a) 12 (fm_dir (fm_A2 a 4) (a 4)) 13)
      rw [upd_ne (by decide), e13]; exact h
theorem MX_min {a : Nat → Int32} {s : Nat → Int64} (h : MX a) : MX (fm_min (a, s)).1 := by
  rw [min_eq]
  obtain ⟨⟨v, hv⟩, h2, h3, h4⟩ := h
  have v8 : nT (a 8) ≤ 4 := nT_le h3.2
  have n8 : nT (a 3) ≤ 8 := (ok13 hv.1.2.1).1
  have eD : ∀ i, i ≠ 2 → i ≠ 3 → (i < 34 ∨ 58 ≤ i) → fm_D (nT (a 3)) (fm_C a s) i = fm_C a s i := fun i a1 a2 a3 => D_ne n8 a1 a2 a3
  refine ⟨⟨_, sail_eq hv (C_0 v8) (C_1 v8) (C_2 v8) (C_a v8 (by omega)) (C_11 v8) (fun i p q => C_a v8 (by omega))⟩, ?_, ?_, ?_⟩
  · show okN (fm_D (nT (a 3)) (fm_C a s) 13)
    rw [eD 13 (by decide) (by decide) (by decide), C_ne v8 (by decide) (by decide) (by decide) (by decide)]
    exact W2_13 h2
  · show 0 ≤ (fm_D (nT (a 3)) (fm_C a s) 8).toInt ∧ (fm_D (nT (a 3)) (fm_C a s) 8).toInt ≤ 4
    rw [eD 8 (by decide) (by decide) (by decide), C_a v8 (by omega)]; exact h3
  · show zB 70 (fm_D (nT (a 3)) (fm_C a s) 6)
    rw [eD 6 (by decide) (by decide) (by decide), C_a v8 (by omega)]; exact h4
theorem MX_it {a : Nat → Int32} {s : Nat → Int64} (h : MX a) : ∀ k, MX (fm_it k (a, s)).1
  | 0 => h
  | k + 1 => MX_min (s := (fm_it k (a, s)).2) (MX_it h k)
/-- the beginning -/
theorem rSet_0 : rSet z_first zi_at := by
  intro i hi
  have hi' : i = 0 ∨ i = 1 ∨ i = 2 ∨ i = 3 ∨ i = 4 ∨ i = 5 ∨ i = 6 ∨ i = 7 ∨ i = 8 := by omega
  rcases hi' with rfl | rfl | rfl | rfl | rfl | rfl | rfl | rfl | rfl <;> decide
theorem RS_0 : RS 100000 zi_X7 zi_at (fun _ => 0) := by
  have n3 : nT (zi_at 3) = 0 := by decide
  have n13 : nT (zi_at 13) = 0 := by decide
  have n19 : nT (zi_at 19) = 0 := by decide
  have n15 : nT (zi_at 15) = 0 := by decide
  refine ⟨rSet_0, ⟨⟨by decide, ⟨by decide, by decide⟩, fun j hj => ?_⟩, ⟨by decide, ⟨by decide, by decide⟩⟩, ⟨by decide, ⟨by decide, by decide⟩⟩, ⟨by decide, ⟨by decide, by decide⟩⟩, by decide⟩, ⟨fun j hj => ?_, ⟨by decide, ⟨by decide, by decide⟩⟩, ⟨by decide, ⟨by decide, by decide⟩⟩, ⟨by decide, ⟨by decide, by decide⟩⟩, ⟨by decide, ⟨by decide, by decide⟩⟩, ⟨by decide, by decide, by decide⟩, Or.inl ⟨rfl, by decide⟩⟩, ⟨by decide, ⟨by decide, by decide⟩, fun j hj => ?_, ⟨rfl, by decide, by decide⟩, by decide, by decide⟩, ⟨by decide, ⟨by decide, by decide⟩, fun j hj => ?_, by decide, ⟨by decide, by decide⟩, fun j hj => ?_, by decide⟩, ⟨by decide, by decide, by decide⟩, by decide, by decide⟩
  · rw [n3] at hj; exact absurd hj (Nat.not_lt_zero j)
  · have hj' : j = 0 ∨ j = 1 ∨ j = 2 ∨ j = 3 ∨ j = 4 := by omega
    rcases hj' with rfl | rfl | rfl | rfl | rfl <;> decide
  · rw [n13] at hj; exact absurd hj (Nat.not_lt_zero j)
  · rw [n19] at hj; exact absurd hj (Nat.not_lt_zero j)
  · rw [n15] at hj; exact absurd hj (Nat.not_lt_zero j)
def zi_T : vTv := (zi_X7, zi_X7, ((fun _ => none), 0, 0), (fun _ => none), zi_X4)
theorem Rel_0 : Rel zi_T zi_X10 := by
  refine ⟨RS_0, ⟨0, rfl, by decide, by decide, rfl, fun i hi => absurd hi (Nat.not_lt_zero i)⟩, fun q hq => Or.inl ⟨rfl, rfl⟩, rfl, (show 0 ≤ (0 : Int32).toInt ∧ (0 : Int32).toInt ≤ 80 from ⟨by decide, by decide⟩), fun j hj => absurd hj (Nat.not_lt_zero j), fun k hk => ?_⟩
  show narrow .char (.int (0 : Int32)) = .int (0 : Int32)
  decide
