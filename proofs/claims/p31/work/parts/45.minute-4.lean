/-! a minute keeps both sides the same -/
theorem wr_in {n k : Nat} {f : Nat → Int64} {x : Int64} (hk : k < n) (hn : n < 2 ^ 31) : zf_write n f (nI k) x = vp_updL f k x := by
  unfold zf_write
  rw [if_neg (nI_pos (by omega)), if_neg (nI_ge hk hn), nI_clamp (by omega)]
theorem min_RS {T : Int} {S : vX7} {a : Nat → Int32} {s : Nat → Int64} (h : RS T S a s) (hT : T ≤ 1000000) : RS (T + 1) (zf_m1 S) (fm_min (a, s)).1 (fm_min (a, s)).2 := by
  rw [min_eq]
  dsimp only
  have hsw := swing_eq h
  have hfo := fun b => follow_eq (b := b) h hT
  obtain ⟨h1, h2, h3, h4, h5, ⟨t1, t2, t3⟩, h7, h8⟩ := h
  obtain ⟨g0, -, -, g3, g4, ⟨v1, v2, v3⟩, gd⟩ := h3
  have v8 : nT (a 8) ≤ 4 := nT_le v3
  have en8 : a 8 = nI (nT (a 8)) := nT_eq v2
  have n8 : nT (a 3) ≤ 8 := (ok13 h2.1.2.1).1
  have ek : nT S.2.1.1.2.2.2 = nT (a 3) := by rw [h2.1.1]
  have eD : ∀ i, i ≠ 2 → i ≠ 3 → (i < 34 ∨ 58 ≤ i) → fm_D (nT (a 3)) (fm_C a s) i = fm_C a s i := fun i a1 a2 a3 => D_ne n8 a1 a2 a3
  have eDa : ∀ i, (6 ≤ i ∧ i < 10) ∨ (15 ≤ i ∧ i < 29) ∨ 74 ≤ i → fm_D (nT (a 3)) (fm_C a s) i = a i := fun i hi => by
    rw [eD i (by omega) (by omega) (by omega), C_a v8 (by omega)]
  have e10 : fm_D (nT (a 3)) (fm_C a s) 10 = a 10 + 1 := by rw [eD 10 (by decide) (by decide) (by decide), C_10 v8]
  have z1 : (1 : Int32).toInt = 1 := by decide
  have t10 : (a 10 + 1).toInt = (a 10).toInt + 1 := by rw [zi_add (by omega) (by omega), z1]
  have eA : ∀ i, i = 4 ∨ i = 5 → fm_D (nT (a 3)) (fm_C a s) i = fm_A2 a i := fun i hi => by
    rw [eD i (by omega) (by omega) (by omega), C_ne v8 (by omega) (by omega) (by omega) (by omega), W2_ne (by omega)]
  show RS (T + 1) (S.1, zf_sail (nT S.2.1.1.2.2.2) S.2.1, (zf_write 5 S.2.2.1.1 S.2.2.1.2.2.2.2.2.1 (zf_at 5 S.2.2.1.1 S.2.2.1.2.2.2.2.2.1 + 1), (zf_g S).2), zf_follow S.2.2.2.1 S.2.2.1.2.1 (zf_g S).2.1 S.2.2.2.2.2.1, S.2.2.2.2.1, S.2.2.2.2.2.1 + 1, S.2.2.2.2.2.2) _ _
  refine ⟨rSet_c h1 (fun i p q => eDa i (by omega)), ?_, ?_, ?_, rSi_c h5 (fun i hi => ?_), ?_, by rw [eDa 17 (by omega)]; exact h7, by rw [eDa 18 (by omega)]; exact h8⟩
  · rw [ek]
    exact sail_eq h2 (C_0 v8) (C_1 v8) (C_2 v8) (C_a v8 (by omega)) (C_11 v8) (fun i p q => C_a v8 (by omega))
  · refine ⟨fun j hj => ?_, by rw [eA 4 (by omega)]; exact hsw.1, by rw [eA 5 (by omega)]; exact hsw.2, by rw [eDa 6 (by omega)]; exact g3, by rw [eDa 7 (by omega)]; exact g4, by rw [eDa 8 (by omega)]; exact ⟨v1, v2, v3⟩, ?_⟩
    · show (zf_write 5 S.2.2.1.1 S.2.2.1.2.2.2.2.2.1 (zf_at 5 S.2.2.1.1 S.2.2.1.2.2.2.2.2.1 + 1) j).toInt32 = _
      rw [eD (29 + j) (by omega) (by omega) (by omega), C_29 v8 hj, v1, en8, wr_in (by omega) (by decide), z_at_in (by omega) (by decide), nT_nI (by omega)]
      by_cases c : j = nT (a 8)
      · rw [if_pos c, ← c, updL_eq, Int64.toInt32_add, g0 j hj]; rfl
      · rw [if_neg c, updL_ne c]; exact g0 j hj
    · unfold rDmp
      rw [eDa 9 (by omega), e10, t10]
      rcases gd with ⟨d1, d2⟩ | ⟨d1, d2, d3⟩
      · exact Or.inl ⟨d1, d2⟩
      · exact Or.inr ⟨d1, d2, by omega⟩
  · exact hfo _ e10 (fun i hi => by rw [eD i (by omega) (by omega) (by omega), C_ne v8 (by omega) (by omega) (by omega) (by omega)])
  · by_cases c : i < 20
    · exact eDa i (by omega)
    · rw [eD i (by omega) (by omega) (by omega), C_a v8 (by omega)]
  · unfold rTm
    rw [e10, t10]
    refine ⟨?_, by omega, by omega⟩
    show S.2.2.2.2.2.1 + 1 = _
    rw [t1, zx_add (by omega) (by omega)]; rfl
theorem it_RS {S : vX7} {a : Nat → Int32} {s : Nat → Int64} {T : Int} (h : RS T S a s) : ∀ (k : Nat), T + k ≤ 1000000 → RS (T + k) (zf_it k S) (fm_it k (a, s)).1 (fm_it k (a, s)).2
  | 0, _ => by
    have e : T + ((0 : Nat) : Int) = T := by omega
    rw [e]; exact h
  | k + 1, hk => by
    have h1 := min_RS (it_RS h k (by omega)) (by omega)
    have e : T + ((k + 1 : Nat) : Int) = T + (k : Int) + 1 := by omega
    rw [e]; exact h1
theorem RS_le {T T' : Int} {S : vX7} {a : Nat → Int32} {s : Nat → Int64} (h : RS T S a s) (hT : T ≤ T') : RS T' S a s := by
  obtain ⟨h1, h2, h3, h4, h5, ⟨t1, t2, t3⟩, h7, h8⟩ := h
  exact ⟨h1, h2, h3, h4, h5, ⟨t1, t2, by omega⟩, h7, h8⟩
theorem RS_T {T T' : Int} {S : vX7} {a : Nat → Int32} {s : Nat → Int64} (h : RS T S a s) (hT : (a 10).toInt ≤ T') : RS T' S a s := by
  obtain ⟨h1, h2, h3, h4, h5, ⟨t1, t2, t3⟩, h7, h8⟩ := h
  exact ⟨h1, h2, h3, h4, h5, ⟨t1, t2, hT⟩, h7, h8⟩
theorem RS_MI {T : Int} {S : vX7} {a : Nat → Int32} {s : Nat → Int64} (h : RS T S a s) : MI a := by
  obtain ⟨h1, h2, h3, h4, h5, ⟨t1, t2, t3⟩, h7, h8⟩ := h
  exact ⟨⟨h2.2.1.2, h3.2.2.2.1.2, h2.2.2.1.2⟩, h4.2.1, h3.2.2.2.2.2.1.2, h2.1.2.1⟩
theorem RS_okC {T : Int} {S : vX7} {a : Nat → Int32} {s : Nat → Int64} (h : RS T S a s) : okC S := by
  have h2 := h.2.1.1
  show okN S.2.1.1.2.2.2
  rw [h2.1]; exact h2.2.1
theorem RS_okT {T : Int} {S : vX7} {a : Nat → Int32} {s : Nat → Int64} (h : RS T S a s) (hT : T ≤ 1000000) : okT a := by
  intro h3
  obtain ⟨-, -, -, ⟨-, ok, hr, -⟩, -, ⟨-, -, t3⟩, -⟩ := h
  have z3 : (3 : Int32).toInt = 3 := by decide
  have h3' := Int32.le_iff_toInt_le.mp h3
  have hn : 3 ≤ nT (a 13) := by unfold nT; omega
  obtain ⟨-, -, -, -, p5, p6, -⟩ := hr 0 (by omega)
  obtain ⟨-, -, -, -, q5, q6, -⟩ := hr 1 (by omega)
  obtain ⟨-, -, -, -, r5, r6, -⟩ := hr 2 (by omega)
  have p6' : tm a 1 < tm a 0 := p6
  have q6' : tm a 2 < tm a 1 := q6
  have r6' : tm a 3 < tm a 2 := r6
  have r5' : 0 ≤ tm a 3 := r5
  have e1 : tm a 1 = (a 59).toInt := rfl
  have e3 : tm a 3 = (a 63).toInt := rfl
  have e0 : tm a 0 = (a 10).toInt := rfl
  intro e
  have e' := congrArg Int64.toInt e
  have z0 : (0 : Int64).toInt = 0 := by decide
  rw [Int32.toInt_toInt64, zi_sub (by omega) (by omega), z0] at e'
  omega
