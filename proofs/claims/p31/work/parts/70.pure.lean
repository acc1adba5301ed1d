/-! a minute: what the law holds against it -/
theorem cl_eq {X j : Int64} {m : Int32} {M N : Int64} (hM : m.toInt64 = M) (hN : (-m).toInt64 = N) (h : (X ≤ M ∧ N ≤ X ∧ j = X) ∨ (X ≤ M ∧ (¬ (N ≤ X)) ∧ j = N) ∨ ((¬ (X ≤ M)) ∧ j = M)) : j = (fm_lim X m).toInt64 := by
  have bm : M.toInt = m.toInt := by rw [← hM]; exact Int32.toInt_toInt64 m
  have bn : N.toInt = (-m).toInt := by rw [← hN]; exact Int32.toInt_toInt64 (-m)
  have m32 := z32 (x := m)
  have n32 := z32 (x := -m)
  unfold fm_lim
  rw [hM, hN]
  rcases h with ⟨h1, h2, rfl⟩ | ⟨h1, h2, rfl⟩ | ⟨h1, rfl⟩
  · have i1 := Int64.le_iff_toInt_le.mp h1
    have i2 := Int64.le_iff_toInt_le.mp h2
    rw [if_pos h1, if_pos h2, zx_32 (by omega)]
  · rw [if_pos h1, if_neg h2, zx_32 (by omega)]
  · rw [if_neg h1, zx_32 (by omega)]
section
variable {t : vTv} {w : vX10} {b : Nat → Int32}
abbrev MB (w : vX10) (b : Nat → Int32) : Prop := b = fm_D (nT (w.1 3)) (fm_C w.1 w.2.1)
theorem rel_8 (hR : Rel t w) : w.1 8 = nI (nT (w.1 8)) ∧ nT (w.1 8) ≤ 4 := by
  have g := (RS_MX hR.1).2.2.1
  exact ⟨nT_eq g.1, nT_le g.2⟩
theorem mi_pass (hR : Rel t w) {n : Nat} (hI : IV n w) (hn : n < 90000) : fm_pass (pmN w) w 1 = ((fm_min (w.1, w.2.1)).1 14 - w.1 14, ((fm_min (w.1, w.2.1)).1, (fm_min (w.1, w.2.1)).2, (fm_keep (pmN w) w).2.2)) := by
  have z : (1 : Int32).toInt = 1 := by decide
  have h0 : 0 ≤ (w.1 10).toInt := hR.1.2.2.2.2.2.1.2.1
  have h1 := hI.1
  have e : (w.1 10 + 1).toInt = (w.1 10).toInt + 1 := by rw [zi_add (by omega) (by omega), z]
  have z2 : (100000 : Int32).toInt = 100000 := by decide
  unfold fm_pass
  rw [if_neg (by decide), if_pos (Int32.le_iff_toInt_le.mpr (by omega))]
  rfl
theorem mi_B (hR : Rel t w) {n : Nat} (hI : IV n w) (hn : n < 90000) {v : vX10} (h : v = (fm_pass (pmN w) w 1).2) : MB w v.1 := by
  rw [h, mi_pass hR hI hn, min_eq]
theorem mi_r (hR : Rel t w) {n : Nat} (hI : IV n w) (hn : n < 90000) {v : vX10} (h : v = (fm_pass (pmN w) w 1).2) {r : Int32} (hr : r = (fm_pass (pmN w) w 1).1) : r = v.1 14 - w.1 14 := by
  rw [hr, h, mi_pass hR hI hn]
theorem mb_D (hR : Rel t w) (hB : MB w b) {i : Nat} (h2 : i ≠ 2) (h3 : i ≠ 3) (h : i < 34 ∨ 58 ≤ i) : b i = fm_C w.1 w.2.1 i := by
  rw [hB]
  exact D_ne (rel_legs hR).2 h2 h3 h
theorem mb_W (hR : Rel t w) (hB : MB w b) {i : Nat} (h : i ≠ 0) (h2 : i ≠ 2) (h3 : i ≠ 3) (h10 : i ≠ 10) (h11 : i ≠ 11) (h29 : i < 29 ∨ 58 ≤ i) : b i = (fm_W2 w.1 w.2.1).1 i := by
  rw [mb_D hR hB h2 h3 (by omega)]
  exact C_ne (rel_8 hR).2 h h10 h11 (by omega)
theorem mb_a (hR : Rel t w) (hB : MB w b) {i : Nat} (h : (6 ≤ i ∧ i < 10) ∨ (15 ≤ i ∧ i < 29) ∨ 74 ≤ i) : b i = w.1 i := by
  rw [mb_D hR hB (by omega) (by omega) (by omega)]
  exact C_a (rel_8 hR).2 (by omega)
theorem mb_45 (hR : Rel t w) (hB : MB w b) : b 4 = fm_A2 w.1 4 ∧ b 5 = fm_A2 w.1 5 := by
  refine ⟨?_, ?_⟩
  · rw [mb_W hR hB (by decide) (by decide) (by decide) (by decide) (by decide) (by decide)]; exact W2_ne (by decide)
  · rw [mb_W hR hB (by decide) (by decide) (by decide) (by decide) (by decide) (by decide)]; exact W2_ne (by decide)
theorem mi_cos (hR : Rel t w) : fm_wave (fm_size (w.1 0) / 10000) 1 = fm_cosine (fm_cof (w.1 0)) := by
  have hl : zlR (w.1 0) := (rel_okR hR).1
  have hc : zcR (fm_cof (w.1 0)) := z_cofC hl
  unfold fm_wave
  show (if fm_in (fm_cof (w.1 0)) 0 35999 = 0 then _ else _) = _
  rw [if_neg (in_c2 hc), if_neg (by decide), if_neg (by decide)]
  rfl
theorem mi_dmp {x d : Int32} {k : Nat} (hk : x = nI k) (h4 : k ≤ 4) (h : ((¬ (x = 0)) ∧ d = ((10 : Int32) <<< ((x - (1 : Int32)) &&& 31))) ∨ ((x = 0) ∧ d = (0 : Int32))) : d.toInt64 = (if x.toInt64 = 0 then (0 : Int64) else (10 : Int64) <<< ((x - 1).toInt64 &&& 63)) := by
  subst hk
  rcases (show k = 0 ∨ k = 1 ∨ k = 2 ∨ k = 3 ∨ k = 4 by omega) with rfl | rfl | rfl | rfl | rfl <;> rcases h with ⟨h1, rfl⟩ | ⟨h1, rfl⟩ <;> first | decide | (exact absurd h1 (by decide))
theorem mi_tilt (hR : Rel t w) (hB : MB w b) {d : Int32} {j : Int64} (hd : ((¬ (w.1 8 = 0)) ∧ d = ((10 : Int32) <<< ((w.1 8 - (1 : Int32)) &&& 31))) ∨ ((w.1 8 = 0) ∧ d = (0 : Int32)))
    (hj : ((((w.1 5).toInt64 - (b 20).toInt64 * (w.1 4 - fm_rest w.1).toInt64 / 1000 * (fm_wave (fm_size (w.1 0) / 10000) 1).toInt64 / 1000000) - ((w.1 5).toInt64 - (b 20).toInt64 * (w.1 4 - fm_rest w.1).toInt64 / 1000 * (fm_wave (fm_size (w.1 0) / 10000) 1).toInt64 / 1000000) * d.toInt64 / 1000 ≤ 900000) ∧ (-900000 ≤ ((w.1 5).toInt64 - (b 20).toInt64 * (w.1 4 - fm_rest w.1).toInt64 / 1000 * (fm_wave (fm_size (w.1 0) / 10000) 1).toInt64 / 1000000) - ((w.1 5).toInt64 - (b 20).toInt64 * (w.1 4 - fm_rest w.1).toInt64 / 1000 * (fm_wave (fm_size (w.1 0) / 10000) 1).toInt64 / 1000000) * d.toInt64 / 1000) ∧ j = ((w.1 5).toInt64 - (b 20).toInt64 * (w.1 4 - fm_rest w.1).toInt64 / 1000 * (fm_wave (fm_size (w.1 0) / 10000) 1).toInt64 / 1000000) - ((w.1 5).toInt64 - (b 20).toInt64 * (w.1 4 - fm_rest w.1).toInt64 / 1000 * (fm_wave (fm_size (w.1 0) / 10000) 1).toInt64 / 1000000) * d.toInt64 / 1000)
      ∨ ((((w.1 5).toInt64 - (b 20).toInt64 * (w.1 4 - fm_rest w.1).toInt64 / 1000 * (fm_wave (fm_size (w.1 0) / 10000) 1).toInt64 / 1000000) - ((w.1 5).toInt64 - (b 20).toInt64 * (w.1 4 - fm_rest w.1).toInt64 / 1000 * (fm_wave (fm_size (w.1 0) / 10000) 1).toInt64 / 1000000) * d.toInt64 / 1000 ≤ 900000) ∧ (¬ (-900000 ≤ ((w.1 5).toInt64 - (b 20).toInt64 * (w.1 4 - fm_rest w.1).toInt64 / 1000 * (fm_wave (fm_size (w.1 0) / 10000) 1).toInt64 / 1000000) - ((w.1 5).toInt64 - (b 20).toInt64 * (w.1 4 - fm_rest w.1).toInt64 / 1000 * (fm_wave (fm_size (w.1 0) / 10000) 1).toInt64 / 1000000) * d.toInt64 / 1000)) ∧ j = -900000)
      ∨ ((¬ (((w.1 5).toInt64 - (b 20).toInt64 * (w.1 4 - fm_rest w.1).toInt64 / 1000 * (fm_wave (fm_size (w.1 0) / 10000) 1).toInt64 / 1000000) - ((w.1 5).toInt64 - (b 20).toInt64 * (w.1 4 - fm_rest w.1).toInt64 / 1000 * (fm_wave (fm_size (w.1 0) / 10000) 1).toInt64 / 1000000) * d.toInt64 / 1000 ≤ 900000)) ∧ j = 900000)) : j = (fm_A2 w.1 5).toInt64 := by
  have e := cl_eq (m := 900000) (M := 900000) (N := -900000) (by decide) (by decide) hj
  rw [e, mi_cos hR, mb_a hR hB (i := 20) (by decide), mi_dmp (rel_8 hR).1 (rel_8 hR).2 hd]
  have em : fm_A2 w.1 5 = fm_lim (fm_tilt (fm_mm1 w.1) - fm_tilt (fm_mm1 w.1) * fm_damp1 (fm_mm1 w.1) / 1000) 900000 := by
    unfold fm_A2 fm_sw2
    rw [upd_ne (by decide)]
    unfold fm_sw1
    rw [upd_eq]
  have et : fm_tilt (fm_mm1 w.1) = (w.1 5).toInt64 - (w.1 20).toInt64 * (w.1 4 - fm_rest w.1).toInt64 / 1000 * (fm_cosine (fm_cof (w.1 0))).toInt64 / 1000000 := by
    unfold fm_tilt
    rw [mm1_rest, mm1_ne (by decide) (by decide), mm1_ne (i := 20 + 0) (by decide) (by decide), mm1_ne (i := 4) (by decide) (by decide), mm1_ne (i := 0) (by decide) (by decide)]
    rfl
  have ed : fm_damp1 (fm_mm1 w.1) = (if (w.1 8).toInt64 = 0 then (0 : Int64) else (10 : Int64) <<< ((w.1 8 - 1).toInt64 &&& 63)) := by
    unfold fm_damp1
    rw [mm1_ne (by decide) (by decide)]
  rw [em, et, ed]
theorem mi_err (hR : Rel t w) (hB : MB w b) {j : Int64}
    (hj : (((w.1 4).toInt64 + (b 21).toInt64 * (fm_A2 w.1 5).toInt64 / 1000 ≤ 1800000) ∧ (-1800000 ≤ (w.1 4).toInt64 + (b 21).toInt64 * (fm_A2 w.1 5).toInt64 / 1000) ∧ j = (w.1 4).toInt64 + (b 21).toInt64 * (fm_A2 w.1 5).toInt64 / 1000)
      ∨ (((w.1 4).toInt64 + (b 21).toInt64 * (fm_A2 w.1 5).toInt64 / 1000 ≤ 1800000) ∧ (¬ (-1800000 ≤ (w.1 4).toInt64 + (b 21).toInt64 * (fm_A2 w.1 5).toInt64 / 1000)) ∧ j = -1800000)
      ∨ ((¬ ((w.1 4).toInt64 + (b 21).toInt64 * (fm_A2 w.1 5).toInt64 / 1000 ≤ 1800000)) ∧ j = 1800000)) : j = (fm_A2 w.1 4).toInt64 := by
  have e := cl_eq (m := 1800000) (M := 1800000) (N := -1800000) (by decide) (by decide) hj
  rw [e, mb_a hR hB (i := 21) (by decide)]
  have e5 : fm_A2 w.1 5 = fm_sw1 (fm_mm1 w.1) 5 := by
    unfold fm_A2 fm_sw2
    rw [upd_ne (by decide)]
  have e4 : fm_A2 w.1 4 = fm_lim ((fm_sw1 (fm_mm1 w.1) 4).toInt64 + (fm_sw1 (fm_mm1 w.1) (20 + 1)).toInt64 * (fm_sw1 (fm_mm1 w.1) 5).toInt64 / 1000) 1800000 := by
    unfold fm_A2 fm_sw2
    rw [upd_eq]
  have q4 : fm_sw1 (fm_mm1 w.1) 4 = w.1 4 := by unfold fm_sw1; rw [upd_ne (by decide), mm1_ne (by decide) (by decide)]
  have q21 : fm_sw1 (fm_mm1 w.1) (20 + 1) = w.1 21 := by unfold fm_sw1; rw [upd_ne (by decide), mm1_ne (by decide) (by decide)]
  rw [e4, q4, q21, e5]
/-- which way the error goes -/
theorem mi_goes {E a g : Int32} (h : ((E.toInt64 ≤ a.toInt64) ∧ (a.toInt64 ≤ E.toInt64) ∧ g = (0 : Int32)) ∨ ((E.toInt64 ≤ a.toInt64) ∧ (¬ (a.toInt64 ≤ E.toInt64)) ∧ g = (-1 : Int32)) ∨ ((¬ (E.toInt64 ≤ a.toInt64)) ∧ g = (1 : Int32))) : (E = a ∧ g = 0) ∨ (E ≠ a ∧ g = fm_dir E a ∧ g ≠ 0) := by
  rw [zx_le, zx_le] at h
  rcases h with ⟨h1, h2, rfl⟩ | ⟨h1, h2, rfl⟩ | ⟨h1, rfl⟩
  · exact Or.inl ⟨Int32.le_antisymm h1 h2, rfl⟩
  · refine Or.inr ⟨fun e => h2 (by rw [e]; exact Int32.le_refl _), ?_, by decide⟩
    unfold fm_dir; rw [if_pos h1]
  · refine Or.inr ⟨fun e => h1 (by rw [e]; exact Int32.le_refl _), ?_, by decide⟩
    unfold fm_dir; rw [if_neg h1]
theorem mi_tn (hR : Rel t w) (hB : MB w b) {g T : Int32} (hg : (fm_A2 w.1 4 = w.1 4 ∧ g = 0) ∨ (fm_A2 w.1 4 ≠ w.1 4 ∧ g = fm_dir (fm_A2 w.1 4) (w.1 4) ∧ g ≠ 0)) (hT : ((g = 0) ∧ T = (0 : Int32)) ∨ ((¬ (g = 0)) ∧ (¬ (w.1 12 = (-g))) ∧ T = (0 : Int32)) ∨ ((¬ (g = 0)) ∧ (w.1 12 = (-g)) ∧ T = (1 : Int32))) :
    b 12 = (if g = 0 then w.1 12 else g) ∧ ((T = 0 ∧ b 13 = w.1 13 ∧ b 14 = w.1 14 ∧ ∀ i, 58 ≤ i → i < 74 → b i = w.1 i) ∨ (T = 1 ∧ b 13 = nI ((if nT (w.1 13) < 8 then nT (w.1 13) else 7) + 1) ∧ b 14 = w.1 14 + 1 ∧ b 58 = w.1 4 ∧ b 59 = w.1 10 ∧ (0 < nT (w.1 13) → b 60 = w.1 58))) := by
  have e12 : fm_A2 w.1 12 = w.1 12 := A2_ne (by decide) (by decide) (by decide) (by decide)
  have w12 := mb_W hR hB (i := 12) (by decide) (by decide) (by decide) (by decide) (by decide) (by decide)
  have w13 := mb_W hR hB (i := 13) (by decide) (by decide) (by decide) (by decide) (by decide) (by decide)
  have w14 := mb_W hR hB (i := 14) (by decide) (by decide) (by decide) (by decide) (by decide) (by decide)
  have wr : ∀ i, 58 ≤ i → i < 74 → b i = (fm_W2 w.1 w.2.1).1 i := fun i p q => mb_W hR hB (by omega) (by omega) (by omega) (by omega) (by omega) (by omega)
  have hA : ∀ i, i = 10 ∨ i = 13 ∨ i = 14 ∨ (58 ≤ i ∧ i < 74) → fm_A2 w.1 i = w.1 i := fun i p => A2_ne (by omega) (by omega) (by omega) (by omega)
  rcases hg with ⟨g1, rfl⟩ | ⟨g1, g2, g3⟩
  · -- nothing goes
    have eW : (fm_W2 w.1 w.2.1).1 = fm_A2 w.1 := by
      unfold fm_W2 fm_mm2
      dsimp only
      rw [if_pos g1]
    rw [eW] at w12 w13 w14 wr
    refine ⟨by rw [if_pos rfl, w12, e12], Or.inl ⟨?_, by rw [w13, hA 13 (by omega)], by rw [w14, hA 14 (by omega)], fun i p q => by rw [wr i p q, hA i (by omega)]⟩⟩
    rcases hT with ⟨-, h⟩ | ⟨h, -⟩ | ⟨h, -⟩
    · exact h
    · exact absurd rfl h
    · exact absurd rfl h
  · by_cases c : w.1 12 = -g
    · have eW : (fm_W2 w.1 w.2.1).1 = upd (fm_tn2 (nT (w.1 13)) (fm_tn1 (nT (w.1 13)) (fm_A2 w.1) (w.1 4))) 12 (fm_dir (fm_A2 w.1 4) (w.1 4)) := by
        unfold fm_W2 fm_mm2
        dsimp only
        rw [if_neg g1, if_pos (by rw [e12, ← g2]; exact c)]
        rfl
      have hT1 : T = 1 := by
        rcases hT with ⟨h, -⟩ | ⟨-, h, -⟩ | ⟨-, -, h⟩
        · exact absurd h g3
        · exact absurd c h
        · exact h
      have t8 := (rel_13 hR).2
      rw [eW] at w12 w13 w14
      have w58 := wr 58 (by decide) (by decide)
      have w59 := wr 59 (by decide) (by decide)
      have w60 := wr 60 (by decide) (by decide)
      rw [eW] at w58 w59 w60
      refine ⟨by rw [if_neg g3, w12, upd_eq, g2], Or.inr ⟨hT1, ?_, ?_, ?_, ?_, fun h0 => ?_⟩⟩
      · rw [w13, upd_ne (by decide), tn_13]
      · rw [w14, upd_ne (by decide), tn_14, tn1_ne (by decide), hA 14 (by omega)]
      · rw [w58, upd_ne (by decide), tn_58]
      · rw [w59, upd_ne (by decide), tn_59, tn1_ne (by decide), hA 10 (by omega)]
      · have hr := (tn_row (t := nT (w.1 13)) (b := fm_A2 w.1) (e := w.1 4) (j := 1) (by decide) (by split <;> omega)).1
        rw [w60, upd_ne (by decide), hr, hA 58 (by omega)]
    · have eW : (fm_W2 w.1 w.2.1).1 = upd (fm_A2 w.1) 12 (fm_dir (fm_A2 w.1 4) (w.1 4)) := by
        unfold fm_W2 fm_mm2
        dsimp only
        rw [if_neg g1, if_neg (by rw [e12, ← g2]; exact c)]
      have hT0 : T = 0 := by
        rcases hT with ⟨h, -⟩ | ⟨-, -, h⟩ | ⟨-, h, -⟩
        · exact absurd h g3
        · exact h
        · exact absurd h c
      rw [eW] at w12 w13 w14 wr
      refine ⟨by rw [if_neg g3, w12, upd_eq, g2], Or.inl ⟨hT0, ?_, ?_, fun i p q => ?_⟩⟩
      · rw [w13, upd_ne (by decide), hA 13 (by omega)]
      · rw [w14, upd_ne (by decide), hA 14 (by omega)]
      · rw [wr i p q, upd_ne (by omega), hA i (by omega)]
end
/-- what mi_tn tells of the turning points -/
abbrev MT (w : vX10) (b : Nat → Int32) (T : Int32) : Prop := (T = 0 ∧ b 13 = w.1 13 ∧ b 14 = w.1 14 ∧ ∀ i, 58 ≤ i → i < 74 → b i = w.1 i) ∨ (T = 1 ∧ b 13 = nI ((if nT (w.1 13) < 8 then nT (w.1 13) else 7) + 1) ∧ b 14 = w.1 14 + 1 ∧ b 58 = w.1 4 ∧ b 59 = w.1 10 ∧ (0 < nT (w.1 13) → b 60 = w.1 58))
section
variable {t : vTv} {w : vX10} {b : Nat → Int32} {T j : Int32}
theorem mt_ne (h : MT w b T) (hT : ¬ T = 0) : b 13 = nI ((if nT (w.1 13) < 8 then nT (w.1 13) else 7) + 1) ∧ b 14 = w.1 14 + 1 ∧ b 58 = w.1 4 ∧ b 59 = w.1 10 ∧ (0 < nT (w.1 13) → b 60 = w.1 58) := by
  rcases h with ⟨h, -⟩ | ⟨-, h⟩
  · exact absurd h hT
  · exact h
theorem mt_0 (h : MT w b T) (hT : T = 0) : b 13 = w.1 13 ∧ b 14 = w.1 14 ∧ ∀ i, 58 ≤ i → i < 74 → b i = w.1 i := by
  rcases h with ⟨-, h⟩ | ⟨h, -⟩
  · exact h
  · rw [hT] at h; exact absurd h (by decide)
theorem mi_2 {g d : Int32} (h : b 12 = (if g = 0 then w.1 12 else g)) (hj : ((¬ (g = 0)) ∧ d = g) ∨ ((g = 0) ∧ d = w.1 12)) : b 12 = d := by
  rw [h]
  rcases hj with ⟨h1, rfl⟩ | ⟨h1, rfl⟩
  · rw [if_neg h1]
  · rw [if_pos h1]
theorem mi_3 (h : MT w b T) (hj : ((T = 0) ∧ j = (0 : Int32)) ∨ ((¬ (T = 0)) ∧ j = (1 : Int32))) : b 14 - w.1 14 = j := by
  rcases hj with ⟨h1, rfl⟩ | ⟨h1, rfl⟩
  · rw [(mt_0 h h1).2.1]; exact Int32.sub_self _
  · rw [(mt_ne h h1).2.1, Int32.add_comm]; exact Int32.add_sub_cancel _ _
theorem mi_4 : b 14 = w.1 14 + (b 14 - w.1 14) := by rw [Int32.add_comm]; exact (Int32.sub_add_cancel _ _).symm
theorem mi_25 (hR : Rel t w) (h : MT w b T) (hj : ((T = 0) ∧ j = w.1 13) ∨ ((¬ (T = 0)) ∧ ((8 : Int32) ≤ w.1 13) ∧ j = w.1 13) ∨ ((¬ (T = 0)) ∧ (¬ ((8 : Int32) ≤ w.1 13)) ∧ j = (w.1 13 + (1 : Int32)))) : b 13 = j := by
  obtain ⟨e, h8⟩ := rel_13 hR
  rcases hj with ⟨h1, rfl⟩ | ⟨h1, h2, rfl⟩ | ⟨h1, h2, rfl⟩
  · exact (mt_0 h h1).1
  · rw [(mt_ne h h1).1]
    rw [e] at h2
    have : 8 ≤ nT (w.1 13) := (nI_leI (a := 8) (by decide) (by omega)).mp h2
    rw [if_neg (by omega), e]
    congr 1
    omega
  · rw [(mt_ne h h1).1]
    have : ¬ 8 ≤ nT (w.1 13) := fun q => h2 (by rw [e]; exact nI_le (a := 8) q (by omega))
    rw [if_pos (by omega)]
    rw [e, nT_nI (by omega)]
    exact (nI_1 _).symm
theorem mi_pos (hR : Rel t w) (h : ¬ w.1 13 ≤ 0) : 0 < nT (w.1 13) := by
  obtain ⟨e, h8⟩ := rel_13 hR
  exact Nat.pos_of_ne_zero (fun q => h (by rw [e, q]; decide))
theorem mi_21 (hR : Rel t w) (h : MT w b T) {l : Int32} (hl : ((w.1 13 ≤ 0) ∧ l = (0 : Int32)) ∨ ((¬ (w.1 13 ≤ 0)) ∧ l = ((fm_turn w.1 (0 : Int32) (0 : Int32))))) (h1 : T = 0) (h2 : ¬ w.1 13 ≤ 0) : fm_turn b 0 0 = l := by
  obtain ⟨e, h8⟩ := rel_13 hR
  have hp := mi_pos hR h2
  rcases hl with ⟨q, -⟩ | ⟨-, rfl⟩
  · exact absurd q h2
  · have t0 : fm_turn w.1 0 0 = w.1 58 := turn_n (j := 0) (x := 0) e h8 hp (by omega)
    have t1 : fm_turn b 0 0 = b 58 := turn_n (j := 0) (x := 0) ((mt_0 h h1).1.trans e) h8 hp (by omega)
    rw [t0, t1, (mt_0 h h1).2.2 58 (by decide) (by decide)]
theorem mi_22 (hR : Rel t w) (h : MT w b T) (h1 : ¬ T = 0) : fm_turn b 0 0 = w.1 4 := by
  have h8 := (rel_13 hR).2
  have t1 : fm_turn b 0 0 = b 58 := turn_n (j := 0) (x := 0) (mt_ne h h1).1 (by split <;> omega) (by omega) (by omega)
  rw [t1, (mt_ne h h1).2.2.1]
theorem mi_23 (hR : Rel t w) (h : MT w b T) (h1 : ¬ T = 0) : fm_turn b 0 1 = w.1 10 := by
  have h8 := (rel_13 hR).2
  have t1 : fm_turn b 0 1 = b 59 := turn_n (j := 0) (x := 1) (mt_ne h h1).1 (by split <;> omega) (by omega) (by omega)
  rw [t1, (mt_ne h h1).2.2.2.1]
theorem mi_24 (hR : Rel t w) (h : MT w b T) {l : Int32} (hl : ((w.1 13 ≤ 0) ∧ l = (0 : Int32)) ∨ ((¬ (w.1 13 ≤ 0)) ∧ l = ((fm_turn w.1 (0 : Int32) (0 : Int32))))) (h1 : ¬ T = 0) (h2 : ¬ w.1 13 ≤ 0) : fm_turn b 1 0 = l := by
  obtain ⟨e, h8⟩ := rel_13 hR
  have hp := mi_pos hR h2
  rcases hl with ⟨q, -⟩ | ⟨-, rfl⟩
  · exact absurd q h2
  · have t0 : fm_turn w.1 0 0 = w.1 58 := turn_n (j := 0) (x := 0) e h8 hp (by omega)
    have t1 : fm_turn b 1 0 = b 60 := turn_n (j := 1) (x := 0) (mt_ne h h1).1 (by split <;> omega) (by split <;> omega) (by omega)
    rw [t0, t1, (mt_ne h h1).2.2.2.2 hp]
theorem mi_wc (hR : Rel t w) : fm_wave (fm_course w.1) 1 = fm_cosine (fm_course w.1) := by
  have hc : zcR (fm_course w.1) := (rel_okR hR).2.2
  unfold fm_wave
  rw [if_neg (in_c2 hc), if_neg (by decide), if_neg (by decide)]
theorem mi_5 (hR : Rel t w) (hB : MB w b) {j : Int64} (hj : (((w.1 0).toInt64 + (fm_speed w.1).toInt64 * 28 * (fm_wave (fm_course w.1) 1).toInt64 / 1000000 ≤ 70000000) ∧ (-70000000 ≤ (w.1 0).toInt64 + (fm_speed w.1).toInt64 * 28 * (fm_wave (fm_course w.1) 1).toInt64 / 1000000) ∧ j = (w.1 0).toInt64 + (fm_speed w.1).toInt64 * 28 * (fm_wave (fm_course w.1) 1).toInt64 / 1000000)
      ∨ (((w.1 0).toInt64 + (fm_speed w.1).toInt64 * 28 * (fm_wave (fm_course w.1) 1).toInt64 / 1000000 ≤ 70000000) ∧ (¬ (-70000000 ≤ (w.1 0).toInt64 + (fm_speed w.1).toInt64 * 28 * (fm_wave (fm_course w.1) 1).toInt64 / 1000000)) ∧ j = -70000000)
      ∨ ((¬ ((w.1 0).toInt64 + (fm_speed w.1).toInt64 * 28 * (fm_wave (fm_course w.1) 1).toInt64 / 1000000 ≤ 70000000)) ∧ j = 70000000)) : (b 0).toInt64 = j := by
  have e := cl_eq (m := 70000000) (M := 70000000) (N := -70000000) (by decide) (by decide) hj
  rw [mb_D hR hB (by decide) (by decide) (by decide), C_0 (rel_8 hR).2, e, mi_wc hR]
theorem mi_6 (hR : Rel t w) (hB : MB w b) : b 10 = w.1 10 + 1 := by
  rw [mb_D hR hB (by decide) (by decide) (by decide), C_10 (rel_8 hR).2]
theorem mi_7 (hR : Rel t w) (hB : MB w b) : b 11 = w.1 11 + fm_speed w.1 := by
  rw [mb_D hR hB (by decide) (by decide) (by decide), C_11 (rel_8 hR).2]
theorem mi_lv (hR : Rel t w) (hB : MB w b) {i : Nat} (hi : i < 5) : b (29 + i) = if i = nT (w.1 8) then w.1 (29 + i) + 1 else w.1 (29 + i) := by
  rw [mb_D hR hB (by omega) (by omega) (by omega), C_29 (rel_8 hR).2 hi]
theorem mi_8 (hR : Rel t w) (hB : MB w b) {p q p2 q2 : Int32} : fm_state b p q (8 + w.1 8) = fm_state w.1 p2 q2 (8 + w.1 8) + 1 := by
  obtain ⟨e, h4⟩ := rel_8 hR
  have e8 : 8 + w.1 8 = nI (8 + nT (w.1 8)) := by
    generalize nT (w.1 8) = k at e
    rw [e]; exact nI_add 8 k
  rw [e8, fs_lv (by omega), fs_lv (by omega), mi_lv hR hB (by omega), if_pos rfl]
theorem mi_20 (hR : Rel t w) (hB : MB w b) {n : Nat} (hI : IV n w) (hn : n < 90000) (hj : ((0 ≤ (if 0 ≤ w.1 9 then w.1 10 - w.1 9 else (-6 : Int32))) ∧ j = ((if 0 ≤ w.1 9 then w.1 10 - w.1 9 else -6) + (1 : Int32))) ∨ ((¬ (0 ≤ (if 0 ≤ w.1 9 then w.1 10 - w.1 9 else (-6 : Int32)))) ∧ j = (-6 : Int32))) : (if 0 ≤ b 9 then b 10 - b 9 else -6) = j := by
  rw [mb_a hR hB (i := 9) (by decide), mi_6 hR hB]
  have hd := hR.1.2.2.1.2.2.2.2.2.2
  by_cases c : 0 ≤ w.1 9
  · rw [if_pos c] at hj ⊢
    have c' := Int32.le_iff_toInt_le.mp c
    have z : (0 : Int32).toInt = 0 := by decide
    have h9 : 0 ≤ (w.1 9).toInt ∧ (w.1 9).toInt ≤ (w.1 10).toInt := by
      rcases hd with ⟨-, h⟩ | ⟨-, h⟩
      · rw [h] at c; exact absurd c (by decide)
      · exact h
    have h10 := hI.1
    have e : (w.1 10 - w.1 9).toInt = (w.1 10).toInt - (w.1 9).toInt := zi_sub (by omega) (by omega)
    rcases hj with ⟨-, rfl⟩ | ⟨h, -⟩
    · apply Int32.toInt_inj.mp
      have z1 : (1 : Int32).toInt = 1 := by decide
      have e2 : (w.1 10 + 1).toInt = (w.1 10).toInt + 1 := by rw [zi_add (by omega) (by omega), z1]
      rw [zi_sub (by omega) (by omega), e2, zi_add (x := w.1 10 - w.1 9) (by omega) (by omega), e, z1]
      omega
    · exact absurd (Int32.le_iff_toInt_le.mpr (by omega)) h
  · rw [if_neg c] at hj ⊢
    rcases hj with ⟨h, -⟩ | ⟨-, rfl⟩
    · exact absurd h (by decide)
    · rfl
end
theorem mi_l0 {x y : Int32} {j : Int64} (e : x = y) (h : j = y.toInt64) : x.toInt64 = j := by rw [e, h]
