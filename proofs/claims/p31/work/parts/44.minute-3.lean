/-! the ship behind a minute -/
def fm_C (a : Nat → Int32) (s : Nat → Int64) : Nat → Int32 := fm_md (fm_mc (nT (a 8)) (fm_mb (fm_ma (fm_W2 a s).1)))
def fm_D (k : Nat) (C : Nat → Int32) : Nat → Int32 := if C 3 ≤ 0 then C else if fm_me C 36 = 0 then fm_end (k - 1) (fm_me C) else fm_me C
theorem mm4_1 (k : Nat) (w : vX10) : (fm_mm4 k w).1 = fm_D k w.1 := by
  unfold fm_mm4 fm_D
  by_cases c : w.1 3 ≤ 0
  · rw [if_pos c, if_pos c]
  · rw [if_neg c, if_neg c]
    by_cases c2 : fm_me w.1 36 = 0
    · rw [if_pos c2, if_pos c2]; rfl
    · rw [if_neg c2, if_neg c2]
theorem mm4_2 (k : Nat) (w : vX10) : (fm_mm4 k w).2 = w.2 := by
  unfold fm_mm4
  by_cases c : w.1 3 ≤ 0
  · rw [if_pos c]
  · rw [if_neg c]
    by_cases c2 : fm_me w.1 36 = 0
    · rw [if_pos c2]; rfl
    · rw [if_neg c2]
theorem min_eq (a : Nat → Int32) (s : Nat → Int64) : fm_min (a, s) = (fm_D (nT (a 3)) (fm_C a s), vp_updL (fm_W2 a s).2.1 0 ((fm_W2 a s).2.1 0 + (fm_A2 a 4).toInt64)) := by
  have eW : fm_mm2 (nT (a 13)) (fm_swing (fm_mm1 a, s, fr0)) (fm_mm1 a 4) = fm_W2 a s := by
    rw [mm1_ne (by decide) (by decide)]; rfl
  show ((fm_minute (nT (a 13)) (nT (a 8)) (nT (a 3)) (a, s, fr0)).1, (fm_minute (nT (a 13)) (nT (a 8)) (nT (a 3)) (a, s, fr0)).2.1) = _
  have em : fm_minute (nT (a 13)) (nT (a 8)) (nT (a 3)) (a, s, fr0) = fm_mm4 (nT (a 3)) (fm_mm3 (nT (a 8)) (fm_mm2 (nT (a 13)) (fm_swing (fm_mm1 a, s, fr0)) (fm_mm1 a 4))) := rfl
  rw [em, eW, mm4_1, mm4_2]
  show (fm_D (nT (a 3)) (fm_C a s), fm_ms (fm_W2 a s).1 (fm_W2 a s).2.1) = _
  unfold fm_ms
  rw [W2_ne (i := 4) (by omega)]
theorem C_ne {a : Nat → Int32} {s : Nat → Int64} {i : Nat} (h8 : nT (a 8) ≤ 4) (h : i ≠ 0) (h10 : i ≠ 10) (h11 : i ≠ 11) (h29 : i < 29 ∨ 34 ≤ i) : fm_C a s i = (fm_W2 a s).1 i := by
  unfold fm_C fm_md fm_mc fm_mb fm_ma
  rw [upd_ne h11, upd_ne (by omega), upd_ne h10, upd_ne h]
theorem C_a {a : Nat → Int32} {s : Nat → Int64} {i : Nat} (h8 : nT (a 8) ≤ 4) (h : i = 3 ∨ (6 ≤ i ∧ i < 10) ∨ (15 ≤ i ∧ i < 29) ∨ (34 ≤ i ∧ i < 58) ∨ 74 ≤ i) : fm_C a s i = a i := by
  rw [C_ne h8 (by omega) (by omega) (by omega) (by omega), W2_ne (by omega), A2_ne (by omega) (by omega) (by omega) (by omega)]
theorem C_1 {a : Nat → Int32} {s : Nat → Int64} (h8 : nT (a 8) ≤ 4) : fm_C a s 1 = fm_course a := by
  rw [C_ne h8 (by decide) (by decide) (by decide) (by decide), W2_ne (by omega), A2_1]
theorem C_2 {a : Nat → Int32} {s : Nat → Int64} (h8 : nT (a 8) ≤ 4) : fm_C a s 2 = fm_speed a := by
  rw [C_ne h8 (by decide) (by decide) (by decide) (by decide), W2_ne (by omega), A2_2]
theorem C_0 {a : Nat → Int32} {s : Nat → Int64} (h8 : nT (a 8) ≤ 4) : fm_C a s 0 = fm_lim ((a 0).toInt64 + (fm_speed a).toInt64 * 28 * (fm_cosine (fm_course a)).toInt64 / 1000000) 70000000 := by
  unfold fm_C fm_md fm_mc fm_mb fm_ma
  rw [upd_ne (by decide), upd_ne (by omega), upd_ne (by decide), upd_eq, W2_ne (i := 0) (by omega), W2_ne (i := 1) (by omega), W2_ne (i := 2) (by omega), A2_1, A2_2, A2_ne (i := 0) (by decide) (by decide) (by decide) (by decide)]
theorem C_10 {a : Nat → Int32} {s : Nat → Int64} (h8 : nT (a 8) ≤ 4) : fm_C a s 10 = a 10 + 1 := by
  unfold fm_C fm_md fm_mc fm_mb fm_ma
  rw [upd_ne (by decide), upd_ne (by omega), upd_eq, upd_ne (by decide), W2_ne (i := 10) (by omega), A2_ne (i := 10) (by decide) (by decide) (by decide) (by decide)]
theorem C_11 {a : Nat → Int32} {s : Nat → Int64} (h8 : nT (a 8) ≤ 4) : fm_C a s 11 = a 11 + fm_speed a := by
  unfold fm_C fm_md fm_mc fm_mb fm_ma
  rw [upd_eq, upd_ne (j := 11) (by omega), upd_ne (j := 11) (by decide), upd_ne (j := 11) (by decide), upd_ne (j := 2) (by omega), upd_ne (j := 2) (by decide), upd_ne (j := 2) (by decide), W2_ne (i := 11) (by omega), W2_ne (i := 2) (by omega), A2_2, A2_ne (i := 11) (by decide) (by decide) (by decide) (by decide)]
theorem C_29 {a : Nat → Int32} {s : Nat → Int64} {j : Nat} (h8 : nT (a 8) ≤ 4) (hj : j < 5) : fm_C a s (29 + j) = if j = nT (a 8) then a (29 + j) + 1 else a (29 + j) := by
  have e : ∀ i, i < 5 → upd (upd (fm_W2 a s).1 0 (fm_lim (((fm_W2 a s).1 0).toInt64 + ((fm_W2 a s).1 2).toInt64 * 28 * (fm_cosine ((fm_W2 a s).1 1)).toInt64 / 1000000) 70000000)) 10 (upd (fm_W2 a s).1 0 (fm_lim (((fm_W2 a s).1 0).toInt64 + ((fm_W2 a s).1 2).toInt64 * 28 * (fm_cosine ((fm_W2 a s).1 1)).toInt64 / 1000000) 70000000) 10 + 1) (29 + i) = a (29 + i) := fun i hi => by
    rw [upd_ne (by omega), upd_ne (by omega), W2_ne (by omega), A2_ne (by omega) (by omega) (by omega) (by omega)]
  unfold fm_C fm_md fm_mc fm_mb fm_ma
  rw [upd_ne (by omega)]
  by_cases c : j = nT (a 8)
  · rw [if_pos c, ← c, upd_eq, e j hj]
  · rw [if_neg c, upd_ne (by omega), e j hj]
/-- the last step touches the legs and the speed alone -/
theorem D_ne {k : Nat} {C : Nat → Int32} {i : Nat} (hk : k ≤ 8) (h2 : i ≠ 2) (h3 : i ≠ 3) (h : i < 34 ∨ 58 ≤ i) : fm_D k C i = C i := by
  unfold fm_D
  by_cases c : C 3 ≤ 0
  · rw [if_pos c]
  · rw [if_neg c]
    by_cases c2 : fm_me C 36 = 0
    · rw [if_pos c2]
      unfold fm_end; rw [upd_ne h2]
      unfold zcl; rw [if_neg (by omega), upd_ne h3]
      unfold fm_me; rw [upd_ne (by omega)]
    · rw [if_neg c2]; unfold fm_me; rw [upd_ne (by omega)]
theorem end_row {c i : Nat} {E : Nat → Int32} (h : 34 ≤ i) (h2 : i < 34 + 3 * c) : fm_end c E i = E (i + 3) := by
  unfold fm_end; rw [upd_ne (by omega)]; unfold zcl; rw [if_pos ⟨h, h2⟩, upd_ne (by omega)]
theorem end_3 {c : Nat} {E : Nat → Int32} : fm_end c E 3 = nI c := by
  unfold fm_end; rw [upd_ne (by decide)]; unfold zcl; rw [if_neg (by omega), upd_eq]
theorem end_1 {c : Nat} {E : Nat → Int32} : fm_end c E 1 = E 1 := by
  unfold fm_end; rw [upd_ne (by decide)]; unfold zcl; rw [if_neg (by omega), upd_ne (by decide)]
theorem end_2 {E : Nat → Int32} : fm_end 0 E 2 = 0 := by
  unfold fm_end; rw [upd_eq]
  have e : zcl (3 * 0) (upd E 3 (nI 0)) 3 = 0 := by unfold zcl; rw [if_neg (by omega), upd_eq]; rfl
  rw [if_pos e]
theorem me_ne {C : Nat → Int32} {i : Nat} (h : i ≠ 36) : fm_me C i = C i := by unfold fm_me; rw [upd_ne h]
theorem me_36 {C : Nat → Int32} : fm_me C 36 = C 36 - 1 := by unfold fm_me; rw [upd_eq]
theorem at8 {f : Nat → Int64} {k : Nat} (h : k < 8) : zf_at 8 f (nI k) = f k := z_at_in h (by decide)
theorem wr8 {f : Nat → Int64} {x : Int64} : zf_write 8 f 0 x = vp_updL f 0 x := by
  unfold zf_write
  have e : ¬ nI 8 ≤ 0 := fun q => absurd ((nI_leI (a := 8) (b := 0) (by decide) (by decide)).mp q) (by decide)
  rw [if_neg (by decide), if_neg e]; rfl
theorem sail_eq {v : vX5} {a C : Nat → Int32} (h : rShip v a) (c0 : C 0 = fm_lim ((a 0).toInt64 + (fm_speed a).toInt64 * 28 * (fm_cosine (fm_course a)).toInt64 / 1000000) 70000000) (c1 : C 1 = fm_course a) (c2 : C 2 = fm_speed a) (c3 : C 3 = a 3) (c11 : C 11 = a 11 + fm_speed a) (cl : ∀ i, 34 ≤ i → i < 58 → C i = a i) :
    rShip (zf_sail (nT (a 3)) v) (fm_D (nT (a 3)) C) := by
  obtain ⟨⟨l1, l2, l3⟩, ⟨f1, f2⟩, ⟨d1, d2⟩, ⟨p1, p2⟩, w1⟩ := h
  obtain ⟨n8, en⟩ := ok13 l2
  generalize hn : nT (a 3) = n at *
  have m70 : (70000000 : Int32).toInt = 70000000 := by decide
  have qlim := z_lim (x := (a 0).toInt64 + (fm_speed a).toInt64 * 28 * (fm_cosine (fm_course a)).toInt64 / 1000000) (m := 70000000) (M := 70000000) (by omega) rfl
  rw [m70, ← c0] at qlim
  have elat : zf_limited (v.2.1 + v.2.2.2.1 * 28 * zf_cosine v.2.2.1 / 1000000) 70000000 = (C 0).toInt64 := by
    rw [f1, p1, d1, (z_cosEq d2).1]; exact qlim.1
  have hlat : zlR (C 0) := qlim.2
  have eway : (v.2.2.2.2 + v.2.2.2.1).toInt32 = C 11 := by
    rw [Int64.toInt32_add, w1, p1, Int32.toInt32_toInt64, c11]
  have z0 : (0 : Int32).toInt = 0 := by decide
  unfold zf_sail
  rw [elat, l1]
  by_cases c : a 3 ≤ 0
  · have cn : n = 0 := by
      apply Classical.byContradiction; intro hh
      rw [en] at c
      exact nI_nle (by omega) (by omega) c
    rw [if_pos c]
    have eD : fm_D n C = C := by unfold fm_D; rw [if_pos (by rw [c3]; exact c)]
    rw [eD]
    have ec : fm_course C = fm_course a := by
      show (if C 3 ≤ 0 then C 1 else C 34) = _
      rw [if_pos (by rw [c3]; exact c), c1]
    have es : fm_speed C = fm_speed a := by
      show (if C 3 ≤ 0 then C 2 else C 35) = _
      rw [if_pos (by rw [c3]; exact c), c2]
    refine ⟨⟨by rw [c3]; exact l1, by rw [c3]; exact l2, fun j hj => ?_⟩, ⟨rfl, hlat⟩, ⟨by rw [ec]; exact d1, by rw [ec]; exact d2⟩, ⟨by rw [es]; exact p1, by rw [es]; exact p2⟩, eway⟩
    rw [c3, hn, cn] at hj; omega
  · have n0 : 0 < n := by
      apply Nat.pos_of_ne_zero; intro hh
      rw [en, hh] at c; exact c (by decide)
    rw [if_neg c]
    obtain ⟨j1, j2, j3, j4, j5, j6, j7⟩ := l3 0 n0
    have em : zf_at 8 v.1.2.2.1 0 = (a 36).toInt64 := (at8 (k := 0) (by decide)).trans j3
    have j6' : 1 ≤ (a 36).toInt := j6
    have j7' : (a 36).toInt ≤ 600 := j7
    have z1 : (1 : Int32).toInt = 1 := by decide
    have e1 : (a 36 - 1).toInt = (a 36).toInt - 1 := by rw [zi_sub (by omega) (by omega), z1]
    have em1 : zf_at 8 v.1.2.2.1 0 - 1 = (a 36 - 1).toInt64 := by rw [em, zx_sub (by omega) (by omega)]; rfl
    have ec : fm_course a = a 34 := by unfold fm_course; rw [if_neg c]
    have es : fm_speed a = a 35 := by unfold fm_speed; rw [if_neg c]
    have c36 : C 36 = a 36 := cl 36 (by decide) (by decide)
    unfold zf_sailLeg
    show rShip (if zf_at 8 v.1.2.2.1 0 - 1 ≤ 0 then _ else _) _
    by_cases d : a 36 - 1 = 0
    · have hle : zf_at 8 v.1.2.2.1 0 - 1 ≤ 0 := by rw [em1, d]; decide
      rw [if_pos hle]
      have eD : fm_D n C = fm_end (n - 1) (fm_me C) := by
        unfold fm_D; rw [if_neg (by rw [c3]; exact c), if_pos (by rw [me_36, c36]; exact d)]
      rw [eD]
      have eC : (zf_gdrop n (zf_legMin (v.1, (C 0).toInt64, v.2.2.1, v.2.2.2.1, v.2.2.2.2 + v.2.2.2.1))).2.2.2 = nI (n - 1) := by
        show (if 0 < v.1.2.2.2 - 1 then v.1.2.2.2 - 1 else 0) = _
        rw [l1, en, z_pred1 n0]
        by_cases h1 : n - 1 = 0
        · rw [h1]; rfl
        · rw [if_pos (show (0 : Int32) < nI (n - 1) from nI_lt (a := 0) (b := n - 1) (by omega) (by omega))]
      have hrow : ∀ i, 34 ≤ i → i < 34 + 3 * (n - 1) → fm_end (n - 1) (fm_me C) i = a (i + 3) := fun i h1 h2 => by
        rw [end_row h1 h2, me_ne (by omega), cl _ (by omega) (by omega)]
      have hlegs : rLeg (zf_gdrop n (zf_legMin (v.1, (C 0).toInt64, v.2.2.1, v.2.2.2.1, v.2.2.2.2 + v.2.2.2.1))) (fm_end (n - 1) (fm_me C)) := by
        refine ⟨by rw [eC, end_3], by unfold okN; rw [end_3, nI_toInt (by omega)]; omega, fun j hj => ?_⟩
        rw [end_3, nT_nI (by omega)] at hj
        obtain ⟨k1, k2, k3, k4, k5, k6, k7⟩ := l3 (j + 1) (by omega)
        have r0 := hrow (34 + 3 * j) (by omega) (by omega)
        have r1 := hrow (34 + 3 * j + 1) (by omega) (by omega)
        have r2 := hrow (34 + 3 * j + 2) (by omega) (by omega)
        rw [show 34 + 3 * j + 3 = 34 + 3 * (j + 1) by omega] at r0
        rw [show 34 + 3 * j + 1 + 3 = 34 + 3 * (j + 1) + 1 by omega] at r1
        rw [show 34 + 3 * j + 2 + 3 = 34 + 3 * (j + 1) + 2 by omega] at r2
        unfold rLegj
        rw [r0, r1, r2]
        refine ⟨?_, ?_, ?_, k4, k5, k6, k7⟩
        · show zdn n v.1.1 j = _
          unfold zdn; rw [if_pos (by omega)]; exact k1
        · show zdn n v.1.2.1 j = _
          unfold zdn; rw [if_pos (by omega)]; exact k2
        · show zdn n (zf_write 8 v.1.2.2.1 0 (zf_at 8 v.1.2.2.1 0 - 1)) j = _
          unfold zdn; rw [if_pos (by omega), wr8, updL_ne (by omega)]; exact k3
      have e0 : fm_end (n - 1) (fm_me C) 0 = C 0 := by
        unfold fm_end; rw [upd_ne (by decide)]; unfold zcl; rw [if_neg (by omega), upd_ne (by decide), me_ne (by decide)]
      have e11 : fm_end (n - 1) (fm_me C) 11 = C 11 := by
        unfold fm_end; rw [upd_ne (by decide)]; unfold zcl; rw [if_neg (by omega), upd_ne (by decide), me_ne (by decide)]
      rw [eC]
      by_cases h1 : n = 1
      · subst h1
        have hz : (nI (1 - 1) : Int32) = 0 := rfl
        rw [if_pos hz]
        have et : ∀ w : vX5, w.1.2.2.2 = 0 → zf_take w = w := fun w hw => by unfold zf_take; rw [if_pos (by rw [hw]; decide)]
        rw [et _ eC]
        have e3 : fm_end (1 - 1) (fm_me C) 3 ≤ 0 := by rw [end_3]; decide
        have ecD : fm_course (fm_end (1 - 1) (fm_me C)) = fm_course a := by
          show (if fm_end (1 - 1) (fm_me C) 3 ≤ 0 then _ else _) = _
          rw [if_pos e3, end_1, me_ne (by decide), c1]
        have esD : fm_speed (fm_end (1 - 1) (fm_me C)) = 0 := by
          show (if fm_end (1 - 1) (fm_me C) 3 ≤ 0 then _ else _) = _
          rw [if_pos e3]; exact end_2
        refine ⟨hlegs, ⟨by rw [e0], by rw [e0]; exact hlat⟩, ⟨by rw [ecD]; exact d1, by rw [ecD]; exact d2⟩, ⟨by rw [esD]; rfl, by rw [esD]; exact ⟨by decide, by decide⟩⟩, by rw [e11]; exact eway⟩
      · have hz : ¬ (nI (n - 1) : Int32) = 0 := fun q => by
          have := (nI_eq (a := n - 1) (b := 0) (by omega) (by decide)).mp q; omega
        rw [if_neg hz]
        have hp : ¬ (nI (n - 1) : Int32) ≤ 0 := nI_nle (by omega) (by omega)
        have hl0 := hlegs.2.2 0 (by rw [end_3, nT_nI (by omega)]; omega)
        obtain ⟨k1, k2, k3, k4, k5, k6, k7⟩ := hl0
        have et : ∀ w : vX5, w.1.2.2.2 = nI (n - 1) → zf_take w = (w.1, w.2.1, zf_at 8 w.1.1 0, zf_at 8 w.1.2.1 0, w.2.2.2.2) := fun w hw => by unfold zf_take; rw [if_neg (by rw [hw]; exact hp)]
        rw [et _ eC]
        have e3 : ¬ fm_end (n - 1) (fm_me C) 3 ≤ 0 := by rw [end_3]; exact hp
        have ecD : fm_course (fm_end (n - 1) (fm_me C)) = fm_end (n - 1) (fm_me C) 34 := by
          show (if fm_end (n - 1) (fm_me C) 3 ≤ 0 then _ else _) = _
          rw [if_neg e3]
        have esD : fm_speed (fm_end (n - 1) (fm_me C)) = fm_end (n - 1) (fm_me C) 35 := by
          show (if fm_end (n - 1) (fm_me C) 3 ≤ 0 then _ else _) = _
          rw [if_neg e3]
        refine ⟨hlegs, ⟨by rw [e0], by rw [e0]; exact hlat⟩, ⟨by rw [ecD]; exact (at8 (k := 0) (by decide)).trans k1, by rw [ecD]; exact k4⟩, ⟨by rw [esD]; exact (at8 (k := 0) (by decide)).trans k2, by rw [esD]; exact k5⟩, by rw [e11]; exact eway⟩
    · have hnle : ¬ zf_at 8 v.1.2.2.1 0 - 1 ≤ 0 := by
        rw [em1]; intro q
        have q2 : (a 36 - 1) ≤ 0 := zx_le.mp q
        have q3 := Int32.le_iff_toInt_le.mp q2
        exact d (Int32.toInt_inj.mp (by omega))
      rw [if_neg hnle]
      have dn : ¬ (a 36 - 1).toInt = 0 := fun q => d (Int32.toInt_inj.mp (by omega))
      have eD : fm_D n C = fm_me C := by
        unfold fm_D; rw [if_neg (by rw [c3]; exact c), if_neg (by rw [me_36, c36]; exact d)]
      rw [eD]
      have e3 : fm_me C 3 = a 3 := by rw [me_ne (by decide), c3]
      have ecD : fm_course (fm_me C) = fm_course a := by
        show (if fm_me C 3 ≤ 0 then _ else fm_me C 34) = _
        rw [e3, if_neg c, me_ne (by decide), cl 34 (by decide) (by decide), ec]
      have esD : fm_speed (fm_me C) = fm_speed a := by
        show (if fm_me C 3 ≤ 0 then _ else fm_me C 35) = _
        rw [e3, if_neg c, me_ne (by decide), cl 35 (by decide) (by decide), es]
      refine ⟨⟨by rw [e3]; exact l1, by rw [e3]; exact l2, fun j hj => ?_⟩, ⟨by rw [me_ne (by decide)], by rw [me_ne (by decide)]; exact hlat⟩, ⟨by rw [ecD]; exact d1, by rw [ecD]; exact d2⟩, ⟨by rw [esD]; exact p1, by rw [esD]; exact p2⟩, by rw [me_ne (by decide)]; exact eway⟩
      rw [e3, hn] at hj
      obtain ⟨k1, k2, k3, k4, k5, k6, k7⟩ := l3 j hj
      have r0 : fm_me C (34 + 3 * j) = a (34 + 3 * j) := by rw [me_ne (by omega), cl _ (by omega) (by omega)]
      have r1 : fm_me C (34 + 3 * j + 1) = a (34 + 3 * j + 1) := by rw [me_ne (by omega), cl _ (by omega) (by omega)]
      unfold rLegj
      rw [r0, r1]
      cases j with
      | zero =>
        have r2 : fm_me C (34 + 3 * 0 + 2) = a 36 - 1 := by show fm_me C 36 = _; rw [me_36, c36]
        rw [r2]
        refine ⟨k1, k2, ?_, k4, k5, by omega, by omega⟩
        show zf_write 8 v.1.2.2.1 0 (zf_at 8 v.1.2.2.1 0 - 1) 0 = _
        rw [wr8, updL_eq, em1]
      | succ q =>
        have r2 : fm_me C (34 + 3 * (q + 1) + 2) = a (34 + 3 * (q + 1) + 2) := by rw [me_ne (by omega), cl _ (by omega) (by omega)]
        rw [r2]
        refine ⟨k1, k2, ?_, k4, k5, k6, k7⟩
        show zf_write 8 v.1.2.2.1 0 (zf_at 8 v.1.2.2.1 0 - 1) (q + 1) = _
        rw [wr8, updL_ne (by omega)]; exact k3
