/-! what both sides tell -/
theorem sw_count {v : vX8} {a : Nat → Int32} {s : Nat → Int64} (h : rSw v a s) {k : Nat} (hk : k ≤ 8) : (nI k ≤ a 13 ↔ k ≤ nT (a 13)) ∧ (v.1.2 < nI k ↔ ¬ k ≤ nT (a 13)) := by
  obtain ⟨h1, h2, -⟩ := h
  obtain ⟨n8, en⟩ := ok13 h2
  constructor
  · rw [en, nT_nI (by omega)]; exact nI_leI (by omega) (by omega)
  · rw [h1, en, nT_nI (by omega), nI_ltI (by omega) (by omega)]; omega
theorem z_const (k : Nat) (h : k < 100) : (nI k).toInt = k := nI_toInt (by omega)
theorem settled_eq {v : vX8} {a : Nat → Int32} {s : Nat → Int64} (h : rSw v a s) (h3 : 3 ≤ nT (a 13)) : zf_byTurns v = (fm_settled a).toInt64 ∧ zB 1800000 (fm_settled a) := by
  obtain ⟨-, -, hr, -⟩ := h
  obtain ⟨p1, p2, -⟩ := hr 0 (by omega)
  obtain ⟨q1, q2, -⟩ := hr 1 (by omega)
  obtain ⟨r1, r2, -⟩ := hr 2 (by omega)
  have e0 : zf_at 8 v.1.1 0 = (a 58).toInt64 := (at8 (k := 0) (by decide)).trans p1
  have e1 : zf_at 8 v.1.1 1 = (a 60).toInt64 := (at8 (k := 1) (by decide)).trans q1
  have e2 : zf_at 8 v.1.1 2 = (a 62).toInt64 := (at8 (k := 2) (by decide)).trans r1
  have p2' : zB 1800000 (a 58) := p2
  have q2' : zB 1800000 (a 60) := q2
  have r2' : zB 1800000 (a 62) := r2
  unfold zB at p2' q2' r2'
  have z2 : (2 : Int32).toInt = 2 := by decide
  have m2 : (2 * a 60).toInt = 2 * (a 60).toInt := by rw [zi_mul (by rw [z2]; omega) (by rw [z2]; omega), z2]
  have a1 : (a 62 + 2 * a 60).toInt = (a 62).toInt + 2 * (a 60).toInt := by rw [zi_add (by rw [m2]; omega) (by rw [m2]; omega), m2]
  have a2 : (a 62 + 2 * a 60 + a 58).toInt = (a 62).toInt + 2 * (a 60).toInt + (a 58).toInt := by rw [zi_add (by rw [a1]; omega) (by rw [a1]; omega), a1]
  have z4 : (4 : Int32).toInt = 4 := by decide
  constructor
  · unfold zf_byTurns
    rw [e0, e1, e2]
    show _ = ((a 62 + 2 * a 60 + a 58) / 4).toInt64
    rw [zx_div (by rw [a2]; omega), zx_add (by rw [a1]; omega) (by rw [a1]; omega), zx_add (by rw [m2]; omega) (by rw [m2]; omega), zx_mul (by rw [z2]; omega) (by rw [z2]; omega)]
    rfl
  · show zB 1800000 ((a 62 + 2 * a 60 + a 58) / 4)
    unfold zB
    rw [zi_div (by rw [a2]; omega), a2, z4]
    exact zt_b (by omega) (by omega) (by omega)
theorem last_eq {v : vX8} {a : Nat → Int32} {s : Nat → Int64} (h : rSw v a s) (h2 : 2 ≤ nT (a 13)) : zf_last v = (a (58 + 2 * 0) - a (58 + 2 * 1)).toInt64 ∧ zB 3600000 (a (58 + 2 * 0) - a (58 + 2 * 1)) := by
  obtain ⟨-, -, hr, -⟩ := h
  obtain ⟨p1, p2, -⟩ := hr 0 (by omega)
  obtain ⟨q1, q2, -⟩ := hr 1 (by omega)
  have e0 : zf_at 8 v.1.1 0 = (a (58 + 2 * 0)).toInt64 := (at8 (k := 0) (by decide)).trans p1
  have e1 : zf_at 8 v.1.1 1 = (a (58 + 2 * 1)).toInt64 := (at8 (k := 1) (by decide)).trans q1
  unfold zB at p2 q2
  unfold zf_last zB
  rw [e0, e1, zi_sub (by omega) (by omega)]
  exact ⟨(zx_sub (by omega) (by omega)).symm, by omega, by omega⟩
theorem mean_eq {T : Int} {v : vX8} {a : Nat → Int32} {s : Nat → Int64} (h : rSw v a s) (h3 : 3 ≤ nT (a 13)) (ht : (a 10).toInt ≤ T) (hT : T ≤ 1000000) : zf_byMean v = (fm_mean a s).toInt64 ∧ zB 1800000 (fm_mean a s) := by
  obtain ⟨-, -, hr, ⟨-, s0a, s0b⟩, -⟩ := h
  obtain ⟨-, -, p3, p4, p5, p6, p7, p8⟩ := hr 0 (by omega)
  obtain ⟨-, -, q3, q4, q5, q6, q7, q8⟩ := hr 1 (by omega)
  obtain ⟨-, -, r3, r4, r5, r6, r7, r8⟩ := hr 2 (by omega)
  have c0 : tm a 0 = (a 10).toInt := rfl
  have c1 : tm a 1 = (a 59).toInt := rfl
  have c2 : tm a 2 = (a 61).toInt := rfl
  have c3 : tm a 3 = (a 63).toInt := rfl
  have f0 : zf_at 8 v.2.1.1 0 = (a 59).toInt64 := (at8 (k := 0) (by decide)).trans p3
  have f2 : zf_at 8 v.2.1.1 2 = (a 63).toInt64 := (at8 (k := 2) (by decide)).trans r3
  have g0 : zf_at 8 v.2.2.1.1 0 = s 1 := (at8 (k := 0) (by decide)).trans p4
  have g2 : zf_at 8 v.2.2.1.1 2 = s 3 := (at8 (k := 2) (by decide)).trans r4
  have q7' : -(1800000 * (tm a 1 - tm a 2)) ≤ (s 1).toInt - (s 2).toInt := q7
  have q8' : (s 1).toInt - (s 2).toInt ≤ 1800000 * (tm a 1 - tm a 2) := q8
  have r7' : -(1800000 * (tm a 2 - tm a 3)) ≤ (s 2).toInt - (s 3).toInt := r7
  have r8' : (s 2).toInt - (s 3).toInt ≤ 1800000 * (tm a 2 - tm a 3) := r8
  have q6' : tm a 2 < tm a 1 := q6
  have r6' : tm a 3 < tm a 2 := r6
  have r5' : 0 ≤ tm a 3 := r5
  have p6' : tm a 1 < tm a 0 := p6
  have es : (s 1 - s 3).toInt = (s 1).toInt - (s 3).toInt := zl_sub (by omega) (by omega)
  have ed : (a 59 - a 63).toInt = (a 59).toInt - (a 63).toInt := zi_sub (by omega) (by omega)
  have hb := zt_b (x := (s 1).toInt - (s 3).toInt) (k := (a 59).toInt - (a 63).toInt) (m := 1800000) (by omega) (by omega) (by omega)
  have eq : ((s 1 - s 3) / (a 59 - a 63).toInt64).toInt = ((s 1).toInt - (s 3).toInt).tdiv ((a 59).toInt - (a 63).toInt) := by
    rw [zl_div (by rw [es]; omega), es, Int32.toInt_toInt64, ed]
  have em : fm_mean a s = ((s 1 - s 3) / (a 59 - a 63).toInt64).toInt32 := rfl
  have hne : ¬ (a 59 - a 63).toInt64 = 0 := fun q => by
    have q2 := congrArg Int64.toInt q
    have z0 : (0 : Int64).toInt = 0 := by decide
    rw [Int32.toInt_toInt64, ed, z0] at q2
    omega
  constructor
  · unfold zf_byMean zf_quot
    rw [f0, f2, g0, g2, ← zx_sub (by omega) (by omega), if_neg hne, em, zx_32 (by rw [eq]; omega)]
  · unfold zB
    rw [em, zx_i (by rw [eq]; omega), eq]; exact hb
theorem csum_eq {f : Nat → Int64} {a : Nat → Int32} {n : Nat} (hn : n ≤ 5) (h : ∀ j, j < n → f j = (a (74 + j)).toInt64 ∧ zB 20000 (a (74 + j))) : ∀ k, k ≤ n → zsum f k = (fm_csum a k).toInt64 ∧ zB (20000 * k) (fm_csum a k)
  | 0, _ => ⟨rfl, by unfold zB; show -(20000 * ((0 : Nat) : Int)) ≤ (0 : Int32).toInt ∧ (0 : Int32).toInt ≤ 20000 * ((0 : Nat) : Int); exact ⟨by decide, by decide⟩⟩
  | k + 1, hk => by
    obtain ⟨i1, i2⟩ := csum_eq hn h k (by omega)
    obtain ⟨j1, j2⟩ := h k (by omega)
    unfold zB at i2 j2
    show zsum f k + f k = (fm_csum a k + a (74 + k)).toInt64 ∧ zB _ (fm_csum a k + a (74 + k))
    rw [i1, j1, zx_add (by omega) (by omega)]
    refine ⟨rfl, ?_⟩
    unfold zB
    rw [zi_add (by omega) (by omega)]
    push_cast
    omega
theorem can_eq {v : vX8} {a : Nat → Int32} {s : Nat → Int64} (h : rSw v a s) : (zf_can v = 0) ↔ ¬ (3 : Int32) ≤ a 13 := by
  have hc := sw_count h (k := 3) (by decide)
  have e3 : (nI 3 : Int32) = 3 := rfl
  rw [e3] at hc
  unfold zf_can
  by_cases c : v.1.2 < 3
  · rw [if_pos c]; exact ⟨fun _ q => (hc.2.mp c) (hc.1.mp q), fun _ => rfl⟩
  · rw [if_neg c]; exact ⟨fun q => absurd q (by decide), fun q => absurd (hc.2.mpr (fun p => q (hc.1.mpr p))) c⟩
theorem compass_eq {T : Int} {S : vX7} {a : Nat → Int32} {s : Nat → Int64} (h : RS T S a s) (hT : T ≤ 1000000) (x : Int32) : zf_comp S (nT (a 15)) x = fm_compass (nT (a 15)) a s x := by
  have hr := rest_eq h
  obtain ⟨-, ⟨-, ⟨l1, -⟩, -⟩, ⟨-, ⟨g1, -⟩, ⟨t1, -⟩, ⟨d1, -⟩, -⟩, h4, ⟨-, -, -, -, k2, k3, -⟩, ⟨-, -, t3⟩, -, h8⟩ := h
  have hcan := can_eq h4
  have n5 : nT (a 15) ≤ 5 := nT_le k2.2
  have e4 : (if zf_can S.2.2.2.1 = 0 then (-1000000006 : Int32) else (zf_byTurns S.2.2.2.1).toInt32) = (if 3 ≤ a 13 then fm_settled a else -1000000006) := by
    by_cases c : (3 : Int32) ≤ a 13
    · rw [if_pos c, if_neg (fun q => (hcan.mp q) c), (settled_eq h4 ((sw_count h4 (k := 3) (by decide)).1.mp c)).1, Int32.toInt32_toInt64]
    · rw [if_neg c, if_pos (hcan.mpr c)]
  have e5 : (if zf_can S.2.2.2.1 = 0 then (-1000000006 : Int32) else (zf_byMean S.2.2.2.1).toInt32) = (if 3 ≤ a 13 then fm_mean a s else -1000000006) := by
    by_cases c : (3 : Int32) ≤ a 13
    · rw [if_pos c, if_neg (fun q => (hcan.mp q) c), (mean_eq h4 ((sw_count h4 (k := 3) (by decide)).1.mp c) t3 hT).1, Int32.toInt32_toInt64]
    · rw [if_neg c, if_pos (hcan.mpr c)]
  have e6 : (if S.2.2.2.1.1.2 < 2 then (-1000000006 : Int32) else (zf_last S.2.2.2.1).toInt32) = (if 2 ≤ a 13 then a (58 + 2 * 0) - a (58 + 2 * 1) else -1000000006) := by
    have hc := sw_count h4 (k := 2) (by decide)
    have e2 : (nI 2 : Int32) = 2 := rfl
    rw [e2] at hc
    by_cases c : (2 : Int32) ≤ a 13
    · rw [if_pos c, if_neg (fun q => (hc.2.mp q) (hc.1.mp c)), (last_eq h4 (hc.1.mp c)).1, Int32.toInt32_toInt64]
    · rw [if_neg c, if_pos (hc.2.mpr (fun q => c (hc.1.mpr q)))]
  have e7 : (zsum S.2.2.2.2.1.2.1.1 (min (nT (a 15)) 5)).toInt32 = fm_csum a (nT (a 15)) := by
    rw [Nat.min_eq_left n5, (csum_eq n5 k3 (nT (a 15)) (Nat.le_refl _)).1, Int32.toInt32_toInt64]
  unfold zf_comp fm_compass
  rw [e4, e5, e6, e7, g1, t1, hr.1, l1, h4.2.2.2.2.1, d1, h8]
  simp only [Int32.toInt32_toInt64]
theorem reason_eq {T : Int} {S : vX7} {a : Nat → Int32} {s : Nat → Int64} (h : RS T S a s) (hT : T ≤ 1000000) : zf_reason (nT (a 15)) S = fm_reason a s := by
  obtain ⟨h1, -, ⟨-, -, -, -, -, ⟨v1, -⟩, -⟩, h4, ⟨-, -, -, k1, k2, k3, -⟩, ⟨-, -, t3⟩, -⟩ := h
  have hcan := can_eq h4
  have n5 : nT (a 15) ≤ 5 := nT_le k2.2
  have en5 : a 15 = nI (nT (a 15)) := nT_eq k2.1
  have s3 : zf_at 9 S.1 3 = (a 23).toInt64 := set_at h1 (k := 3) (by decide)
  have s4 : zf_at 9 S.1 4 = (a 24).toInt64 := set_at h1 (k := 4) (by decide)
  have s5 : zf_at 9 S.1 5 = (a 25).toInt64 := set_at h1 (k := 5) (by decide)
  unfold zf_reason fm_reason
  by_cases c : (3 : Int32) ≤ a 13
  · have n3 := (sw_count h4 (k := 3) (by decide)).1.mp c
    have hl := last_eq h4 (by omega)
    have hs := settled_eq h4 n3
    have hm := mean_eq h4 n3 t3 hT
    have lb := hl.2; have sb := hs.2; have mb := hm.2
    unfold zB at lb sb mb
    rw [if_neg (fun q => (hcan.mp q) c), if_pos c, hl.1, hs.1, hm.1, s3, s4, s5, v1, k1]
    have q1 : zf_abs (a (58 + 2 * 0) - a (58 + 2 * 1)).toInt64 = (fm_size (a (58 + 2 * 0) - a (58 + 2 * 1))).toInt64 := zx_abs (by omega)
    have q2 : zf_abs ((fm_settled a).toInt64 - (fm_mean a s).toInt64) = (fm_size (fm_settled a - fm_mean a s)).toInt64 := by
      rw [← zx_sub (by omega) (by omega)]; exact zx_abs (by rw [zi_sub (by omega) (by omega)]; omega)
    have q4 : zf_abs (fm_settled a).toInt64 = (fm_size (fm_settled a)).toInt64 := zx_abs (by omega)
    rw [q1, q2, q4]
    by_cases c3 : (3 : Int32) ≤ a 15
    · have n3' : 3 ≤ nT (a 15) := by
        rw [en5] at c3; exact (nI_leI (a := 3) (b := nT (a 15)) (by omega) (by omega)).mp c3
      have hc := csum_eq n5 k3 3 n3'
      have cb := hc.2
      unfold zB at cb
      have z3 : (3 : Int32).toInt = 3 := by decide
      have z100 : (100 : Int32).toInt = 100 := by decide
      have d3 : (fm_csum a 3 / 3).toInt = (fm_csum a 3).toInt.tdiv 3 := by rw [zi_div (by omega), z3]
      have b3 := zt_b (x := (fm_csum a 3).toInt) (k := 3) (m := 20000) (by omega) (by omega) (by omega)
      have m100 : (100 * (fm_csum a 3 / 3)).toInt = 100 * (fm_csum a 3).toInt.tdiv 3 := by rw [zi_mul (by rw [d3, z100]; omega) (by rw [d3, z100]; omega), d3, z100]
      have q3 : zf_abs (100 * (zsum S.2.2.2.2.1.2.1.1 (min (nT (a 15)) 3) / 3) - (fm_settled a).toInt64) = (fm_size (100 * (fm_csum a 3 / 3) - fm_settled a)).toInt64 := by
        have e1 : (100 : Int64) * (zsum S.2.2.2.2.1.2.1.1 (min (nT (a 15)) 3) / 3) = (100 * (fm_csum a 3 / 3)).toInt64 := by
          rw [Nat.min_eq_right n3', hc.1, zx_mul (by rw [d3, z100]; omega) (by rw [d3, z100]; omega), zx_div (by omega)]; rfl
        rw [e1, ← zx_sub (by rw [m100]; omega) (by rw [m100]; omega)]
        exact zx_abs (by rw [zi_sub (by rw [m100]; omega) (by rw [m100]; omega), m100]; omega)
      rw [q3]
      simp only [zx_le]
    · rw [if_neg c3, if_neg c3]
      simp only [zx_le]
  · rw [if_pos (hcan.mpr c), if_neg c]
theorem cnt_in {x n : Int32} (h : 0 ≤ n.toInt) : (zf_in x.toInt64 0 (n - 1).toInt64 = 0) ↔ (x < 0 ∨ ¬ x < n) := by
  have z1 : (1 : Int32).toInt = 1 := by decide
  have e1 : (n - 1).toInt = n.toInt - 1 := by
    have := (z32 (x := n)).1
    rw [zi_sub (by omega) (by omega), z1]
  rw [zx_in (lo := 0) (hi := n - 1) (a := 0) (b := (n - 1).toInt64) rfl rfl]
  unfold fm_in
  by_cases c : x < 0
  · rw [if_pos c]; exact ⟨fun _ => Or.inl c, fun _ => rfl⟩
  · rw [if_neg c]
    by_cases d : n - 1 < x
    · rw [if_pos d]
      have d' := Int32.lt_iff_toInt_lt.mp d
      exact ⟨fun _ => Or.inr (fun q => by have q' := Int32.lt_iff_toInt_lt.mp q; omega), fun _ => rfl⟩
    · rw [if_neg d]
      have d' : ¬ (n - 1).toInt < x.toInt := fun q => d (Int32.lt_iff_toInt_lt.mpr q)
      exact ⟨fun q => absurd q (by decide), fun q => by
        rcases q with q | q
        · exact absurd q c
        · exact absurd (Int32.lt_iff_toInt_lt.mpr (by omega)) q⟩
theorem turn_eq {T : Int} {S : vX7} {a : Nat → Int32} {s : Nat → Int64} (h : RS T S a s) (x y : Int32) : zf_turn S x y = fm_turn a x y := by
  obtain ⟨-, -, -, ⟨h1, h2, h3, -⟩, -⟩ := h
  obtain ⟨n8, en⟩ := ok13 h2
  have hc := cnt_in (x := x) (n := a 13) h2.1
  unfold zf_turn fm_turn
  rw [h1]
  by_cases c : x < 0
  · rw [if_pos (hc.mpr (Or.inl c)), if_pos c]
  · by_cases d : x < a 13
    · rw [if_neg (fun q => by rcases hc.mp q with q | q; exact c q; exact q d), if_neg c, if_pos d]
      obtain ⟨k, hk, rfl⟩ := z_ix13 (n := nT (a 13)) c d (by unfold nT; have := h2.1; omega)
      obtain ⟨p1, -, p3, -⟩ := h3 k hk
      rw [at8 (by omega), at8 (by omega), p1, p3, nI_clamp (by omega), Int32.toInt32_toInt64, Int32.toInt32_toInt64]
      by_cases y0 : y = 0
      · subst y0; rw [if_pos rfl, if_neg (by decide)]; rfl
      · rw [if_neg y0]
        by_cases y1 : y = 1
        · subst y1; rw [if_pos rfl, if_neg (by decide)]; rfl
        · rw [if_neg y1]
          by_cases q : fm_in y 0 1 = 0
          · rw [if_pos q]
          · obtain ⟨j, hj, e⟩ := z_ix01 q
            have hj' : j = 0 ∨ j = 1 := by omega
            rcases hj' with rfl | rfl
            · exact absurd e y0
            · exact absurd e y1
    · rw [if_pos (hc.mpr (Or.inr d)), if_neg c, if_neg d]
theorem check_eq {T : Int} {S : vX7} {a : Nat → Int32} {s : Nat → Int64} (h : RS T S a s) (x : Int32) : zf_check S x = fm_check a x := by
  obtain ⟨-, -, -, -, ⟨-, -, -, k1, k2, k3, -⟩, -⟩ := h
  have hc := cnt_in (x := x) (n := a 15) k2.1
  unfold zf_check fm_check
  rw [k1]
  by_cases c : x < 0
  · rw [if_pos (hc.mpr (Or.inl c)), if_pos c]
  · by_cases d : x < a 15
    · rw [if_neg (fun q => by rcases hc.mp q with q | q; exact c q; exact q d), if_neg c, if_pos d]
      obtain ⟨k, hk, rfl⟩ := z_ix13 (n := nT (a 15)) c d (by unfold nT; have := k2.1; omega)
      have n5 : nT (a 15) ≤ 5 := nT_le k2.2
      have e5 : zf_at 5 S.2.2.2.2.1.2.1.1 (nI k) = S.2.2.2.2.1.2.1.1 k := z_at_in (by omega) (by decide)
      rw [e5, (k3 k hk).1, nI_clamp (by omega), Int32.toInt32_toInt64]
    · rw [if_pos (hc.mpr (Or.inr d)), if_neg c, if_neg d]
theorem isC_eq (x : Int32) : zf_isCourse x = fm_in x 0 35999 := zx_in rfl rfl
theorem isS_eq (x : Int32) : zf_isSpeed x = fm_in x 0 400 := zx_in rfl rfl
theorem isM_eq (x : Int32) : zf_isMinutes x = fm_in x 1 600 := zx_in rfl rfl
theorem isD_eq (x : Int32) : zf_isDegrees x = fm_in x (-70) 70 := zx_in (by decide) rfl
theorem wave_eq (x y : Int32) : zf_wave x y = fm_wave x y := by
  unfold zf_wave fm_wave
  rw [isC_eq, zx_in (x := y) (lo := 0) (hi := 1) (a := 0) (b := 1) rfl rfl]
  by_cases c : fm_in x 0 35999 = 0
  · rw [if_pos c, if_pos c]
  · rw [if_neg c, if_neg c, (z_sineEq (zcR_of c)).1, (z_cosEq (zcR_of c)).1, Int32.toInt32_toInt64, Int32.toInt32_toInt64]
theorem zsR_of {x : Int32} (h : ¬ fm_in x 0 400 = 0) : zsR x := by
  have h1 := fm_in1 h
  have z : (0 : Int32).toInt = 0 := by decide
  have z1 : (400 : Int32).toInt = 400 := by decide
  exact ⟨by omega, by omega⟩
theorem deg_mul {x : Int32} (h : -70 ≤ x.toInt ∧ x.toInt ≤ 70) : x.toInt64 * 1000000 = (1000000 * x).toInt64 := by
  have zm : (1000000 : Int32).toInt = 1000000 := by decide
  rw [Int32.mul_comm, zx_mul (by rw [zm]; omega) (by rw [zm]; omega)]
  rfl
theorem restAt_eq {T : Int} {S : vX7} {a : Nat → Int32} {s : Nat → Int64} (h : RS T S a s) (x y z : Int32) : zf_restAt S x y z = fm_restAt a x y z := by
  have h1 := h.1
  unfold zf_restAt fm_restAt
  rw [isD_eq, isS_eq, isC_eq]
  by_cases c1 : fm_in x (-70) 70 = 0
  · rw [if_pos c1, if_pos c1]
  · by_cases c2 : fm_in y 0 400 = 0
    · rw [if_neg c1, if_neg c1, if_pos c2, if_pos c2]
    · by_cases c3 : fm_in z 0 35999 = 0
      · rw [if_neg c1, if_neg c1, if_neg c2, if_neg c2, if_pos c3, if_pos c3]
      · have e22 : zf_at 9 S.1 2 = (a 22).toInt64 := set_at h1 (k := 2) (by decide)
        rw [if_neg c1, if_neg c1, if_neg c2, if_neg c2, if_neg c3, if_neg c3, e22, deg_mul (zdR_of c1), (z_restEq (z_deg (zdR_of c1)) (zcR_of c3) (zsR_of c2) (h1 2 (by decide)).2).1, Int32.toInt32_toInt64]
theorem stm_d (a : Nat → Int32) (pm qm x : Int32) (h1 : fm_in x 8 12 = 0) (h2 : fm_in x 22 30 = 0) : fm_state a pm qm x = (if x = 0 then a 10 else if x = 1 then fm_course a else if x = 2 then fm_speed a else if x = 3 then a 3 else if x = 4 then (if a 3 = 0 then 0 else a 36) else if x = 5 then a 11 else if x = 6 then a 8 else if x = 7 then (if 0 ≤ a 9 then a 10 - a 9 else -6) else if x = 13 then a 13 else if x = 14 then a 14 else if x = 15 then a 15 else if x = 16 then a 16 else if x = 17 then a 17 else if x = 18 then a 7 else if x = 19 then a 19 else if x = 20 then qm else if x = 21 then pm else -2) := by
  unfold fm_state; rw [if_pos h1, if_pos h2]
theorem in_ne {x : Int32} {lo hi : Int32} (h : fm_in x lo hi = 0) (k : Int32) (hk : ¬ fm_in k lo hi = 0) : ¬ x = k := fun e => hk (e ▸ h)
theorem voy_eq {T : Int} {S : vX7} {a : Nat → Int32} {s : Nat → Int64} (h : RS T S a s) (hT : T ≤ 1000000) (x : Int32) : zf_voy S x = (if x = 0 then a 10 else if x = 1 then fm_course a else if x = 2 then fm_speed a else if x = 3 then a 3 else if x = 4 then (if a 3 = 0 then 0 else a 36) else if x = 5 then a 11 else if x = 6 then a 8 else if x = 7 then (if 0 ≤ a 9 then a 10 - a 9 else -6) else -2) := by
  obtain ⟨-, ⟨⟨l1, l2, l3⟩, -, ⟨c1, -⟩, ⟨p1, -⟩, w1⟩, ⟨-, -, -, -, -, ⟨v1, -⟩, gd⟩, -, -, ⟨t1, t2, t3⟩, -⟩ := h
  have el : (zf_left S.2.1).toInt32 = (if a 3 = 0 then 0 else a 36) := by
    unfold zf_left
    rw [l1]
    obtain ⟨n8, en⟩ := ok13 l2
    by_cases c : a 3 = 0
    · rw [if_pos c, if_pos (by rw [c]; decide)]; rfl
    · have n0 : 0 < nT (a 3) := Nat.pos_of_ne_zero (fun q => c (by rw [en, q]; rfl))
      have e0 : zf_at 8 S.2.1.1.2.2.1 0 = (a 36).toInt64 := (at8 (k := 0) (by decide)).trans (l3 0 n0).2.2.1
      rw [if_neg c, if_neg (by rw [en]; exact nI_nle n0 (by omega)), e0, Int32.toInt32_toInt64]
  have es : (zf_since S).toInt32 = (if 0 ≤ a 9 then a 10 - a 9 else -6) := by
    unfold zf_since
    have z0 : (0 : Int32).toInt = 0 := by decide
    rcases gd with ⟨d1, d2⟩ | ⟨d1, d2, d3⟩
    · rw [d1, d2, if_pos rfl, if_neg (by decide)]; rfl
    · have hne : ¬ S.2.2.1.2.2.2.2.2.2 = -1 := fun q => by
        rw [d1] at q
        have q2 := congrArg Int64.toInt q
        rw [Int32.toInt_toInt64] at q2
        have z1 : (-1 : Int64).toInt = -1 := by decide
        omega
      rw [if_neg hne, if_pos (Int32.le_iff_toInt_le.mpr (by omega)), t1, d1, ← zx_sub (by omega) (by omega), Int32.toInt32_toInt64]
  unfold zf_voy
  rw [el, es, t1, c1, p1, l1, w1, v1]
  simp only [Int32.toInt32_toInt64]
theorem tra_eq {T : Int} {S : vX7} {a : Nat → Int32} {s : Nat → Int64} (h : RS T S a s) (hi : vX1) (pd : vX4) (x : Int32) : zf_tra S hi pd x = (if x = 13 then a 13 else if x = 14 then a 14 else if x = 15 then a 15 else if x = 16 then a 16 else if x = 17 then a 17 else if x = 18 then a 7 else if x = 19 then a 19 else if x = 20 then pd.2.2.1 else if x = 21 then hi.2.2 else -2) := by
  obtain ⟨-, -, ⟨-, -, -, -, ⟨k1, -⟩, -⟩, ⟨q1, -, -, -, -, q6⟩, ⟨r1, -, -, r4, -, -, r7⟩, -, g1, -⟩ := h
  unfold zf_tra
  rw [k1, q1, q6, r1, r4, r7, g1]
theorem state_eq {T : Int} {S : vX7} {a : Nat → Int32} {s : Nat → Int64} (h : RS T S a s) (hT : T ≤ 1000000) (hi : vX1) (pd : vX4) (pm qm x : Int32) (e20 : pd.2.2.1 = qm) (e21 : hi.2.2 = pm) : zf_state S hi pd x = fm_state a pm qm x := by
  have hv := voy_eq h hT x
  have ht := tra_eq h hi pd x
  unfold zf_state
  rw [zx_in (x := x) (lo := 8) (hi := 12) (a := 8) (b := 12) rfl rfl, zx_in (x := x) (lo := 22) (hi := 30) (a := 22) (b := 30) rfl rfl]
  by_cases c1 : fm_in x 8 12 = 0
  · by_cases c2 : fm_in x 22 30 = 0
    · rw [if_pos c1, if_pos c2, stm_d a pm qm x c1 c2, hv, ht, e20, e21]
      by_cases c3 : (8 : Int32) ≤ x
      · have hn : ∀ k : Int32, k < 8 → ¬ x = k := fun k hk e => by
          rw [Int32.le_iff_toInt_le] at c3; rw [Int32.lt_iff_toInt_lt] at hk; rw [e] at c3; omega
        rw [if_pos c3, if_neg (hn 0 (by decide)), if_neg (hn 1 (by decide)), if_neg (hn 2 (by decide)), if_neg (hn 3 (by decide)), if_neg (hn 4 (by decide)), if_neg (hn 5 (by decide)), if_neg (hn 6 (by decide)), if_neg (hn 7 (by decide))]
      · have hn : ∀ k : Int32, 8 ≤ k → ¬ x = k := fun k hk e => c3 (e ▸ hk)
        rw [if_neg c3, if_neg (hn 13 (by decide)), if_neg (hn 14 (by decide)), if_neg (hn 15 (by decide)), if_neg (hn 16 (by decide)), if_neg (hn 17 (by decide)), if_neg (hn 18 (by decide)), if_neg (hn 19 (by decide)), if_neg (hn 20 (by decide)), if_neg (hn 21 (by decide))]
    · have h1 := h.1
      have g := fm_in1 c2
      have z22 : (22 : Int32).toInt = 22 := by decide
      have z30 : (30 : Int32).toInt = 30 := by decide
      obtain ⟨j, hj, rfl⟩ := z_nIof (x := x) (n := 31) (by omega) (by omega)
      rw [nI_toInt (by omega)] at g
      have e : (nI j : Int32) - 22 = nI (j - 22) := pk_sub (a := j) (b := 22) (by omega)
      rw [if_pos c1, if_neg c2, e, set_at h1 (by omega), Int32.toInt32_toInt64]
      unfold fm_state
      rw [if_pos c1, if_neg c2, e, nI_clamp (by omega)]
  · have g0 := h.2.2.1.1
    have g := fm_in1 c1
    have z8 : (8 : Int32).toInt = 8 := by decide
    have z12 : (12 : Int32).toInt = 12 := by decide
    obtain ⟨j, hj, rfl⟩ := z_nIof (x := x) (n := 13) (by omega) (by omega)
    rw [nI_toInt (by omega)] at g
    have e : (nI j : Int32) - 8 = nI (j - 8) := pk_sub (a := j) (b := 8) (by omega)
    have e29 : (29 : Int32) + nI j = nI (29 + j) := nI_add 29 j
    have e2 : (29 : Int32) + nI j - 8 = nI (29 + (j - 8)) := by
      rw [e29, show 29 + (j - 8) = 29 + j - 8 by omega]; exact pk_sub (a := 29 + j) (b := 8) (by omega)
    rw [if_neg c1, e, z_at_in (by omega) (by decide), g0 (j - 8) (by omega)]
    unfold fm_state
    rw [if_neg c1, e2, nI_clamp (by omega)]
