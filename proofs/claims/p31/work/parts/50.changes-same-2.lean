/-! the changes, on both sides: the second half -/
section OPS2
variable {S f : vX7} {v : vH} {rs : vR} {pd : vX4} {m : vX10} {c : Nat} {aa : Nat → Nat}
theorem RS_gyro {T : Int} {S : vX7} {a b : Nat → Int32} {s : Nat → Int64} {g : vX0} (h : RS T S a s) (hg : rGyro g b) (e : ∀ i, i < 4 ∨ (10 ≤ i ∧ i < 29) ∨ 34 ≤ i → b i = a i) : RS T (zs_gyro S g) b s := by
  obtain ⟨h1, h2, h3, h4, h5, h6, h7, h8⟩ := h
  exact ⟨rSet_c h1 (fun i p q => e i (by omega)), rShip_c h2 (fun i hi => e i (by omega)), hg, rSw_c h4 (fun i hi => e i (by omega)) trivial, rSi_c h5 (fun i hi => e i (by omega)), rTm_c h6 (e 10 (by omega)), by rw [e 17 (by omega)]; exact h7, by rw [e 18 (by omega)]; exact h8⟩
theorem op_damp (h : Rel (S, f, v, rs, pd) m) (hc : m.2.2.2.2.2.2.1 = nI c) (hc6 : c ≤ 6) (x : Int32) : opC (zf_damp aa S v x) (fm_damp c m x) f rs pd := by
  have hS := h.1
  have hS0 := h.1
  obtain ⟨h1, h2, ⟨g0, g1, g2, g3, g4, ⟨v1, v2, v3⟩, gd⟩, h4, h5, ⟨t1, t2, t3⟩, h7, h8⟩ := hS0
  have e28 : zf_at 9 S.1 8 = (m.1 28).toInt64 := set_at h1 (k := 8) (by decide)
  have z0 : (0 : Int32).toInt = 0 := by decide
  have z4 : (4 : Int32).toInt = 4 := by decide
  unfold zf_damp fm_damp
  rw [zx_in (x := x) (lo := 0) (hi := 4) (a := 0) (b := 4) rfl rfl]
  by_cases c1 : fm_in x 0 4 = 0
  · rw [if_pos c1, if_pos c1]; exact ⟨rfl, h⟩
  · rw [if_neg c1, if_neg c1]
    have gx := fm_in1 c1
    have e : ∀ i, i ≠ 8 → i ≠ 9 → upd (upd m.1 8 x) 9 (upd m.1 8 x 10) i = m.1 i := fun i p q => by rw [upd_ne q, upd_ne p]
    have e9 : upd (upd m.1 8 x) 9 (upd m.1 8 x 10) 9 = m.1 10 := by rw [upd_eq, upd_ne (by decide)]
    have e8 : upd (upd m.1 8 x) 9 (upd m.1 8 x 10) 8 = x := by rw [upd_ne (by decide), upd_eq]
    have hR : RS 100000 (zf_damp1 S x) (upd (upd m.1 8 x) 9 (upd m.1 8 x 10)) m.2.1 := by
      refine RS_gyro hS ⟨fun j hj => by rw [e (29 + j) (by omega) (by omega)]; exact g0 j hj, by rw [e 4 (by decide) (by decide)]; exact g1, by rw [e 5 (by decide) (by decide)]; exact g2, by rw [e 6 (by decide) (by decide)]; exact g3, by rw [e 7 (by decide) (by decide)]; exact g4, by rw [e8]; exact ⟨rfl, by omega, by omega⟩, ?_⟩ (fun i hi => e i (by omega) (by omega))
      unfold rDmp
      rw [e9, e 10 (by decide) (by decide)]
      exact Or.inr ⟨t1, t2, Int.le_refl _⟩
    have hok : opC (S.2.2.1.2.2.2.2.2.1, zf_damp1 S x, zf_rec aa S v) ((fm_keep c m).1 8, (upd (upd (fm_keep c m).1 8 x) 9 (upd (fm_keep c m).1 8 x 10), (fm_keep c m).2)) f rs pd := ⟨v1, rel_change h hc hc6 hR⟩
    rcases gd with ⟨d1, d2⟩ | ⟨d1, d2, d3⟩
    · have es : zf_since S = -6 := by unfold zf_since; rw [if_pos d1]
      rw [if_pos es, if_pos (show m.1 9 < 0 by rw [d2]; decide)]; exact hok
    · have hne : ¬ S.2.2.1.2.2.2.2.2.2 = -1 := fun q => by
        rw [d1] at q
        have q2 := congrArg Int64.toInt q
        rw [Int32.toInt_toInt64] at q2
        have z1 : (-1 : Int64).toInt = -1 := by decide
        omega
      have es : zf_since S = (m.1 10 - m.1 9).toInt64 := by unfold zf_since; rw [if_neg hne, t1, d1, zx_sub (by omega) (by omega)]
      have hn6 : ¬ zf_since S = -6 := fun q => by
        rw [es] at q
        have q2 := congrArg Int64.toInt q
        rw [Int32.toInt_toInt64, zi_sub (by omega) (by omega)] at q2
        have z6 : (-6 : Int64).toInt = -6 := by decide
        omega
      have hn9 : ¬ m.1 9 < 0 := fun q => by have := Int32.lt_iff_toInt_lt.mp q; omega
      rw [if_neg hn6, if_neg hn9, es, e28]
      by_cases c2 : m.1 (20 + 8) ≤ m.1 10 - m.1 9
      · rw [if_pos c2, if_pos (zx_le.mpr c2)]; exact hok
      · rw [if_neg c2, if_neg (fun q => c2 (zx_le.mp q))]; exact ⟨rfl, h⟩
theorem op_correct (h : Rel (S, f, v, rs, pd) m) (hc : m.2.2.2.2.2.2.1 = nI c) (hc6 : c ≤ 6) (x y : Int32) : opC (zf_correct aa S v x y) (fm_correct c m x y) f rs pd := by
  have hS := h.1
  have hS0 := h.1
  obtain ⟨h1, h2, ⟨g0, g1, g2, g3, g4, g5, gd⟩, h4, h5, h6, h7, h8⟩ := hS0
  unfold zf_correct fm_correct
  rw [isD_eq, isS_eq]
  by_cases c1 : fm_in x (-70) 70 = 0
  · rw [if_pos c1, if_pos c1]; exact ⟨rfl, h⟩
  · by_cases c2 : fm_in y 0 400 = 0
    · rw [if_neg c1, if_neg c1, if_pos c2, if_pos c2]; exact ⟨rfl, h⟩
    · rw [if_neg c1, if_neg c1, if_neg c2, if_neg c2]
      have e : ∀ i, i ≠ 6 → i ≠ 7 → upd (upd m.1 6 x) 7 y i = m.1 i := fun i p q => by rw [upd_ne q, upd_ne p]
      have hR : RS 100000 (zf_cor1 S x y) (upd (upd m.1 6 x) 7 y) m.2.1 := by
        refine RS_gyro hS ⟨fun j hj => by rw [e (29 + j) (by omega) (by omega)]; exact g0 j hj, by rw [e 4 (by decide) (by decide)]; exact g1, by rw [e 5 (by decide) (by decide)]; exact g2, by rw [upd_ne (by decide), upd_eq]; exact ⟨rfl, zdR_of c1⟩, by rw [upd_eq]; exact ⟨rfl, zsR_of c2⟩, by rw [e 8 (by decide) (by decide)]; exact g5, ?_⟩ (fun i hi => e i (by omega) (by omega))
        unfold rDmp
        rw [e 9 (by decide) (by decide), e 10 (by decide) (by decide)]; exact gd
      refine ⟨?_, rel_change h hc hc6 hR⟩
      have hiff : (zf_rest (zf_cor1 S x y) = zf_rest S) ↔ (fm_rest (upd (upd m.1 6 x) 7 y) = fm_rest m.1) := by
        rw [(rest_eq hR).1, (rest_eq hS).1]
        exact ⟨fun q => zx_inj q, fun q => by rw [q]⟩
      dsimp only
      by_cases d : fm_rest (upd (upd m.1 6 x) 7 y) = fm_rest m.1
      · rw [if_pos (hiff.mpr d), if_pos (show fm_rest (upd (upd (fm_keep c m).1 6 x) 7 y) = fm_rest (fm_keep c m).1 from d)]
      · rw [if_neg (fun q => d (hiff.mp q)), if_neg (show ¬ fm_rest (upd (upd (fm_keep c m).1 6 x) 7 y) = fm_rest (fm_keep c m).1 from d)]
theorem RS_forget {T : Int} {S : vX7} {a : Nat → Int32} {s : Nat → Int64} (h : RS T S a s) : RS T (zs_sw S (zf_forget S.2.2.2.1)) (upd (upd a 13 0) 12 0) s := by
  obtain ⟨h1, h2, h3, ⟨s1, s2, s3, s4, s5, s6⟩, h5, h6, h7, h8⟩ := h
  have e : ∀ i, i ≠ 13 → i ≠ 12 → upd (upd a 13 0) 12 0 i = a i := fun i p q => by rw [upd_ne q, upd_ne p]
  have e13 : upd (upd a 13 0) 12 0 13 = 0 := by rw [upd_ne (by decide), upd_eq]
  refine ⟨rSet_c h1 (fun i p q => e i (by omega) (by omega)), rShip_c h2 (fun i hi => e i (by omega) (by omega)), rGyro_c h3 (fun i hi => e i (by omega) (by omega)), ?_, rSi_c h5 (fun i hi => e i (by omega) (by omega)), rTm_c h6 (e 10 (by decide) (by decide)), by rw [e 17 (by decide) (by decide)]; exact h7, by rw [e 18 (by decide) (by decide)]; exact h8⟩
  refine ⟨e13.symm, by rw [e13]; exact ⟨by decide, by decide⟩, fun j hj => ?_, by rw [e 10 (by decide) (by decide)]; exact s4, upd_eq.symm, by rw [e 14 (by decide) (by decide)]; exact s6⟩
  rw [e13] at hj
  exact absurd hj (Nat.not_lt_zero j)
theorem op_forget (h : Rel (S, f, v, rs, pd) m) (hc : m.2.2.2.2.2.2.1 = nI c) (hc6 : c ≤ 6) : opC (zf_forgetS aa S v) (fm_forget c m) f rs pd :=
  ⟨h.1.2.2.2.1.1, rel_change h hc hc6 (RS_forget h.1)⟩
theorem RS_guess {T : Int} {S : vX7} {a : Nat → Int32} {s : Nat → Int64} (h : RS T S a s) (d : Int32) : RS T (S.1, S.2.1, S.2.2.1, S.2.2.2.1, S.2.2.2.2.1, S.2.2.2.2.2.1, S.2.2.2.2.2.2.1 + 1, S.2.2.2.2.2.2.2 + d.toInt64) (upd (upd a 18 (a 18 + d)) 17 (upd a 18 (a 18 + d) 17 + 1)) s := by
  obtain ⟨h1, h2, h3, h4, h5, h6, h7, h8⟩ := h
  have e : ∀ i, i ≠ 18 → i ≠ 17 → upd (upd a 18 (a 18 + d)) 17 (upd a 18 (a 18 + d) 17 + 1) i = a i := fun i p q => by rw [upd_ne q, upd_ne p]
  refine ⟨rSet_c h1 (fun i p q => e i (by omega) (by omega)), rShip_c h2 (fun i hi => e i (by omega) (by omega)), rGyro_c h3 (fun i hi => e i (by omega) (by omega)), rSw_c h4 (fun i hi => e i (by omega) (by omega)) trivial, ?_, rTm_c h6 (e 10 (by decide) (by decide)), ?_, ?_⟩
  · obtain ⟨i1, i2, i3, i4, i5, i6, i7⟩ := h5
    have e19 := e 19 (by omega) (by omega)
    have e15 := e 15 (by omega) (by omega)
    refine ⟨by rw [e19]; exact i1, by rw [e19]; exact i2, fun j hj => ?_, by rw [e15]; exact i4, by rw [e15]; exact i5, fun j hj => ?_, by rw [e 16 (by omega) (by omega)]; exact i7⟩
    · rw [e19] at hj; rw [e (79 + j) (by omega) (by omega)]; exact i3 j hj
    · rw [e15] at hj; rw [e (74 + j) (by omega) (by omega)]; exact i6 j hj
  · show S.2.2.2.2.2.2.1 + 1 = _
    rw [upd_eq, upd_ne (by decide), h7]
  · show (S.2.2.2.2.2.2.2 + d.toInt64).toInt32 = _
    rw [Int64.toInt32_add, h8, Int32.toInt32_toInt64, upd_ne (by decide), upd_eq]
theorem op_guess (h : Rel (S, f, v, rs, pd) m) (hc : m.2.2.2.2.2.2.1 = nI c) (hc6 : c ≤ 6) (x : Int32) : opC (zf_guess aa S v x) (fm_guess c m x) f rs pd := by
  have hS := h.1
  have hr := rest_eq hS
  unfold zf_guess fm_guess
  rw [zx_in (x := x) (lo := -1800000) (hi := 1800000) (a := -1800000) (b := 1800000) (by decide) rfl]
  by_cases c1 : fm_in x (-1800000) 1800000 = 0
  · rw [if_pos c1, if_pos c1]; exact ⟨rfl, h⟩
  · rw [if_neg c1, if_neg c1]
    have b := zB_of (m := 1800000) c1 (by decide) (by decide)
    have rb := hr.2
    unfold zB at b rb
    have ed : zf_abs (x.toInt64 - zf_rest S) = (fm_size (x - fm_rest m.1)).toInt64 := by
      rw [hr.1, ← zx_sub (by omega) (by omega)]
      exact zx_abs (by rw [zi_sub (by omega) (by omega)]; omega)
    rw [ed]
    exact ⟨Int32.toInt32_toInt64 _, rel_change h hc hc6 (RS_guess hS _)⟩
/-- observing -/
theorem xor_sign (x : Int64) : (0 ≤ x ^^^ 36000) ↔ 0 ≤ x.toInt := by
  have hm : ∀ y : Int64, y.toBitVec.msb = decide (y.toInt < 0) := fun y => BitVec.msb_eq_toInt
  have h1 : (x ^^^ 36000).toBitVec.msb = x.toBitVec.msb := by
    have e : (x ^^^ 36000).toBitVec = x.toBitVec ^^^ (36000 : Int64).toBitVec := rfl
    rw [e, BitVec.msb_xor]
    have e2 : (36000 : Int64).toBitVec.msb = false := by decide
    rw [e2, Bool.xor_false]
  rw [hm, hm] at h1
  have z0 : (0 : Int64).toInt = 0 := by decide
  rw [Int64.le_iff_toInt_le, z0]
  have h2 := decide_eq_decide.mp h1
  omega
theorem fm_eq {y : Int32} (h : -20000 ≤ y.toInt ∧ y.toInt ≤ 56000) : (zf_fm y.toInt64 36000).toInt32 = (y - y / 36000 * 36000 + 36000) - (y - y / 36000 * 36000 + 36000) / 36000 * 36000 := by
  have z36 : (36000 : Int32).toInt = 36000 := by decide
  have d1 : (y / 36000).toInt = y.toInt.tdiv 36000 := by rw [zi_div (by omega), z36]
  have b1 : (0 ≤ y.toInt → y.toInt.tdiv 36000 = y.toInt / 36000) ∧ (y.toInt < 0 → y.toInt.tdiv 36000 = 0) := by
    constructor
    · intro q; exact Int.tdiv_eq_ediv_of_nonneg q
    · intro q
      have b := zt_b (x := -y.toInt) (k := 36000) (m := 0) (by omega)
      have e : (-y.toInt).tdiv 36000 = 0 := by rw [Int.tdiv_eq_ediv_of_nonneg (by omega)]; omega
      rw [Int.neg_tdiv] at e; omega
  have m1 : (y / 36000 * 36000).toInt = y.toInt.tdiv 36000 * 36000 := by
    by_cases q : 0 ≤ y.toInt
    · have := b1.1 q; rw [zi_mul (by rw [d1, z36]; omega) (by rw [d1, z36]; omega), d1, z36]
    · have := b1.2 (by omega); rw [zi_mul (by rw [d1, z36]; omega) (by rw [d1, z36]; omega), d1, z36]
  have r1 : (y - y / 36000 * 36000).toInt = y.toInt - y.toInt.tdiv 36000 * 36000 := by
    by_cases q : 0 ≤ y.toInt
    · have := b1.1 q; rw [zi_sub (by rw [m1]; omega) (by rw [m1]; omega), m1]
    · have := b1.2 (by omega); rw [zi_sub (by rw [m1]; omega) (by rw [m1]; omega), m1]
  have er : y.toInt64 - y.toInt64 / 36000 * 36000 = (y - y / 36000 * 36000).toInt64 := by
    by_cases q : 0 ≤ y.toInt
    · have := b1.1 q
      rw [zx_sub (by rw [m1]; omega) (by rw [m1]; omega), zx_mul (by rw [d1, z36]; omega) (by rw [d1, z36]; omega), zx_div (by omega)]; rfl
    · have := b1.2 (by omega)
      rw [zx_sub (by rw [m1]; omega) (by rw [m1]; omega), zx_mul (by rw [d1, z36]; omega) (by rw [d1, z36]; omega), zx_div (by omega)]; rfl
  generalize hr : y - y / 36000 * 36000 = r at *
  have hx := xor_sign y.toInt64
  rw [Int32.toInt_toInt64] at hx
  have a1 : (r + 36000).toInt = r.toInt + 36000 := by
    by_cases q : 0 ≤ y.toInt
    · have := b1.1 q; rw [zi_add (by omega) (by omega), z36]
    · have := b1.2 (by omega); rw [zi_add (by omega) (by omega), z36]
  have dd : ((r + 36000) / 36000).toInt = (r.toInt + 36000) / 36000 := by
    by_cases q : 0 ≤ y.toInt
    · have := b1.1 q; rw [zi_div (by omega), a1, z36, Int.tdiv_eq_ediv_of_nonneg (by omega)]
    · have := b1.2 (by omega); rw [zi_div (by omega), a1, z36, Int.tdiv_eq_ediv_of_nonneg (by omega)]
  have mm : ((r + 36000) / 36000 * 36000).toInt = (r.toInt + 36000) / 36000 * 36000 := by
    by_cases q : 0 ≤ y.toInt
    · have := b1.1 q; rw [zi_mul (by rw [dd, z36]; omega) (by rw [dd, z36]; omega), dd, z36]
    · have := b1.2 (by omega); rw [zi_mul (by rw [dd, z36]; omega) (by rw [dd, z36]; omega), dd, z36]
  have rr : (r + 36000 - (r + 36000) / 36000 * 36000).toInt = r.toInt + 36000 - (r.toInt + 36000) / 36000 * 36000 := by
    by_cases q : 0 ≤ y.toInt
    · have := b1.1 q; rw [zi_sub (by rw [a1, mm]; omega) (by rw [a1, mm]; omega), a1, mm]
    · have := b1.2 (by omega); rw [zi_sub (by rw [a1, mm]; omega) (by rw [a1, mm]; omega), a1, mm]
  unfold zf_fm
  rw [er]
  by_cases q : 0 ≤ y.toInt
  · have := b1.1 q
    rw [if_pos (hx.mpr q), Int32.toInt32_toInt64]
    apply Int32.toInt_inj.mp
    rw [rr]; omega
  · have := b1.2 (by omega)
    rw [if_neg (fun p => q (hx.mp p))]
    have hne : ¬ r.toInt64 = 0 := fun p => by
      have p2 := congrArg Int64.toInt p
      have z0 : (0 : Int64).toInt = 0 := by decide
      rw [Int32.toInt_toInt64, z0] at p2
      omega
    have e36 : r.toInt64 + 36000 = (r + 36000).toInt64 := by rw [zx_add (by omega) (by omega)]; rfl
    rw [if_neg hne, e36, Int32.toInt32_toInt64]
    apply Int32.toInt_inj.mp
    rw [rr, a1]; omega
theorem seed_eq {S : vX7} {a : Nat → Int32} (h1 : rSet S.1 a) : zf_seed S = (if fm_seed a = 65536 then 0 else fm_seed a).toInt64 ∧ 0 ≤ (if fm_seed a = 65536 then (0 : Int32) else fm_seed a).toInt ∧ (if fm_seed a = 65536 then (0 : Int32) else fm_seed a).toInt ≤ 65535 := by
  have e27 : zf_at 9 S.1 7 = (a 27).toInt64 := set_at h1 (k := 7) (by decide)
  have r27 : 0 ≤ (a 27).toInt ∧ (a 27).toInt ≤ 65535 := (h1 7 (by decide)).2
  have z75 : (75 : Int32).toInt = 75 := by decide
  have z74 : (74 : Int32).toInt = 74 := by decide
  have zM : (65537 : Int32).toInt = 65537 := by decide
  have m1 : (75 * a 27).toInt = 75 * (a 27).toInt := by rw [zi_mul (by rw [z75]; omega) (by rw [z75]; omega), z75]
  have m2 : (75 * a 27 + 74).toInt = 75 * (a 27).toInt + 74 := by rw [zi_add (by rw [m1, z74]; omega) (by rw [m1, z74]; omega), m1, z74]
  have ex : 75 * zf_at 9 S.1 7 + 74 = (75 * a 27 + 74).toInt64 := by
    rw [e27, zx_add (by rw [m1, z74]; omega) (by rw [m1, z74]; omega), zx_mul (by rw [z75]; omega) (by rw [z75]; omega)]; rfl
  have dq : ((75 * a 27 + 74) / 65537).toInt = (75 * (a 27).toInt + 74) / 65537 := by
    rw [zi_div (by omega), m2, zM, Int.tdiv_eq_ediv_of_nonneg (by omega)]
  have dm : ((75 * a 27 + 74) / 65537 * 65537).toInt = (75 * (a 27).toInt + 74) / 65537 * 65537 := by
    rw [zi_mul (by rw [dq, zM]; omega) (by rw [dq, zM]; omega), dq, zM]
  have es : (fm_seed a).toInt = (75 * (a 27).toInt + 74) - (75 * (a 27).toInt + 74) / 65537 * 65537 := by
    show (75 * a 27 + 74 - (75 * a 27 + 74) / 65537 * 65537).toInt = _
    rw [zi_sub (by rw [m2, dm]; omega) (by rw [m2, dm]; omega), m2, dm]
  have e1 : zf_seed1 S = (fm_seed a).toInt64 := by
    unfold zf_seed1
    rw [ex]
    show _ = (75 * a 27 + 74 - (75 * a 27 + 74) / 65537 * 65537).toInt64
    rw [zx_sub (by rw [m2, dm]; omega) (by rw [m2, dm]; omega), zx_mul (by rw [dq, zM]; omega) (by rw [dq, zM]; omega), zx_div (by omega)]
    rfl
  have z6 : (65536 : Int32).toInt = 65536 := by decide
  have z0 : (0 : Int32).toInt = 0 := by decide
  unfold zf_seed
  rw [e1]
  by_cases q : fm_seed a = 65536
  · have q' : (fm_seed a).toInt64 = 65536 := by rw [q]; rfl
    rw [if_pos q', if_pos q]; exact ⟨rfl, by omega, by omega⟩
  · have q' : ¬ (fm_seed a).toInt64 = 65536 := fun p => q (zx_inj p)
    have q2 : ¬ (fm_seed a).toInt = 65536 := fun p => q (Int32.toInt_inj.mp (p.trans z6.symm))
    rw [if_neg q', if_neg q]; exact ⟨rfl, by omega, by omega⟩
theorem noise_eq {e1 sd n : Int32} (hs : 0 ≤ sd.toInt ∧ sd.toInt ≤ 65535) (hn : 0 ≤ n.toInt ∧ n.toInt ≤ 500) (he : zB 1800000 e1) :
    e1.toInt64 / 100 + (if 0 < 2 * n.toInt64 + 1 then sd.toInt64 - sd.toInt64 / (2 * n.toInt64 + 1) * (2 * n.toInt64 + 1) - n.toInt64 else 0) = (e1 / 100 + (sd - sd / (2 * n + 1) * (2 * n + 1)) - n).toInt64 ∧ zB 20000 (e1 / 100 + (sd - sd / (2 * n + 1) * (2 * n + 1)) - n) := by
  unfold zB at he
  have z2 : (2 : Int32).toInt = 2 := by decide
  have z1 : (1 : Int32).toInt = 1 := by decide
  have z100 : (100 : Int32).toInt = 100 := by decide
  have m1 : (2 * n).toInt = 2 * n.toInt := by rw [zi_mul (by rw [z2]; omega) (by rw [z2]; omega), z2]
  have m2 : (2 * n + 1).toInt = 2 * n.toInt + 1 := by rw [zi_add (by rw [m1, z1]; omega) (by rw [m1, z1]; omega), m1, z1]
  have ew : 2 * n.toInt64 + 1 = (2 * n + 1).toInt64 := by
    rw [zx_add (by rw [m1, z1]; omega) (by rw [m1, z1]; omega), zx_mul (by rw [z2]; omega) (by rw [z2]; omega)]; rfl
  have hw : (0 : Int64) < 2 * n.toInt64 + 1 := by
    rw [ew]; exact (zx_lt (x := 0)).mpr (Int32.lt_iff_toInt_lt.mpr (by have z0 : (0 : Int32).toInt = 0 := by decide
                                                                       omega))
  have hk : 0 < 2 * n.toInt + 1 := by omega
  have dq : (sd / (2 * n + 1)).toInt = sd.toInt / (2 * n.toInt + 1) := by rw [zi_div (by omega), m2, Int.tdiv_eq_ediv_of_nonneg hs.1]
  have q0 : 0 ≤ sd.toInt / (2 * n.toInt + 1) := Int.ediv_nonneg hs.1 (by omega)
  have q1 : sd.toInt / (2 * n.toInt + 1) * (2 * n.toInt + 1) ≤ sd.toInt := Int.ediv_mul_le _ (by omega)
  have q3 : 0 ≤ sd.toInt / (2 * n.toInt + 1) * (2 * n.toInt + 1) := Int.mul_nonneg q0 (by omega)
  have q2 : sd.toInt < sd.toInt / (2 * n.toInt + 1) * (2 * n.toInt + 1) + (2 * n.toInt + 1) := by
    have := Int.lt_ediv_add_one_mul_self sd.toInt hk
    rw [Int.add_mul, Int.one_mul] at this; exact this
  have dm : (sd / (2 * n + 1) * (2 * n + 1)).toInt = sd.toInt / (2 * n.toInt + 1) * (2 * n.toInt + 1) := by
    rw [zi_mul (by rw [dq, m2]; omega) (by rw [dq, m2]; omega), dq, m2]
  have r1 : (sd - sd / (2 * n + 1) * (2 * n + 1)).toInt = sd.toInt - sd.toInt / (2 * n.toInt + 1) * (2 * n.toInt + 1) := by
    rw [zi_sub (by rw [dm]; omega) (by rw [dm]; omega), dm]
  have er : sd.toInt64 - sd.toInt64 / (2 * n + 1).toInt64 * (2 * n + 1).toInt64 = (sd - sd / (2 * n + 1) * (2 * n + 1)).toInt64 := by
    rw [zx_sub (by rw [dm]; omega) (by rw [dm]; omega), zx_mul (by rw [dq, m2]; omega) (by rw [dq, m2]; omega), zx_div (by omega)]
  have d1 : (e1 / 100).toInt = e1.toInt.tdiv 100 := by rw [zi_div (by omega), z100]
  have b1 := zt_b (x := e1.toInt) (k := 100) (m := 18000) (by omega) (by omega) (by omega)
  have a1 : (e1 / 100 + (sd - sd / (2 * n + 1) * (2 * n + 1))).toInt = e1.toInt.tdiv 100 + (sd.toInt - sd.toInt / (2 * n.toInt + 1) * (2 * n.toInt + 1)) := by
    rw [zi_add (by rw [d1, r1]; omega) (by rw [d1, r1]; omega), d1, r1]
  generalize sd - sd / (2 * n + 1) * (2 * n + 1) = r at *
  constructor
  · rw [if_pos hw, ew, er, zx_sub (by rw [a1]; omega) (by rw [a1]; omega), zx_add (by rw [d1, r1]; omega) (by rw [d1, r1]; omega), zx_div (by omega)]
    show e1.toInt64 / 100 + _ = e1.toInt64 / 100 + _ - _
    rw [Int64.sub_eq_add_neg, Int64.sub_eq_add_neg, Int64.add_assoc]
  · unfold zB
    rw [zi_sub (by rw [a1]; omega) (by rw [a1]; omega), a1]; omega
theorem chk_15 {k : Nat} {a : Nat → Int32} {d : Int32} : fm_chk k a d 15 = nI ((if k < 5 then k else 4) + 1) := by unfold fm_chk; rw [upd_eq]
theorem chk_74 {k : Nat} {a : Nat → Int32} {d : Int32} : fm_chk k a d 74 = d := by unfold fm_chk; rw [upd_ne (by decide), upd_eq]
theorem chk_j {k j : Nat} {a : Nat → Int32} {d : Int32} (h0 : 0 < j) (hj : j ≤ (if k < 5 then k else 4)) : fm_chk k a d (74 + j) = a (74 + (j - 1)) := by
  unfold fm_chk; rw [upd_ne (by omega), upd_ne (by omega)]; unfold zcu; rw [if_pos (by omega), show 74 + j - 1 = 74 + (j - 1) by omega]
theorem chk_ne {k i : Nat} {a : Nat → Int32} {d : Int32} (h : i ≠ 15) (h2 : i < 74 ∨ 79 ≤ i) : fm_chk k a d i = a i := by
  unfold fm_chk; rw [upd_ne h, upd_ne (by omega)]; unfold zcu; rw [if_neg (by split <;> omega)]
theorem chn_eq {k : Nat} (h : k ≤ 5) : (if nI 5 < nI k + 1 then nI 5 else nI k + 1) = nI ((if k < 5 then k else 4) + 1) := by
  rw [nI_1]
  by_cases c : k < 5
  · rw [if_pos c, if_neg (fun q => by have := (nI_ltI (a := 5) (b := k + 1) (by omega) (by omega)).mp q; omega)]
  · rw [if_neg c, if_pos (nI_lt (a := 5) (b := k + 1) (by omega) (by omega))]
theorem chk_RS {T : Int} {S : vX7} {a : Nat → Int32} {s : Nat → Int64} {k : Nat} {d : Int32} (h : RS T S a s) (hk : a 15 = nI k) (hk5 : k ≤ 5) (hd : zB 20000 d) : RS T (zs_si S (zf_addCheck S.2.2.2.2.1 d.toInt64)) (upd (fm_chk k a d) 16 (fm_chk k a d 16 + 1)) s := by
  obtain ⟨h1, h2, h3, h4, ⟨i1, i2, i3, i4, i5, i6, i7⟩, h6, h7, h8⟩ := h
  have e : ∀ i, i ≠ 15 → i ≠ 16 → (i < 74 ∨ 79 ≤ i) → upd (fm_chk k a d) 16 (fm_chk k a d 16 + 1) i = a i := fun i p q r => by rw [upd_ne q, chk_ne p r]
  have ec : ∀ i, i ≠ 16 → upd (fm_chk k a d) 16 (fm_chk k a d 16 + 1) i = fm_chk k a d i := fun i p => upd_ne p
  have hlast : (if k < 5 then k else 4) ≤ 4 := by split <;> omega
  have hlk : (if k < 5 then k else 4) ≤ k := by split <;> omega
  refine ⟨rSet_c h1 (fun i p q => e i (by omega) (by omega) (by omega)), rShip_c h2 (fun i hi => e i (by omega) (by omega) (by omega)), rGyro_c h3 (fun i hi => e i (by omega) (by omega) (by omega)), rSw_c h4 (fun i hi => e i (by omega) (by omega) (by omega)) trivial, ?_, rTm_c h6 (e 10 (by omega) (by omega) (by omega)), by rw [e 17 (by omega) (by omega) (by omega)]; exact h7, by rw [e 18 (by omega) (by omega) (by omega)]; exact h8⟩
  have e19 := e 19 (by omega) (by omega) (by omega)
  have e15 : upd (fm_chk k a d) 16 (fm_chk k a d 16 + 1) 15 = nI ((if k < 5 then k else 4) + 1) := by rw [ec 15 (by omega), chk_15]
  refine ⟨by rw [e19]; exact i1, by rw [e19]; exact i2, fun j hj => ?_, ?_, by rw [e15, nI_toInt (by omega)]; omega, fun j hj => ?_, ?_⟩
  · rw [e19] at hj
    have n6 : nT (a 19) ≤ 6 := nT_le i2.2
    rw [e (79 + j) (by omega) (by omega) (by omega)]; exact i3 j hj
  · show (if nI 5 < S.2.2.2.2.1.2.1.2 + 1 then nI 5 else S.2.2.2.2.1.2.1.2 + 1) = _
    rw [i4, hk, e15, chn_eq hk5]
  · rw [e15, nT_nI (by omega)] at hj
    show zsh S.2.2.2.2.1.2.1.1 d.toInt64 j = _ ∧ _
    rw [ec (74 + j) (by omega)]
    cases j with
    | zero => rw [show 74 + 0 = 74 from rfl, chk_74]; exact ⟨rfl, hd⟩
    | succ r =>
      rw [chk_j (by omega) (by omega), Nat.add_sub_cancel]
      exact i6 r (by rw [hk, nT_nI (by omega)]; omega)
  · show S.2.2.2.2.1.2.2.2 + 1 = _
    rw [upd_eq, chk_ne (by omega) (by omega), i7]
theorem op_observe (h : Rel (S, f, v, rs, pd) m) (hc : m.2.2.2.2.2.2.1 = nI c) (hc6 : c ≤ 6) {k : Nat} (hk : m.1 15 = nI k) (hk5 : k ≤ 5) (x : Int32) : opC (zf_obs aa S v x) (fm_obs c k m x) f rs pd := by
  have hS := h.1
  have hS0 := h.1
  obtain ⟨h1, h2, h3, h4, h5, h6, h7, h8⟩ := hS0
  have h50 := h5
  obtain ⟨i1, i2, i3, i4, i5, i6, i7⟩ := h5
  have hci := cnt_in (x := x) (n := m.1 19) i2.1
  unfold zf_obs fm_obs
  rw [i1]
  by_cases c1 : x < 0
  · rw [if_pos (hci.mpr (Or.inl c1)), if_pos c1]; exact ⟨rfl, h⟩
  · by_cases c2 : x < m.1 19
    · rw [if_neg (fun q => by rcases hci.mp q with q | q; exact c1 q; exact q c2), if_neg c1, if_pos c2]
      obtain ⟨q, hq, rfl⟩ := z_ix13 (n := nT (m.1 19)) c1 c2 (by unfold nT; omega)
      have n6 : nT (m.1 19) ≤ 6 := nT_le i2.2
      obtain ⟨sd, sd0, sd1⟩ := seed_eq (S := S) h1
      generalize hsdv : (if fm_seed m.1 = 65536 then (0 : Int32) else fm_seed m.1) = sv at sd sd0 sd1
      have eb : fm_ob1 m.1 = upd m.1 27 sv := by unfold fm_ob1; rw [hsdv]
      have e26 : zf_at 9 S.1 6 = (m.1 26).toInt64 := set_at h1 (k := 6) (by decide)
      have r26 : 0 ≤ (m.1 26).toInt ∧ (m.1 26).toInt ≤ 500 := (h1 6 (by decide)).2
      have ewr : zf_write 9 S.1 7 (zf_seed S) = vp_updL S.1 7 (zf_seed S) := wr_in (k := 7) (by decide) (by decide)
      have e26' : zf_at 9 (zf_write 9 S.1 7 (zf_seed S)) 6 = (m.1 26).toInt64 := by
        rw [ewr]
        have e6 : zf_at 9 (vp_updL S.1 7 (zf_seed S)) 6 = vp_updL S.1 7 (zf_seed S) 6 := at9 (k := 6) (by decide)
        rw [e6, updL_ne (by decide)]; exact (h1 6 (by decide)).1
      have hno := noise_eq (e1 := m.1 4) (sd := sv) (n := m.1 26) ⟨sd0, sd1⟩ r26 h3.2.1.2
      have ed : zf_obd S = (fm_diff (fm_ob1 m.1)).toInt64 := by
        show S.2.2.1.2.1 / 100 + (zf_noise S).1 = _
        unfold zf_noise
        dsimp only
        rw [e26', sd, h3.2.1.1, hno.1]
        unfold fm_diff
        rw [eb, upd_ne (by decide), upd_eq, upd_ne (by decide)]
      have bd : zB 20000 (fm_diff (fm_ob1 m.1)) := by
        unfold fm_diff
        rw [eb, upd_ne (by decide), upd_eq, upd_ne (by decide)]; exact hno.2
      have hR1 : RS 100000 (zf_ob1 S) (upd m.1 27 sv) m.2.1 := by
        have g := RS_set hS (w := 7) (by decide) (y := sv) ⟨sd0, sd1⟩
        show RS 100000 (zf_write 9 S.1 7 (zf_seed S), S.2) _ _
        rw [sd]; exact g
      have kk1 : (fm_keep c m).1 = m.1 := rfl
      have hR2 := chk_RS hR1 (k := k) (d := fm_diff (fm_ob1 m.1)) (by rw [upd_ne (by decide)]; exact hk) hk5 bd
      obtain ⟨b1, b2⟩ := i3 q hq
      have eat : zf_at 6 S.2.2.2.2.1.1 (nI q) = (m.1 (79 + q)).toInt64 := (z_at_in (by omega) (by decide)).trans b1
      unfold zcR at b2
      have bd' := bd
      unfold zB at bd'
      have es : zf_at 6 S.2.2.2.2.1.1 (nI q) + zf_obd S = (m.1 (79 + q) + fm_diff (fm_ob1 m.1)).toInt64 := by
        rw [eat, ed, zx_add (by omega) (by omega)]
      have e79 : upd (fm_chk k (upd m.1 27 sv) (fm_diff (fm_ob1 m.1))) 16 (fm_chk k (upd m.1 27 sv) (fm_diff (fm_ob1 m.1)) 16 + 1) (79 + q) = m.1 (79 + q) := by
        rw [upd_ne (by omega), chk_ne (by omega) (by omega), upd_ne (by omega)]
      have eob : fm_ob2 k (fm_keep c m) = (fm_chk k (upd m.1 27 sv) (fm_diff (fm_ob1 m.1)), (fm_keep c m).2) := by
        unfold fm_ob2 fm_chkv
        dsimp only
        rw [kk1, ← eb]
      refine ⟨?_, ?_⟩
      · show (zf_fm (zf_at 6 S.2.2.2.2.1.1 (nI q) + zf_obd S) 36000).toInt32 = _
        rw [es, fm_eq (by rw [zi_add (by omega) (by omega)]; omega)]
        dsimp only
        rw [eob, kk1, nI_clamp (by omega)]
        dsimp only
        rw [e79]
      · dsimp only
        rw [eob]
        dsimp only
        have eS : zf_addCheck (zf_ob1 S).2.2.2.2.1 (zf_obd S) = zf_addCheck S.2.2.2.2.1 (fm_diff (fm_ob1 m.1)).toInt64 := by rw [ed]; rfl
        rw [eS]
        exact rel_change h hc hc6 hR2
    · rw [if_pos (hci.mpr (Or.inr c2)), if_neg c1, if_neg c2]; exact ⟨rfl, h⟩
end OPS2
