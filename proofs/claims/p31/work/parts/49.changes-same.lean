/-! the changes, on both sides -/
theorem tk_0 (y : Int32) : fm_takes (nI 0) y = fm_in y 1 100 := by
  show fm_takes (0 : Int32) y = _
  unfold fm_takes; rw [if_pos rfl]
theorem tk_1 (y : Int32) : fm_takes (nI 1) y = fm_in y 1 1000 := by
  show fm_takes (1 : Int32) y = _
  unfold fm_takes; rw [if_neg (by decide), if_pos rfl]
theorem tk_2 (y : Int32) : fm_takes (nI 2) y = fm_in y 0 30000 := by
  show fm_takes (2 : Int32) y = _
  unfold fm_takes; rw [if_neg (by decide), if_neg (by decide), if_pos rfl]
theorem tk_3 (y : Int32) : fm_takes (nI 3) y = fm_in y 0 100000 := by
  show fm_takes (3 : Int32) y = _
  unfold fm_takes; rw [if_neg (by decide), if_neg (by decide), if_neg (by decide), if_pos rfl]
theorem tk_4 (y : Int32) : fm_takes (nI 4) y = fm_in y 0 20000 := by
  show fm_takes (4 : Int32) y = _
  unfold fm_takes; rw [if_neg (by decide), if_neg (by decide), if_neg (by decide), if_neg (by decide), if_pos rfl]
theorem tk_5 (y : Int32) : fm_takes (nI 5) y = fm_in y 0 50000 := by
  show fm_takes (5 : Int32) y = _
  unfold fm_takes; rw [if_neg (by decide), if_neg (by decide), if_neg (by decide), if_neg (by decide), if_neg (by decide), if_pos rfl]
theorem tk_6 (y : Int32) : fm_takes (nI 6) y = fm_in y 0 500 := by
  show fm_takes (6 : Int32) y = _
  unfold fm_takes; rw [if_neg (by decide), if_neg (by decide), if_neg (by decide), if_neg (by decide), if_neg (by decide), if_neg (by decide), if_pos rfl]
theorem tk_7 (y : Int32) : fm_takes (nI 7) y = fm_in y 0 65535 := by
  show fm_takes (7 : Int32) y = _
  unfold fm_takes; rw [if_neg (by decide), if_neg (by decide), if_neg (by decide), if_neg (by decide), if_neg (by decide), if_neg (by decide), if_neg (by decide), if_pos rfl]
theorem tk_8 (y : Int32) : fm_takes (nI 8) y = (if fm_in y 0 60 = 0 then 0 else 1) := by
  show fm_takes (8 : Int32) y = _
  unfold fm_takes; rw [if_neg (by decide), if_neg (by decide), if_neg (by decide), if_neg (by decide), if_neg (by decide), if_neg (by decide), if_neg (by decide), if_neg (by decide), if_pos rfl]
theorem takes_eq (x y : Int32) : (fm_takes x y = 0) ↔ (zf_in x.toInt64 0 8 = 0 ∨ zf_in y.toInt64 (zf_at 9 z_least x) (zf_at 9 z_most x) = 0) := by
  rw [zx_in (x := x) (lo := 0) (hi := 8) (a := 0) (b := 8) rfl rfl]
  by_cases c : fm_in x 0 8 = 0
  · refine ⟨fun _ => Or.inl c, fun _ => ?_⟩
    unfold fm_takes
    rw [if_neg (in_ne c 0 (by decide)), if_neg (in_ne c 1 (by decide)), if_neg (in_ne c 2 (by decide)), if_neg (in_ne c 3 (by decide)), if_neg (in_ne c 4 (by decide)), if_neg (in_ne c 5 (by decide)), if_neg (in_ne c 6 (by decide)), if_neg (in_ne c 7 (by decide)), if_neg (in_ne c 8 (by decide))]
  · obtain ⟨w, hw, rfl⟩ := z_ix600 (n := 9) c (by decide) (by decide)
    rw [at9 hw, at9 hw]
    have e : (fm_in (nI w) 0 8 = 0 ∨ zf_in y.toInt64 (z_least w) (z_most w) = 0) ↔ zf_in y.toInt64 (z_least w) (z_most w) = 0 := ⟨fun q => q.resolve_left c, Or.inr⟩
    rw [e]
    have hw' : w = 0 ∨ w = 1 ∨ w = 2 ∨ w = 3 ∨ w = 4 ∨ w = 5 ∨ w = 6 ∨ w = 7 ∨ w = 8 := by omega
    rcases hw' with rfl | rfl | rfl | rfl | rfl | rfl | rfl | rfl | rfl
    · rw [tk_0, show zf_in y.toInt64 (z_least 0) (z_most 0) = fm_in y 1 100 from zx_in rfl rfl]
    · rw [tk_1, show zf_in y.toInt64 (z_least 1) (z_most 1) = fm_in y 1 1000 from zx_in rfl rfl]
    · rw [tk_2, show zf_in y.toInt64 (z_least 2) (z_most 2) = fm_in y 0 30000 from zx_in rfl rfl]
    · rw [tk_3, show zf_in y.toInt64 (z_least 3) (z_most 3) = fm_in y 0 100000 from zx_in rfl rfl]
    · rw [tk_4, show zf_in y.toInt64 (z_least 4) (z_most 4) = fm_in y 0 20000 from zx_in rfl rfl]
    · rw [tk_5, show zf_in y.toInt64 (z_least 5) (z_most 5) = fm_in y 0 50000 from zx_in rfl rfl]
    · rw [tk_6, show zf_in y.toInt64 (z_least 6) (z_most 6) = fm_in y 0 500 from zx_in rfl rfl]
    · rw [tk_7, show zf_in y.toInt64 (z_least 7) (z_most 7) = fm_in y 0 65535 from zx_in rfl rfl]
    · rw [tk_8, show zf_in y.toInt64 (z_least 8) (z_most 8) = fm_in y 0 60 from zx_in rfl rfl]
      by_cases q : fm_in y 0 60 = 0
      · rw [if_pos q]; exact ⟨fun _ => q, fun _ => rfl⟩
      · rw [if_neg q]; exact ⟨fun p => absurd p (by decide), fun p => absurd p q⟩
theorem RS_set {T : Int} {S : vX7} {a : Nat → Int32} {s : Nat → Int64} (h : RS T S a s) {w : Nat} (hw : w < 9) {y : Int32} (hy : (z_least w).toInt ≤ y.toInt ∧ y.toInt ≤ (z_most w).toInt) : RS T (zf_write 9 S.1 (nI w) y.toInt64, S.2) (upd a (20 + w) y) s := by
  obtain ⟨h1, h2, h3, h4, h5, h6, h7, h8⟩ := h
  have e : ∀ i, i < 20 ∨ 29 ≤ i → upd a (20 + w) y i = a i := fun i hi => upd_ne (by omega)
  refine ⟨fun i hi => ?_, rShip_c h2 (fun i hi => e i (by omega)), rGyro_c h3 (fun i hi => e i (by omega)), rSw_c h4 (fun i hi => e i (by omega)) trivial, rSi_c h5 (fun i hi => e i (by omega)), rTm_c h6 (e 10 (by omega)), by rw [e 17 (by omega)]; exact h7, by rw [e 18 (by omega)]; exact h8⟩
  show zf_write 9 S.1 (nI w) y.toInt64 i = _ ∧ _
  rw [wr_in hw (by decide)]
  by_cases c : i = w
  · subst c; rw [updL_eq, upd_eq]; exact ⟨rfl, hy⟩
  · rw [updL_ne c, upd_ne (by omega)]; exact h1 i hi
abbrev opC (t1 : vT) (r : Int32 × vX10) (f : vX7) (rs : vR) (pd : vX4) : Prop := t1.1 = r.1 ∧ Rel (t1.2.1, f, t1.2.2, rs, pd) r.2
section OPS
variable {S f : vX7} {v : vH} {rs : vR} {pd : vX4} {m : vX10} {c : Nat} {aa : Nat → Nat}
theorem op_set (h : Rel (S, f, v, rs, pd) m) (hc : m.2.2.2.2.2.2.1 = nI c) (hc6 : c ≤ 6) (x y : Int32) : opC (zf_set aa S v x y) (fm_set c m x y) f rs pd := by
  have hS := h.1
  have ht := takes_eq x y
  unfold zf_set fm_set
  by_cases c1 : zf_in x.toInt64 0 8 = 0
  · rw [if_pos c1, if_pos (ht.mpr (Or.inl c1))]; exact ⟨rfl, h⟩
  · by_cases c2 : zf_in y.toInt64 (zf_at 9 z_least x) (zf_at 9 z_most x) = 0
    · rw [if_neg c1, if_pos c2, if_pos (ht.mpr (Or.inr c2))]; exact ⟨rfl, h⟩
    · rw [if_neg c1, if_neg c2, if_neg (fun q => by rcases ht.mp q with q | q; exact c1 q; exact c2 q)]
      obtain ⟨w, hw, rfl⟩ := zf_inq (n := 9) c1 (by decide) (by decide)
      rw [at9 hw, at9 hw] at c2
      have g := zf_in1 c2
      rw [Int32.toInt_toInt64] at g
      rw [nI_clamp (by omega), set_at hS.1 hw, Int32.toInt32_toInt64]
      exact ⟨rfl, rel_change h hc hc6 (RS_set hS hw g)⟩
theorem zB_of {x : Int32} {lo hi : Int32} {m : Int} (h : ¬ fm_in x lo hi = 0) (h1 : lo.toInt = -m) (h2 : hi.toInt = m) : zB m x := by
  have g := fm_in1 h
  rw [h1, h2] at g; exact g
theorem RS_start {T : Int} {S : vX7} {a : Nat → Int32} {s : Nat → Int64} (h : RS T S a s) {x y : Int32} (hx : zB 1800000 x) (hy : zB 900000 y) : RS T (zs_gyro S (S.2.2.1.1, x.toInt64, y.toInt64, S.2.2.1.2.2.2)) (upd (upd a 4 x) 5 y) s := by
  obtain ⟨h1, h2, ⟨g0, g1, g2, g3, g4, g5, g6⟩, h4, h5, h6, h7, h8⟩ := h
  have e : ∀ i, i ≠ 4 → i ≠ 5 → upd (upd a 4 x) 5 y i = a i := fun i p q => by rw [upd_ne q, upd_ne p]
  refine ⟨rSet_c h1 (fun i p q => e i (by omega) (by omega)), rShip_c h2 (fun i hi => e i (by omega) (by omega)), ?_, rSw_c h4 (fun i hi => e i (by omega) (by omega)) trivial, rSi_c h5 (fun i hi => e i (by omega) (by omega)), rTm_c h6 (e 10 (by decide) (by decide)), by rw [e 17 (by decide) (by decide)]; exact h7, by rw [e 18 (by decide) (by decide)]; exact h8⟩
  have e4 : upd (upd a 4 x) 5 y 4 = x := by rw [upd_ne (by decide), upd_eq]
  have e5 : upd (upd a 4 x) 5 y 5 = y := upd_eq
  refine ⟨fun j hj => by rw [e (29 + j) (by omega) (by omega)]; exact g0 j hj, by rw [e4]; exact ⟨rfl, hx⟩, by rw [e5]; exact ⟨rfl, hy⟩, by rw [e 6 (by decide) (by decide)]; exact g3, by rw [e 7 (by decide) (by decide)]; exact g4, by rw [e 8 (by decide) (by decide)]; exact g5, ?_⟩
  unfold rDmp
  rw [e 9 (by decide) (by decide), e 10 (by decide) (by decide)]; exact g6
theorem op_start (h : Rel (S, f, v, rs, pd) m) (hc : m.2.2.2.2.2.2.1 = nI c) (hc6 : c ≤ 6) (x y : Int32) : opC (zf_start aa S v x y) (fm_start c m x y) f rs pd := by
  have hS := h.1
  unfold zf_start fm_start
  rw [zx_in (x := x) (lo := -900000) (hi := 900000) (a := -900000) (b := 900000) (by decide) rfl, zx_in (x := y) (lo := -100000) (hi := 100000) (a := -100000) (b := 100000) (by decide) rfl]
  by_cases c1 : fm_in x (-900000) 900000 = 0
  · rw [if_pos c1, if_pos c1]; exact ⟨rfl, h⟩
  · by_cases c2 : fm_in y (-100000) 100000 = 0
    · rw [if_neg c1, if_neg c1, if_pos c2, if_pos c2]; exact ⟨rfl, h⟩
    · rw [if_neg c1, if_neg c1, if_neg c2, if_neg c2]
      have b1 := zB_of (m := 900000) c1 (by decide) (by decide)
      have b2 := zB_of (m := 100000) c2 (by decide) (by decide)
      unfold zB at b1 b2
      refine ⟨?_, rel_change h hc hc6 (RS_start hS (by unfold zB; omega) (by unfold zB; omega))⟩
      show S.2.2.1.2.1.toInt32 = m.1 4
      rw [hS.2.2.1.2.1.1, Int32.toInt32_toInt64]
theorem RS_place {T : Int} {S : vX7} {a : Nat → Int32} {s : Nat → Int64} (h : RS T S a s) {x : Int32} (hx : -70 ≤ x.toInt ∧ x.toInt ≤ 70) : RS T (zs_ship S (S.2.1.1, x.toInt64 * 1000000, S.2.1.2.2)) (upd a 0 (1000000 * x)) s := by
  obtain ⟨h1, ⟨q1, q2, q3, q4, q5⟩, h3, h4, h5, h6, h7, h8⟩ := h
  have e : ∀ i, i ≠ 0 → upd a 0 (1000000 * x) i = a i := fun i p => upd_ne p
  refine ⟨rSet_c h1 (fun i p q => e i (by omega)), ?_, rGyro_c h3 (fun i hi => e i (by omega)), rSw_c h4 (fun i hi => e i (by omega)) trivial, rSi_c h5 (fun i hi => e i (by omega)), rTm_c h6 (e 10 (by decide)), by rw [e 17 (by decide)]; exact h7, by rw [e 18 (by decide)]; exact h8⟩
  have ec : fm_course (upd a 0 (1000000 * x)) = fm_course a := rfl
  have es : fm_speed (upd a 0 (1000000 * x)) = fm_speed a := rfl
  exact ⟨rLeg_c q1 (fun i hi => e i (by omega)), ⟨by rw [upd_eq]; exact deg_mul hx, by rw [upd_eq]; exact z_deg hx⟩, by rw [ec]; exact q3, by rw [es]; exact q4, by rw [e 11 (by decide)]; exact q5⟩
theorem op_place (h : Rel (S, f, v, rs, pd) m) (hc : m.2.2.2.2.2.2.1 = nI c) (hc6 : c ≤ 6) (x : Int32) : opC (zf_place aa S v x) (fm_place c m x) f rs pd := by
  have hS := h.1
  have e3 : S.2.1.1.2.2.2 = m.1 3 := hS.2.1.1.1
  unfold zf_place fm_place
  rw [isD_eq, e3]
  by_cases c1 : fm_in x (-70) 70 = 0
  · rw [if_pos c1, if_pos c1]; exact ⟨rfl, h⟩
  · by_cases c2 : m.1 3 ≤ 0
    · rw [if_neg c1, if_neg c1, if_pos c2, if_pos c2]
      refine ⟨?_, rel_change h hc hc6 (RS_place hS (zdR_of c1))⟩
      show m.1 3 = upd m.1 0 (1000000 * x) 3
      rw [upd_ne (by decide)]
    · rw [if_neg c1, if_neg c1, if_neg c2, if_neg c2]; exact ⟨rfl, h⟩
theorem RS_line {T : Int} {S : vX7} {a : Nat → Int32} {s : Nat → Int64} (h : RS T S a s) {n : Nat} (hn : a 19 = nI n) (hn6 : n < 6) {x : Int32} (hx : zcR x) : RS T (zs_si S (zf_addLine S.2.2.2.2.1 x.toInt64).2) (upd (upd a (79 + n) x) 19 (upd a (79 + n) x 19 + 1)) s ∧ upd (upd a (79 + n) x) 19 (upd a (79 + n) x 19 + 1) 19 = nI (n + 1) := by
  obtain ⟨h1, h2, h3, h4, ⟨i1, i2, i3, i4, i5, i6, i7⟩, h6, h7, h8⟩ := h
  have k19 : upd a (79 + n) x 19 = nI n := by rw [upd_ne (by omega)]; exact hn
  have e19 : upd (upd a (79 + n) x) 19 (upd a (79 + n) x 19 + 1) 19 = nI (n + 1) := by rw [upd_eq, k19]; exact nI_1 n
  have en : ∀ i, i ≠ 79 + n → i ≠ 19 → upd (upd a (79 + n) x) 19 (upd a (79 + n) x 19 + 1) i = a i := fun i p q => by rw [upd_ne q, upd_ne p]
  have e79 : upd (upd a (79 + n) x) 19 (upd a (79 + n) x 19 + 1) (79 + n) = x := by rw [upd_ne (by omega), upd_eq]
  refine ⟨⟨rSet_c h1 (fun i p q => en i (by omega) (by omega)), rShip_c h2 (fun i hi => en i (by omega) (by omega)), rGyro_c h3 (fun i hi => en i (by omega) (by omega)), rSw_c h4 (fun i hi => en i (by omega) (by omega)) trivial, ?_, rTm_c h6 (en 10 (by omega) (by omega)), by rw [en 17 (by omega) (by omega)]; exact h7, by rw [en 18 (by omega) (by omega)]; exact h8⟩, e19⟩
  have e15 := en 15 (by omega) (by omega)
  refine ⟨?_, by rw [e19, nI_toInt (by omega)]; omega, fun j hj => ?_, by rw [e15]; exact i4, by rw [e15]; exact i5, fun j hj => ?_, by rw [en 16 (by omega) (by omega)]; exact i7⟩
  · show S.2.2.2.2.1.2.2.1 + 1 = _
    rw [e19, i1, hn]; exact nI_1 n
  · rw [e19, nT_nI (by omega)] at hj
    show zf_write 6 S.2.2.2.2.1.1 S.2.2.2.2.1.2.2.1 x.toInt64 j = _ ∧ _
    rw [i1, hn, wr_in (by omega) (by decide)]
    by_cases d : j = n
    · subst d; rw [updL_eq, e79]; exact ⟨rfl, hx⟩
    · rw [updL_ne d, en (79 + j) (by omega) (by omega)]
      exact i3 j (by rw [hn, nT_nI (by omega)]; omega)
  · rw [e15] at hj
    have n5 : nT (a 15) ≤ 5 := nT_le i5.2
    rw [en (74 + j) (by omega) (by omega)]; exact i6 j hj
theorem op_line (h : Rel (S, f, v, rs, pd) m) (hc : m.2.2.2.2.2.2.1 = nI c) (hc6 : c ≤ 6) {n : Nat} (hn : m.1 19 = nI n) (hn6 : n ≤ 6) (x : Int32) : opC (zf_line aa S v x) (fm_line c n m x) f rs pd := by
  have hS := h.1
  have i1 : S.2.2.2.2.1.2.2.1 = m.1 19 := hS.2.2.2.2.1.1
  unfold zf_line fm_line
  rw [isC_eq, i1, hn]
  by_cases c1 : fm_in x 0 35999 = 0
  · rw [if_pos c1, if_pos c1]; exact ⟨rfl, h⟩
  · rw [if_neg c1, if_neg c1]
    by_cases c2 : n = 6
    · subst c2
      have e : ¬ (nI 6 : Int32) < 6 := by decide
      have e' : (nI 6 : Int32) = 6 := rfl
      rw [if_neg e, if_pos e']; exact ⟨rfl, h⟩
    · have e : (nI n : Int32) < 6 := nI_lt (a := n) (b := 6) (by omega) (by omega)
      have e' : ¬ (nI n : Int32) = 6 := fun q => c2 ((nI_eq (a := n) (b := 6) (by omega) (by decide)).mp q)
      rw [if_pos e, if_neg e']
      obtain ⟨g1, g2⟩ := RS_line hS hn (by omega) (zcR_of c1)
      refine ⟨?_, rel_change h hc hc6 g1⟩
      show S.2.2.2.2.1.2.2.1 = upd (upd m.1 (79 + n) x) 19 (upd m.1 (79 + n) x 19 + 1) 19 - 1
      rw [g2, i1, hn, nI_pred]
theorem RS_steer {T : Int} {S : vX7} {a : Nat → Int32} {s : Nat → Int64} (h : RS T S a s) {x y : Int32} (hx : zcR x) (hy : zsR y) : RS T (zs_ship S (zf_gclear S.2.1.1, S.2.1.2.1, x.toInt64, y.toInt64, S.2.1.2.2.2.2)) (upd (upd (upd a 3 0) 1 x) 2 y) s := by
  obtain ⟨h1, ⟨q1, q2, q3, q4, q5⟩, h3, h4, h5, h6, h7, h8⟩ := h
  have e : ∀ i, i ≠ 3 → i ≠ 1 → i ≠ 2 → upd (upd (upd a 3 0) 1 x) 2 y i = a i := fun i p q r => by rw [upd_ne r, upd_ne q, upd_ne p]
  have e3 : upd (upd (upd a 3 0) 1 x) 2 y 3 = 0 := by rw [upd_ne (by decide), upd_ne (by decide), upd_eq]
  have e1 : upd (upd (upd a 3 0) 1 x) 2 y 1 = x := by rw [upd_ne (by decide), upd_eq]
  have e2 : upd (upd (upd a 3 0) 1 x) 2 y 2 = y := upd_eq
  have z0 : ((0 : Int32) ≤ 0) := by decide
  have ec : fm_course (upd (upd (upd a 3 0) 1 x) 2 y) = x := by unfold fm_course; rw [e3, if_pos z0, e1]
  have es : fm_speed (upd (upd (upd a 3 0) 1 x) 2 y) = y := by unfold fm_speed; rw [e3, if_pos z0, e2]
  refine ⟨rSet_c h1 (fun i p q => e i (by omega) (by omega) (by omega)), ?_, rGyro_c h3 (fun i hi => e i (by omega) (by omega) (by omega)), rSw_c h4 (fun i hi => e i (by omega) (by omega) (by omega)) trivial, rSi_c h5 (fun i hi => e i (by omega) (by omega) (by omega)), rTm_c h6 (e 10 (by decide) (by decide) (by decide)), by rw [e 17 (by decide) (by decide) (by decide)]; exact h7, by rw [e 18 (by decide) (by decide) (by decide)]; exact h8⟩
  refine ⟨⟨by rw [e3]; rfl, by rw [e3]; exact ⟨by decide, by decide⟩, fun j hj => ?_⟩, by rw [e 0 (by decide) (by decide) (by decide)]; exact q2, by rw [ec]; exact ⟨rfl, hx⟩, by rw [es]; exact ⟨rfl, hy⟩, by rw [e 11 (by decide) (by decide) (by decide)]; exact q5⟩
  rw [e3] at hj
  exact absurd hj (Nat.not_lt_zero j)
theorem op_steer (h : Rel (S, f, v, rs, pd) m) (hc : m.2.2.2.2.2.2.1 = nI c) (hc6 : c ≤ 6) (x y : Int32) : opC (zf_steer aa S v x y) (fm_steer c m x y) f rs pd := by
  have hS := h.1
  unfold zf_steer fm_steer
  rw [isC_eq, isS_eq]
  by_cases c1 : fm_in x 0 35999 = 0
  · rw [if_pos c1, if_pos c1]; exact ⟨rfl, h⟩
  · by_cases c2 : fm_in y 0 400 = 0
    · rw [if_neg c1, if_neg c1, if_pos c2, if_pos c2]; exact ⟨rfl, h⟩
    · rw [if_neg c1, if_neg c1, if_neg c2, if_neg c2]
      exact ⟨hS.2.1.1.1, rel_change h hc hc6 (RS_steer hS (zcR_of c1) (zsR_of c2))⟩
/-- a leg more -/
theorem leg_RS {w : vX5} {a : Nat → Int32} {k : Nat} (h : rShip w a) (hk : a 3 = nI k) (hk8 : k < 8) {x y z : Int32} (hx : zcR x) (hy : zsR y) (hz : 1 ≤ z.toInt ∧ z.toInt ≤ 600) : rShip (zf_shadd w x.toInt64 y.toInt64 z.toInt64) (fm_addLeg k a x y z) ∧ fm_addLeg k a x y z 3 = nI (k + 1) ∧ (∀ i, i ≠ 3 → (i < 34 ∨ 58 ≤ i) → fm_addLeg k a x y z i = a i) := by
  obtain ⟨⟨l1, l2, l3⟩, q2, q3, q4, q5⟩ := h
  have b3 : fm_addLeg k a x y z 3 = nI (k + 1) := by
    unfold fm_addLeg; rw [upd_eq, upd_ne (by omega), upd_ne (by omega), upd_ne (by omega), hk]; exact nI_1 k
  have b0 : fm_addLeg k a x y z (34 + 3 * k) = x := by
    unfold fm_addLeg; rw [upd_ne (by omega), upd_ne (by omega), upd_ne (by omega), upd_eq]
  have b1 : fm_addLeg k a x y z (34 + 3 * k + 1) = y := by
    unfold fm_addLeg; rw [upd_ne (by omega), upd_ne (by omega), upd_eq]
  have b2 : fm_addLeg k a x y z (34 + 3 * k + 2) = z := by
    unfold fm_addLeg; rw [upd_ne (by omega), upd_eq]
  have bn : ∀ i, i ≠ 3 → i ≠ 34 + 3 * k → i ≠ 34 + 3 * k + 1 → i ≠ 34 + 3 * k + 2 → fm_addLeg k a x y z i = a i := fun i p0 p1 p2 p3 => by
    unfold fm_addLeg; rw [upd_ne p0, upd_ne p3, upd_ne p2, upd_ne p1]
  have ew : zf_gadd 8 w.1 x.toInt64 y.toInt64 z.toInt64 = (vp_updL w.1.1 k x.toInt64, vp_updL w.1.2.1 k y.toInt64, vp_updL w.1.2.2.1 k z.toInt64, nI (k + 1)) := by
    unfold zf_gadd
    rw [l1, hk, if_pos (nI_lt hk8 (by omega)), wr_in hk8 (by decide), wr_in hk8 (by decide), wr_in hk8 (by decide), nI_1]
  have hlegs : rLeg (zf_gadd 8 w.1 x.toInt64 y.toInt64 z.toInt64) (fm_addLeg k a x y z) := by
    rw [ew]
    refine ⟨b3.symm, by unfold okN; rw [b3, nI_toInt (by omega)]; omega, fun j hj => ?_⟩
    rw [b3, nT_nI (by omega)] at hj
    unfold rLegj
    by_cases d : j = k
    · subst d
      rw [b0, b1, b2]
      exact ⟨updL_eq, updL_eq, updL_eq, hx, hy, hz.1, hz.2⟩
    · rw [bn (34 + 3 * j) (by omega) (by omega) (by omega) (by omega), bn (34 + 3 * j + 1) (by omega) (by omega) (by omega) (by omega), bn (34 + 3 * j + 2) (by omega) (by omega) (by omega) (by omega)]
      obtain ⟨k1, k2, k3, k4⟩ := l3 j (by rw [hk, nT_nI (by omega)]; omega)
      exact ⟨(updL_ne d).trans k1, (updL_ne d).trans k2, (updL_ne d).trans k3, k4⟩
  have hp : ¬ (nI (k + 1) : Int32) ≤ 0 := nI_nle (by omega) (by omega)
  obtain ⟨k1, k2, k3, k4, k5, k6⟩ := hlegs.2.2 0 (by rw [b3, nT_nI (by omega)]; omega)
  have et : zf_shadd w x.toInt64 y.toInt64 z.toInt64 = (zf_gadd 8 w.1 x.toInt64 y.toInt64 z.toInt64, w.2.1, zf_at 8 (zf_gadd 8 w.1 x.toInt64 y.toInt64 z.toInt64).1 0, zf_at 8 (zf_gadd 8 w.1 x.toInt64 y.toInt64 z.toInt64).2.1 0, w.2.2.2.2) := by
    unfold zf_shadd zf_take
    rw [if_neg (by rw [ew]; exact hp)]
  have ec : fm_course (fm_addLeg k a x y z) = fm_addLeg k a x y z 34 := by
    unfold fm_course; rw [b3, if_neg hp]
  have es : fm_speed (fm_addLeg k a x y z) = fm_addLeg k a x y z 35 := by
    unfold fm_speed; rw [b3, if_neg hp]
  refine ⟨?_, b3, fun i p q => bn i p (by omega) (by omega) (by omega)⟩
  rw [et]
  exact ⟨hlegs, by rw [bn 0 (by omega) (by omega) (by omega) (by omega)]; exact q2, by rw [ec]; exact ⟨(at8 (k := 0) (by decide)).trans k1, k4⟩, by rw [es]; exact ⟨(at8 (k := 0) (by decide)).trans k2, k5⟩, by rw [bn 11 (by omega) (by omega) (by omega) (by omega)]; exact q5⟩
theorem RS_ship {T : Int} {S : vX7} {a b : Nat → Int32} {s : Nat → Int64} {w : vX5} (h : RS T S a s) (hw : rShip w b) (e : ∀ i, i ≠ 3 → (i < 34 ∨ 58 ≤ i) → b i = a i) : RS T (S.1, w, S.2.2) b s := by
  obtain ⟨h1, h2, h3, h4, h5, h6, h7, h8⟩ := h
  exact ⟨rSet_c h1 (fun i p q => e i (by omega) (by omega)), hw, rGyro_c h3 (fun i hi => e i (by omega) (by omega)), rSw_c h4 (fun i hi => e i (by omega) (by omega)) trivial, rSi_c h5 (fun i hi => e i (by omega) (by omega)), rTm_c h6 (e 10 (by decide) (by decide)), by rw [e 17 (by decide) (by decide)]; exact h7, by rw [e 18 (by decide) (by decide)]; exact h8⟩
theorem zmR_of {x : Int32} (h : ¬ fm_in x 1 600 = 0) : 1 ≤ x.toInt ∧ x.toInt ≤ 600 := by
  have h1 := fm_in1 h
  have z : (1 : Int32).toInt = 1 := by decide
  have z1 : (600 : Int32).toInt = 600 := by decide
  exact ⟨by omega, by omega⟩
theorem op_leg (h : Rel (S, f, v, rs, pd) m) (hc : m.2.2.2.2.2.2.1 = nI c) (hc6 : c ≤ 6) {k : Nat} (hk : m.1 3 = nI k) (hk8 : k ≤ 8) (x y z : Int32) : opC (zf_leg aa S v x y z) (fm_leg c k m x y z) f rs pd := by
  have hS := h.1
  have e3 : S.2.1.1.2.2.2 = m.1 3 := hS.2.1.1.1
  unfold zf_leg fm_leg
  rw [isC_eq, isS_eq, isM_eq, e3, hk]
  by_cases c1 : fm_in x 0 35999 = 0
  · rw [if_pos c1, if_pos c1]; exact ⟨rfl, h⟩
  · by_cases c2 : fm_in y 0 400 = 0
    · rw [if_neg c1, if_neg c1, if_pos c2, if_pos c2]; exact ⟨rfl, h⟩
    · by_cases c3 : fm_in z 1 600 = 0
      · rw [if_neg c1, if_neg c1, if_neg c2, if_neg c2, if_pos c3, if_pos c3]; exact ⟨rfl, h⟩
      · rw [if_neg c1, if_neg c1, if_neg c2, if_neg c2, if_neg c3, if_neg c3]
        by_cases c4 : k = 8
        · subst c4
          have p1 : ¬ (nI 8 : Int32) < 8 := by decide
          have p2 : (nI 8 : Int32) = 8 := rfl
          rw [if_neg p1, if_pos p2]; exact ⟨rfl, h⟩
        · have p1 : (nI k : Int32) < 8 := nI_lt (a := k) (b := 8) (by omega) (by omega)
          have p2 : ¬ (nI k : Int32) = 8 := fun q => c4 ((nI_eq (a := k) (b := 8) (by omega) (by decide)).mp q)
          rw [if_pos p1, if_neg p2]
          obtain ⟨g1, g2, g3⟩ := leg_RS hS.2.1 hk (by omega) (zcR_of c1) (zsR_of c2) (zmR_of c3)
          exact ⟨g1.1.1, rel_change h hc hc6 (RS_ship hS g1 g3)⟩
theorem op_pass (h : Rel (S, f, v, rs, pd) m) (hc : m.2.2.2.2.2.2.1 = nI c) (hc6 : c ≤ 6) (x : Int32) : opC (zf_pass aa S v x) (fm_pass c m x) f rs pd := by
  have hS := h.1
  have ht := hS.2.2.2.2.2.1
  obtain ⟨t1, t2, t3⟩ := ht
  unfold zf_pass fm_pass
  rw [isM_eq]
  by_cases c1 : fm_in x 1 600 = 0
  · rw [if_pos c1, if_pos c1]; exact ⟨rfl, h⟩
  · rw [if_neg c1, if_neg c1]
    have hx := zmR_of c1
    obtain ⟨n, hn, rfl⟩ := z_nIof (x := x) (n := 601) (by omega) (by omega)
    rw [nI_toInt (by omega)] at hx
    have en : (nI n).toInt = n := nI_toInt (by omega)
    have e1 : S.2.2.2.2.2.1 + (nI n).toInt64 = (m.1 10 + nI n).toInt64 := by
      rw [t1, zx_add (by omega) (by omega)]
    have e2 : (m.1 10 + nI n).toInt = (m.1 10).toInt + n := by rw [zi_add (by omega) (by omega), en]
    have hiff : (S.2.2.2.2.2.1 + (nI n).toInt64 ≤ 100000) ↔ (m.1 10 + nI n ≤ 100000) := by rw [e1]; exact zx_le (y := 100000)
    by_cases c2 : m.1 10 + nI n ≤ 100000
    · rw [if_pos (hiff.mpr c2), if_pos c2, nI_clamp (by omega)]
      have c2' := Int32.le_iff_toInt_le.mp c2
      have z100 : (100000 : Int32).toInt = 100000 := by decide
      have hR := it_RS (RS_T hS (T' := (m.1 10).toInt) (Int.le_refl _)) n (by omega)
      have hR2 : RS 100000 (zf_it n S) (fm_it n (m.1, m.2.1)).1 (fm_it n (m.1, m.2.1)).2 := RS_le hR (by omega)
      refine ⟨?_, rel_change h hc hc6 hR2⟩
      show (zf_it n S).2.2.2.1.2.2.2.2.2 - S.2.2.2.1.2.2.2.2.2 = (fm_it n (m.1, m.2.1)).1 14 - m.1 14
      rw [hR2.2.2.2.1.2.2.2.2.2, hS.2.2.2.1.2.2.2.2.2]
    · rw [if_neg (fun q => c2 (hiff.mp q)), if_neg c2]; exact ⟨rfl, h⟩
end OPS
