/-! many minutes: what holds behind them; legs that are sailed -/
theorem rel_it {t : vTv} {w : vX10} (hR : Rel t w) : ∀ (k : Nat), (w.1 10).toInt + k ≤ 100000 → ∃ t' : vTv, Rel t' ((fm_it k (w.1, w.2.1)).1, (fm_it k (w.1, w.2.1)).2, w.2.2) := by
  intro k hk
  have h1 : RS (w.1 10).toInt t.1 w.1 w.2.1 := RS_T hR.1 (Int.le_refl _)
  have h2 := it_RS h1 k (by omega)
  exact ⟨(zf_it k t.1, t.2), RS_le h2 hk, hR.2⟩
theorem mt_ex {t : vTv} {w : vX10} {b : Nat → Int32} (hR : Rel t w) (hB : MB w b) : ∃ T : Int32, MT w b T := by
  obtain ⟨g, hg⟩ : ∃ g : Int32, (fm_A2 w.1 4 = w.1 4 ∧ g = 0) ∨ (fm_A2 w.1 4 ≠ w.1 4 ∧ g = fm_dir (fm_A2 w.1 4) (w.1 4) ∧ g ≠ 0) := by
    by_cases c : fm_A2 w.1 4 = w.1 4
    · exact ⟨0, Or.inl ⟨c, rfl⟩⟩
    · exact ⟨_, Or.inr ⟨c, rfl, fm_dir0 _ _⟩⟩
  obtain ⟨T, hT⟩ : ∃ T : Int32, ((g = 0) ∧ T = (0 : Int32)) ∨ ((¬ (g = 0)) ∧ (¬ (w.1 12 = (-g))) ∧ T = (0 : Int32)) ∨ ((¬ (g = 0)) ∧ (w.1 12 = (-g)) ∧ T = (1 : Int32)) := by
    by_cases c : g = 0
    · exact ⟨0, Or.inl ⟨c, rfl⟩⟩
    · by_cases c2 : w.1 12 = -g
      · exact ⟨1, Or.inr (Or.inr ⟨c, c2, rfl⟩)⟩
      · exact ⟨0, Or.inr (Or.inl ⟨c, c2, rfl⟩)⟩
  exact ⟨T, (mi_tn hR hB hg hT).2⟩
theorem IV_it {t : vTv} {w : vX10} (hR : Rel t w) {n : Nat} (hI : IV n w) : ∀ (k : Nat), n + k ≤ 90000 → IV (n + k) ((fm_it k (w.1, w.2.1)).1, (fm_it k (w.1, w.2.1)).2, w.2.2)
  | 0, _ => hI
  | k + 1, hk => by
    have hp := IV_it hR hI k (by omega)
    have i1 := hI.1
    obtain ⟨t', hR'⟩ := rel_it hR k (by omega)
    generalize hx : fm_it k (w.1, w.2.1) = x at hp hR'
    have e : fm_it (k + 1) (w.1, w.2.1) = fm_min (x.1, x.2) := by rw [← hx]; rfl
    rw [e]
    have hB : MB (x.1, x.2, w.2.2) (fm_min (x.1, x.2)).1 := by rw [min_eq]
    obtain ⟨T, hT⟩ := mt_ex hR' hB
    exact mi_IV (n := n + k) (v := ((fm_min (x.1, x.2)).1, (fm_min (x.1, x.2)).2, w.2.2)) hR' hB hT hp (by omega)
/-- k minutes at once -/
theorem pass_n {w u : vX10} {n k : Nat} (hI : IV n w) (h10 : 0 ≤ (w.1 10).toInt) (hn : n < 90000) (hk : 1 ≤ k ∧ k ≤ 600) (hu : u = (fm_pass (pmN w) w (nI k)).2) : u.1 = (fm_it k (w.1, w.2.1)).1 ∧ u.2.1 = (fm_it k (w.1, w.2.1)).2 ∧ u.2.2 = (fm_keep (pmN w) w).2.2 := by
  have h1 := hI.1
  have hm : ¬ fm_in (nI k) 1 600 = 0 := in_n (l := 1) (m := 600) hk.1 hk.2 (by decide)
  have ek : (nI k).toInt = (k : Nat) := nI_toInt (by omega)
  have e : (w.1 10 + nI k).toInt = (w.1 10).toInt + k := by rw [zi_add (by omega) (by omega), ek]
  have z2 : (100000 : Int32).toInt = 100000 := by decide
  have hle : w.1 10 + nI k ≤ 100000 := Int32.le_iff_toInt_le.mpr (by omega)
  unfold fm_pass at hu
  rw [if_neg hm, if_pos hle, nI_clamp (by omega)] at hu
  exact ⟨by rw [hu]; rfl, by rw [hu]; rfl, by rw [hu]; rfl⟩
/-- L legs, the first with m minutes left: behind j minutes of them -/
def LG9 (a : Nat → Int32) (L m : Nat) : Prop := a 3 = nI L ∧ 1 ≤ L ∧ L ≤ 8 ∧ a 36 = nI m ∧ 1 ≤ m ∧ m ≤ 600
theorem leg_min {a : Nat → Int32} {s : Nat → Int64} {L m : Nat} (hM : MX a) (h : LG9 a L m) (hm : 2 ≤ m) : LG9 (fm_min (a, s)).1 L (m - 1) ∧ ∀ i, (i = 34 ∨ i = 35 ∨ (37 ≤ i ∧ i < 58)) → (fm_min (a, s)).1 i = a i := by
  obtain ⟨h3, L1, L8, h36, m1, m6⟩ := h
  obtain ⟨n8, n3⟩ := MX_n hM
  have c3 : fm_C a s 3 = nI L := by rw [C_a n8 (by omega), h3]
  have ca : ∀ i, (34 ≤ i ∧ i < 58) → fm_C a s i = a i := fun i hi => C_a n8 (by omega)
  have e36 : fm_me (fm_C a s) 36 = nI (m - 1) := by
    rw [me_36, ca 36 (by omega), h36]
    exact pk_sub (a := m) (b := 1) (by omega)
  have ne : ¬ fm_me (fm_C a s) 36 = 0 := by
    rw [e36]
    intro q
    have := (nI_eq (a := m - 1) (b := 0) (by omega) (by decide)).mp q
    omega
  have e : (fm_min (a, s)).1 = fm_me (fm_C a s) := by
    rw [min_eq]
    unfold fm_D
    dsimp only
    rw [if_neg (by rw [c3]; exact nI_nle (by omega) (by omega)), if_neg ne]
  refine ⟨⟨?_, L1, L8, by rw [e, e36], by omega, by omega⟩, fun i hi => ?_⟩
  · rw [e, me_ne (by decide), c3]
  · rw [e, me_ne (by omega), ca i (by omega)]
theorem leg_end {a : Nat → Int32} {s : Nat → Int64} {L : Nat} (hM : MX a) (h : LG9 a L 1) : (fm_min (a, s)).1 3 = nI (L - 1) ∧ (fm_min (a, s)).1 1 = a 34 ∧ (L = 1 → (fm_min (a, s)).1 2 = 0) ∧ ∀ i, 34 ≤ i → i < 34 + 3 * (L - 1) → (fm_min (a, s)).1 i = a (i + 3) := by
  obtain ⟨h3, L1, L8, h36, m1, m6⟩ := h
  obtain ⟨n8, n3⟩ := MX_n hM
  have c3 : fm_C a s 3 = nI L := by rw [C_a n8 (by omega), h3]
  have ca : ∀ i, (34 ≤ i ∧ i < 58) → fm_C a s i = a i := fun i hi => C_a n8 (by omega)
  have e36 : fm_me (fm_C a s) 36 = 0 := by rw [me_36, ca 36 (by omega), h36]; decide
  have nL : nT (a 3) = L := by rw [h3]; exact nT_nI (by omega)
  have e : (fm_min (a, s)).1 = fm_end (L - 1) (fm_me (fm_C a s)) := by
    rw [min_eq, nL]
    unfold fm_D
    dsimp only
    rw [if_neg (by rw [c3]; exact nI_nle (by omega) (by omega)), if_pos e36]
  have hc : fm_course a = a 34 := by
    unfold fm_course
    rw [h3, if_neg (nI_nle (by omega) (by omega))]
  refine ⟨by rw [e, end_3], ?_, fun hL => ?_, fun i p q => ?_⟩
  · rw [e, end_1, me_ne (by decide), C_1 n8, hc]
  · rw [e, hL]; exact end_2
  · rw [e, end_row p q, me_ne (by omega), ca (i + 3) (by omega)]
theorem leg_it {a : Nat → Int32} {s : Nat → Int64} {L m : Nat} (hM : MX a) (h : LG9 a L m) : ∀ j : Nat, j < m → LG9 (fm_it j (a, s)).1 L (m - j) ∧ ∀ i, (i = 34 ∨ i = 35 ∨ (37 ≤ i ∧ i < 58)) → (fm_it j (a, s)).1 i = a i
  | 0, _ => ⟨h, fun _ _ => rfl⟩
  | j + 1, hj => by
    obtain ⟨p1, p2⟩ := leg_it (s := s) hM h j (by omega)
    have hx := MX_it (s := s) hM j
    generalize hq : fm_it j (a, s) = x at p1 p2 hx
    have e : fm_it (j + 1) (a, s) = fm_min (x.1, x.2) := by rw [← hq]; rfl
    rw [e]
    obtain ⟨q1, q2⟩ := leg_min (s := x.2) hx p1 (by omega)
    exact ⟨q1, fun i hi => by rw [q2 i hi, p2 i hi]⟩
theorem leg_all {a : Nat → Int32} {s : Nat → Int64} {L m : Nat} (hM : MX a) (h : LG9 a L m) : (fm_it m (a, s)).1 3 = nI (L - 1) ∧ (fm_it m (a, s)).1 1 = a 34 ∧ (L = 1 → (fm_it m (a, s)).1 2 = 0) ∧ ∀ i, (i = 34 ∨ i = 35 ∨ i = 36) → 1 < L → (fm_it m (a, s)).1 i = a (i + 3) := by
  have m1 := h.2.2.2.2.1
  obtain ⟨p1, p2⟩ := leg_it (s := s) hM h (m - 1) (by omega)
  have hx := MX_it (s := s) hM (m - 1)
  generalize hq : fm_it (m - 1) (a, s) = x at p1 p2 hx
  have e : fm_it m (a, s) = fm_min (x.1, x.2) := by
    rw [← hq, show m = (m - 1) + 1 by omega]
    rfl
  rw [show m - (m - 1) = 1 by omega] at p1
  rw [e]
  obtain ⟨q1, q2, q3, q4⟩ := leg_end (s := x.2) hx p1
  exact ⟨q1, by rw [q2, p2 34 (by omega)], q3, fun i hi hL => by rw [q4 i (by omega) (by omega), p2 (i + 3) (by omega)]⟩
section
variable {t : vTv} {w v u : vX10} {n c s m : Nat}
/-- the first of two told legs is sailed -/
theorem td_s1 (hR : Rel t v) (hI : IV n v) (hn : n < 80100) (h : two9 v.1 c s m) (hm : 1 ≤ m ∧ m ≤ 9) (hu : u = (fm_pass (pmN v) v (nI m)).2) : u.1 3 = 1 ∧ u.1 34 = 100 * nI m ∧ u.1 35 = nI c ∧ u.1 36 = nI s ∧ IV (n + m) u := by
  have h10 : 0 ≤ (v.1 10).toInt := hR.1.2.2.2.2.2.1.2.1
  obtain ⟨e1, e2, -⟩ := pass_n hI h10 (by omega) (by omega) hu
  obtain ⟨a3, a34, a35, a36, a37, a38, a39⟩ := h
  have hL : LG9 v.1 2 m := ⟨a3, by decide, by decide, a36, by omega, by omega⟩
  obtain ⟨q1, q2, q3, q4⟩ := leg_all (s := v.2.1) (rel_MX hR) hL
  have hv := IV_it hR hI m (by omega)
  refine ⟨by rw [e1]; exact q1, by rw [e1, q4 34 (by omega) (by decide)]; exact a37, by rw [e1, q4 35 (by omega) (by decide)]; exact a38, by rw [e1, q4 36 (by omega) (by decide)]; exact a39, IV_c hv (fun i _ => by rw [e1])⟩
/-- the last leg is sailed -/
theorem td_s2 (hR : Rel t v) (hI : IV n v) (hn : n < 80100) (h3 : v.1 3 = 1) (h36 : v.1 36 = nI s) (hs : 1 ≤ s ∧ s ≤ 9) (hu : u = (fm_pass (pmN v) v (nI s)).2) : u.1 3 = 0 ∧ fm_course u.1 = v.1 34 ∧ fm_speed u.1 = 0 ∧ IV (n + s) u := by
  have h10 : 0 ≤ (v.1 10).toInt := hR.1.2.2.2.2.2.1.2.1
  obtain ⟨e1, e2, -⟩ := pass_n hI h10 (by omega) (by omega) hu
  have hL : LG9 v.1 1 s := ⟨h3, by decide, by decide, h36, by omega, by omega⟩
  obtain ⟨q1, q2, q3, -⟩ := leg_all (s := v.2.1) (rel_MX hR) hL
  have hv := IV_it hR hI s (by omega)
  have e3 : u.1 3 = 0 := by rw [e1, q1]; rfl
  refine ⟨e3, ?_, ?_, IV_c hv (fun i _ => by rw [e1])⟩
  · unfold fm_course
    rw [e3, if_pos (by decide), e1, q2]
  · unfold fm_speed
    rw [e3, if_pos (by decide), e1, q3 rfl]
theorem td_cs (h : two9 v.1 c s m) : fm_course v.1 = 100 * nI c ∧ fm_speed v.1 = nI s ∧ (if v.1 3 = 0 then 0 else v.1 36) = nI m := by
  obtain ⟨a3, a34, a35, a36, -⟩ := h
  unfold fm_course fm_speed
  rw [a3, if_neg (by decide), if_neg (by decide), if_neg (by decide), a34, a35, a36]
  exact ⟨rfl, rfl, rfl⟩
theorem td_c1 (h3 : v.1 3 = 1) (h34 : v.1 34 = 100 * nI m) (h35 : v.1 35 = nI c) (h36 : v.1 36 = nI s) : fm_course v.1 = 100 * nI m ∧ fm_speed v.1 = nI c ∧ (if v.1 3 = 0 then 0 else v.1 36) = nI s := by
  unfold fm_course fm_speed
  rw [h3, if_neg (by decide), if_neg (by decide), if_neg (by decide), h34, h35, h36]
  exact ⟨rfl, rfl, rfl⟩
theorem td_j {x1 x2 x3 x4 y2 y3 y4 j : Int32} (h1 : x1 = 1) (h2 : x2 = y2) (h3 : x3 = y3) (h4 : x4 = y4) (hj : ((¬ (x1 = (1 : Int32))) ∧ j = (0 : Int32)) ∨ ((x1 = (1 : Int32)) ∧ (¬ (x2 = y2)) ∧ j = (0 : Int32)) ∨ ((x1 = (1 : Int32)) ∧ (x2 = y2) ∧ (¬ (x3 = y3)) ∧ j = (0 : Int32)) ∨ ((x1 = (1 : Int32)) ∧ (x2 = y2) ∧ (x3 = y3) ∧ (¬ (x4 = y4)) ∧ j = (0 : Int32)) ∨ ((x1 = (1 : Int32)) ∧ (x2 = y2) ∧ (x3 = y3) ∧ (x4 = y4) ∧ j = (1 : Int32))) : ¬ j = 0 := by
  rcases hj with ⟨h, -⟩ | ⟨-, h, -⟩ | ⟨-, -, h, -⟩ | ⟨-, -, -, h, -⟩ | ⟨-, -, -, -, rfl⟩
  · exact absurd h1 h
  · exact absurd h2 h
  · exact absurd h3 h
  · exact absurd h4 h
  · decide
end
