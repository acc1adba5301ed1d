/-! minutes hang on a part of the row alone: two rows that are alike there stay so -/
def sameC (a c : Nat → Int32) : Prop := ∀ i, (i ≤ 8 ∨ (20 ≤ i ∧ i < 23) ∨ (34 ≤ i ∧ i < 58)) → c i = a i
theorem A2_5 (a : Nat → Int32) : fm_A2 a 5 = fm_lim (((a 5).toInt64 - (a 20).toInt64 * (a 4 - fm_rest a).toInt64 / 1000 * fm_cosOf (a 0) / 1000000) - ((a 5).toInt64 - (a 20).toInt64 * (a 4 - fm_rest a).toInt64 / 1000 * fm_cosOf (a 0) / 1000000) * (if (a 8).toInt64 = 0 then (0 : Int64) else (10 : Int64) <<< ((a 8 - 1).toInt64 &&& 63)) / 1000) 900000 := by
  have em : fm_A2 a 5 = fm_lim (fm_tilt (fm_mm1 a) - fm_tilt (fm_mm1 a) * fm_damp1 (fm_mm1 a) / 1000) 900000 := by
    unfold fm_A2 fm_sw2
    rw [upd_ne (by decide)]
    unfold fm_sw1
    rw [upd_eq]
  have et : fm_tilt (fm_mm1 a) = (a 5).toInt64 - (a 20).toInt64 * (a 4 - fm_rest a).toInt64 / 1000 * fm_cosOf (a 0) / 1000000 := by
    unfold fm_tilt
    rw [mm1_rest, mm1_ne (by decide) (by decide), mm1_ne (i := 20 + 0) (by decide) (by decide), mm1_ne (i := 4) (by decide) (by decide), mm1_ne (i := 0) (by decide) (by decide)]
  have ed : fm_damp1 (fm_mm1 a) = (if (a 8).toInt64 = 0 then (0 : Int64) else (10 : Int64) <<< ((a 8 - 1).toInt64 &&& 63)) := by
    unfold fm_damp1
    rw [mm1_ne (by decide) (by decide)]
  rw [em, et, ed]
theorem A2_4 (a : Nat → Int32) : fm_A2 a 4 = fm_lim ((a 4).toInt64 + (a 21).toInt64 * (fm_A2 a 5).toInt64 / 1000) 1800000 := by
  have e5 : fm_A2 a 5 = fm_sw1 (fm_mm1 a) 5 := by
    unfold fm_A2 fm_sw2
    rw [upd_ne (by decide)]
  have e4 : fm_A2 a 4 = fm_lim ((fm_sw1 (fm_mm1 a) 4).toInt64 + (fm_sw1 (fm_mm1 a) (20 + 1)).toInt64 * (fm_sw1 (fm_mm1 a) 5).toInt64 / 1000) 1800000 := by
    unfold fm_A2 fm_sw2
    rw [upd_eq]
  have q4 : fm_sw1 (fm_mm1 a) 4 = a 4 := by unfold fm_sw1; rw [upd_ne (by decide), mm1_ne (by decide) (by decide)]
  have q21 : fm_sw1 (fm_mm1 a) (20 + 1) = a 21 := by unfold fm_sw1; rw [upd_ne (by decide), mm1_ne (by decide) (by decide)]
  rw [e4, q4, q21, e5]
section
variable {a c : Nat → Int32} {s s' : Nat → Int64}
theorem sc_course (h : sameC a c) : fm_course c = fm_course a ∧ fm_speed c = fm_speed a := by
  unfold fm_course fm_speed
  rw [h 3 (by omega), h 1 (by omega), h 34 (by omega), h 2 (by omega), h 35 (by omega)]
  exact ⟨rfl, rfl⟩
theorem sc_rest (h : sameC a c) : fm_rest c = fm_rest a := by
  have e : ∀ la sp co, fm_restBy c la sp co = fm_restBy a la sp co := fun la sp co => by
    unfold fm_restBy
    rw [h (20 + 2) (by omega)]
  unfold fm_rest
  rw [e, e, (sc_course h).1, (sc_course h).2, h 0 (by omega), h 6 (by omega), h 7 (by omega)]
theorem sc_calm (h : sameC a c) (b : Int32) : fm_calm c b = fm_calm a b := by
  unfold fm_calm
  rw [sc_rest h, h 4 (by omega), h 5 (by omega)]
theorem sc_A2 (h : sameC a c) : sameC (fm_A2 a) (fm_A2 c) := by
  have e5 : fm_A2 c 5 = fm_A2 a 5 := by
    rw [A2_5, A2_5, sc_rest h, h 5 (by omega), h 20 (by omega), h 4 (by omega), h 0 (by omega), h 8 (by omega)]
  intro i hi
  by_cases h1 : i = 1
  · subst h1; rw [A2_1, A2_1, (sc_course h).1]
  by_cases h2 : i = 2
  · subst h2; rw [A2_2, A2_2, (sc_course h).2]
  by_cases h5 : i = 5
  · subst h5; exact e5
  by_cases h4 : i = 4
  · subst h4; rw [A2_4, A2_4, e5, h 4 (by omega), h 21 (by omega)]
  · rw [A2_ne h1 h2 h4 h5, A2_ne h1 h2 h4 h5, h i hi]
theorem sc_C (h : sameC a c) (h8 : nT (a 8) ≤ 4) : sameC (fm_C a s) (fm_C c s') := by
  have h8' : nT (c 8) ≤ 4 := by rw [h 8 (by omega)]; exact h8
  intro i hi
  by_cases h0 : i = 0
  · subst h0
    rw [C_0 h8, C_0 h8', (sc_course h).1, (sc_course h).2, h 0 (by omega)]
  · rw [C_ne h8 h0 (by omega) (by omega) (by omega), C_ne h8' h0 (by omega) (by omega) (by omega), W2_ne (by omega), W2_ne (by omega), sc_A2 h i hi]
theorem sc_D {C C' : Nat → Int32} {k : Nat} (h : sameC C C') (hk : k ≤ 8) : sameC (fm_D k C) (fm_D k C') := by
  have e3 := h 3 (by omega)
  have m : sameC (fm_me C) (fm_me C') := fun i hi => by
    by_cases h36 : i = 36
    · subst h36; rw [me_36, me_36, h 36 (by omega)]
    · rw [me_ne h36, me_ne h36, h i hi]
  unfold fm_D
  rw [e3]
  by_cases c1 : C 3 ≤ 0
  · rw [if_pos c1, if_pos c1]; exact h
  · rw [if_neg c1, if_neg c1, m 36 (by omega)]
    by_cases c2 : fm_me C 36 = 0
    · rw [if_pos c2, if_pos c2]
      have hy : ∀ i, i ≠ 3 → (i ≤ 8 ∨ (20 ≤ i ∧ i < 23) ∨ (34 ≤ i ∧ i < 58)) → upd (fm_me C') 3 (nI (k - 1)) i = upd (fm_me C) 3 (nI (k - 1)) i := fun i q hi => by rw [upd_ne q, upd_ne q, m i hi]
      have hx : ∀ i, (i ≤ 8 ∨ (20 ≤ i ∧ i < 23) ∨ (34 ≤ i ∧ i < 58)) → zcl (3 * (k - 1)) (upd (fm_me C') 3 (nI (k - 1))) i = zcl (3 * (k - 1)) (upd (fm_me C) 3 (nI (k - 1))) i := fun i hi => by
        unfold zcl
        by_cases q : 34 ≤ i ∧ i < 34 + 3 * (k - 1)
        · rw [if_pos q, if_pos q]
          exact hy (i + 3) (by omega) (by omega)
        · rw [if_neg q, if_neg q]
          by_cases q3 : i = 3
          · subst q3; rw [upd_eq, upd_eq]
          · exact hy i q3 hi
      intro i hi
      unfold fm_end
      by_cases q2 : i = 2
      · subst q2
        rw [upd_eq, upd_eq, hx 3 (by omega), hx 2 (by omega)]
      · rw [upd_ne q2, upd_ne q2, hx i hi]
    · rw [if_neg c2, if_neg c2]; exact m
theorem MX_n {a : Nat → Int32} (h : MX a) : nT (a 8) ≤ 4 ∧ nT (a 3) ≤ 8 := by
  obtain ⟨⟨v, hv⟩, h2, h3, h4⟩ := h
  exact ⟨nT_le h3.2, (ok13 hv.1.2.1).1⟩
theorem sc_min (h : sameC a c) (hM : MX a) : sameC (fm_min (a, s)).1 (fm_min (c, s')).1 := by
  obtain ⟨h8, h3⟩ := MX_n hM
  rw [min_eq, min_eq, h 3 (by omega)]
  exact sc_D (sc_C h h8) h3
theorem sc_look (b : Int32) : ∀ (d k : Nat) (a c : Nat → Int32) (s s' : Nat → Int64), sameC a c → MX a → fm_look b d k (c, s') = fm_look b d k (a, s)
  | 0, k, a, c, s, s', h, hM => by
    show (if fm_calm c b = 0 then _ else _) = (if fm_calm a b = 0 then _ else _)
    rw [sc_calm h]
  | d + 1, k, a, c, s, s', h, hM => by
    show (if fm_calm c b = 0 then fm_look b d (k + 1) (fm_min (c, s')) else _) = (if fm_calm a b = 0 then fm_look b d (k + 1) (fm_min (a, s)) else _)
    rw [sc_calm h]
    have := sc_look b d (k + 1) (fm_min (a, s)).1 (fm_min (c, s')).1 (fm_min (a, s)).2 (fm_min (c, s')).2 (sc_min h hM) (MX_min hM)
    rw [show (fm_min (c, s')) = ((fm_min (c, s')).1, (fm_min (c, s')).2) from rfl, show (fm_min (a, s)) = ((fm_min (a, s)).1, (fm_min (a, s)).2) from rfl, this]
end
/-! calm when it was told: what the law holds -/
def SV (w v : vX10) : Prop := v.2.2.2.2.2.2.2.2.2.1 0 = 1 ∧ (∀ i, i < 85 → v.2.2.2.2.2.2.2.1 i = w.1 i) ∧ (∀ i, i < 9 → v.2.2.2.2.2.2.2.2.1 i = w.2.1 i)
theorem SV_c {w v u : vX10} (h : SV w v) (e : u.2.2.2.2.2.2.2 = v.2.2.2.2.2.2.2) : SV w u := by
  unfold SV
  rw [e]
  exact h
def SM (w v : vX10) : Prop := v.1 = w.1 ∧ v.2.1 = w.2.1
theorem upd_self (f : Nat → Int32) (i : Nat) : upd f i (f i) = f := by
  funext j
  unfold upd
  split
  · rename_i h; rw [h]
  · rfl
section
variable {t : vTv} {w v u : vX10} {r b x y : Int32} {M : Nat}
theorem cm_b (x : Int32) : ¬ fm_in (fl_up x (8000 : Int32)) 0 100000 = 0 := by
  have h := up_n x (n := 8000) (by decide) (by decide)
  have h1 : 0 ≤ (fl_up x (8000 : Int32)).toInt := h.1
  have h2 : (fl_up x (8000 : Int32)).toInt < 8000 := h.2
  exact in_i ⟨h1, by have z : (100000 : Int32).toInt = 100000 := by decide
                     omega⟩
theorem cm_m (x : Int32) : ∃ M : Nat, 1 ≤ M ∧ M ≤ 60 ∧ 1 + fl_up x (60 : Int32) = nI M := by
  obtain ⟨k, hk, ek⟩ := up_ex x (n := 60) (by decide) (by decide)
  refine ⟨1 + k, by omega, by omega, ?_⟩
  have ek : fl_up x (60 : Int32) = nI k := ek
  rw [ek]
  exact nI_add 1 k
theorem in_n {k l m : Nat} (h : l ≤ k) (h2 : k ≤ m) (hm : m < 2 ^ 31) : ¬ fm_in (nI k) (nI l) (nI m) = 0 := by
  refine in_i ?_
  rw [nI_toInt (by omega), nI_toInt (by omega), nI_toInt (by omega)]
  omega
theorem cm_c0 (w : vX10) : fm_c0 w (w.1 8) = (w.1, w.2.1) := by
  unfold fm_c0
  rw [upd_self]
theorem cm_calm (hb : ¬ fm_in b 0 100000 = 0) (hM : 1 ≤ M ∧ M ≤ 60) (hr : r = (fm_calmIn w b (nI M)).1) (hu : u = (fm_calmIn w b (nI M)).2) : r = fm_look b M 0 (fm_c0 w (w.1 8)) ∧ SM w u ∧ u.2.2.2.2.2.2.2 = w.2.2.2.2.2.2.2 := by
  unfold fm_calmIn at hr hu
  have hm : ¬ fm_in (nI M) 1 2000 = 0 := in_n (l := 1) (m := 2000) (by omega) (by omega) (by decide)
  rw [if_neg hb, if_neg hm, nI_clamp (by omega)] at hr hu
  refine ⟨hr, ⟨by rw [hu]; rfl, by rw [hu]; rfl⟩, by rw [hu]; rfl⟩
theorem bl_c (h : SM w v) : ∀ k, fm_bl M v b k = fm_bl M w b k
  | 0 => rfl
  | k + 1 => by
    have e : fm_c0 v (nI k) = fm_c0 w (nI k) := by unfold fm_c0; rw [h.1, h.2]
    show (if fm_look b M 0 (fm_c0 v (nI k)) < 0 then fm_bl M v b k else if (fm_bl M v b k).2 ≤ fm_look b M 0 (fm_c0 v (nI k)) then fm_bl M v b k else (nI k, fm_look b M 0 (fm_c0 v (nI k)))) = _
    rw [e, bl_c h k]
    rfl
theorem cm_best (hb : ¬ fm_in b 0 100000 = 0) (hM : 1 ≤ M ∧ M ≤ 60) (h : SM w v) (hr : r = (fm_best v b (nI M)).1) (hu : u = (fm_best v b (nI M)).2) : r = (fm_bl M w b 5).1 ∧ SM w u ∧ u.2.2.2.2.2.2.2 = v.2.2.2.2.2.2.2 := by
  unfold fm_best at hr hu
  have hm : ¬ fm_in (nI M) 1 500 = 0 := in_n (l := 1) (m := 500) (by omega) (by omega) (by decide)
  rw [if_neg hb, if_neg hm, nI_clamp (by omega)] at hr hu
  refine ⟨by rw [hr, bl_c h], ⟨by rw [hu]; exact h.1, by rw [hu]; exact h.2⟩, by rw [hu]; rfl⟩
theorem cm_save (h : SM w v) (hr : r = (fm_saveX v 0).1) (hu : u = (fm_saveX v 0).2) : r = w.1 10 ∧ SM w u ∧ SV w u := by
  unfold fm_saveX at hr hu
  rw [if_neg (by decide), show (0 : Int32).toNatClampNeg = 0 from rfl] at hr hu
  refine ⟨by rw [hr, ← h.1]; rfl, ⟨by rw [hu]; exact h.1, by rw [hu]; exact h.2⟩, by rw [hu]; exact (upd_eq : upd v.2.2.2.2.2.2.2.2.2.1 0 1 0 = 1), fun i hi => ?_, fun i hi => ?_⟩
  · rw [hu]
    show zpl (85 * 0) 85 _ v.1 i = _
    unfold zpl
    rw [if_pos (by omega), h.1]
    congr 1
  · rw [hu]
    show zpl (9 * 0) 9 _ v.2.1 i = _
    unfold zpl
    rw [if_pos (by omega), h.2]
    congr 1
theorem cm_forget {pm : Nat} (h : SM w v) (hS : SV w v) (hu : u = (fm_forget pm v).2) : u.1 = upd (upd w.1 13 0) 12 0 ∧ u.2.1 = w.2.1 ∧ SV w u := by
  refine ⟨by rw [hu, ← h.1]; rfl, by rw [hu, ← h.2]; rfl, SV_c hS (by rw [hu]; rfl)⟩
end
