/-! calm when it was told: the first calm minute, sums between turning points, levels -/
def FI (b : Int32) (M k : Nat) (w : vX10) (F : Int32) : Prop := (0 ≤ F ∧ F = fm_look b M 0 (w.1, w.2.1)) ∨ (F = -6 ∧ (k ≤ M → fm_look b M 0 (w.1, w.2.1) = fm_look b (M - k) k (fm_it k (w.1, w.2.1))) ∧ (M < k → fm_look b M 0 (w.1, w.2.1) = -6))
theorem FI_0 (b : Int32) (M : Nat) (w : vX10) : FI b M 0 w (-6) := Or.inr ⟨rfl, fun _ => rfl, fun h => absurd h (Nat.not_lt_zero M)⟩
theorem FI_s {b : Int32} {M k : Nat} {w v : vX10} {F j : Int32} (h : FI b M k w F) (hk : k ≤ M) (hM : M ≤ 60) (hs : sameC (fm_it k (w.1, w.2.1)).1 v.1)
    (hj : ((0 ≤ F) ∧ j = F) ∨ ((¬ (0 ≤ F)) ∧ (b < fm_size (v.1 4 - fm_rest v.1)) ∧ j = F) ∨ ((¬ (0 ≤ F)) ∧ (¬ (b < fm_size (v.1 4 - fm_rest v.1))) ∧ (b < fm_size (v.1 5)) ∧ j = F) ∨ ((¬ (0 ≤ F)) ∧ (¬ (b < fm_size (v.1 4 - fm_rest v.1))) ∧ (¬ (b < fm_size (v.1 5))) ∧ j = nI k)) : FI b M (k + 1) w j := by
  have ec : fm_calm (fm_it k (w.1, w.2.1)).1 b = (if b < fm_size (v.1 4 - fm_rest v.1) then 0 else if b < fm_size (v.1 5) then 0 else 1) := (sc_calm hs b).symm
  rcases h with ⟨h0, h1⟩ | ⟨h0, h1, -⟩
  · rcases hj with ⟨-, rfl⟩ | ⟨q, -⟩ | ⟨q, -⟩ | ⟨q, -⟩
    · exact Or.inl ⟨h0, h1⟩
    · exact absurd h0 q
    · exact absurd h0 q
    · exact absurd h0 q
  · have hL := h1 hk
    have hn : ¬ (0 : Int32) ≤ F := by rw [h0]; decide
    have no : ∀ {c : Int32}, fm_calm (fm_it k (w.1, w.2.1)).1 b = 0 → c = F → FI b M (k + 1) w c := fun {c} hc e => by
      refine Or.inr ⟨e.trans h0, fun h2 => ?_, fun h2 => ?_⟩
      · rw [hL, show M - k = (M - (k + 1)) + 1 by omega]
        show (if fm_calm (fm_it k (w.1, w.2.1)).1 b = 0 then _ else _) = _
        rw [if_pos hc]
        rfl
      · rw [hL, show M - k = 0 by omega]
        show (if fm_calm (fm_it k (w.1, w.2.1)).1 b = 0 then _ else _) = _
        rw [if_pos hc]
    rcases hj with ⟨q, -⟩ | ⟨-, q, e⟩ | ⟨-, q, q2, e⟩ | ⟨-, q, q2, e⟩
    · exact absurd q hn
    · exact no (by rw [ec, if_pos q]) e
    · exact no (by rw [ec, if_neg q, if_pos q2]) e
    · have hc : ¬ fm_calm (fm_it k (w.1, w.2.1)).1 b = 0 := by rw [ec, if_neg q, if_neg q2]; decide
      refine Or.inl ⟨by rw [e]; exact nI_pos' (by omega), ?_⟩
      rw [e, hL, fm_look_0 hc]
theorem FI_e {b : Int32} {M k : Nat} {w : vX10} {F : Int32} (h : FI b M k w F) (hk : M < k) : F = fm_look b M 0 (w.1, w.2.1) := by
  rcases h with ⟨-, h1⟩ | ⟨h0, -, h1⟩
  · exact h1
  · rw [h0, h1 hk]
/-- sums between turning points -/
def SI (w v : vX10) (zs : Int64) (f : Nat → Int64) : Prop := v.2.1 0 = w.2.1 0 + zs ∧ ∀ i, i < 3 → i < nT (v.1 13) → v.2.1 (1 + i) = w.2.1 0 + f i
section
variable {t : vTv} {w v u : vX10} {r : Int32} {n : Nat}
theorem mi_sums (hR : Rel t w) {g T : Int32} (hg : (fm_A2 w.1 4 = w.1 4 ∧ g = 0) ∨ (fm_A2 w.1 4 ≠ w.1 4 ∧ g = fm_dir (fm_A2 w.1 4) (w.1 4) ∧ g ≠ 0)) (hT : ((g = 0) ∧ T = (0 : Int32)) ∨ ((¬ (g = 0)) ∧ (¬ (w.1 12 = (-g))) ∧ T = (0 : Int32)) ∨ ((¬ (g = 0)) ∧ (w.1 12 = (-g)) ∧ T = (1 : Int32))) :
    (T = 0 ∧ (fm_W2 w.1 w.2.1).2.1 = w.2.1) ∨ (T = 1 ∧ (fm_W2 w.1 w.2.1).2.1 = fm_tns (nT (w.1 13)) w.2.1) := by
  have e12 : fm_A2 w.1 12 = w.1 12 := A2_ne (by decide) (by decide) (by decide) (by decide)
  rcases hg with ⟨g1, rfl⟩ | ⟨g1, g2, g3⟩
  · refine Or.inl ⟨?_, ?_⟩
    · rcases hT with ⟨-, h⟩ | ⟨h, -⟩ | ⟨h, -⟩
      · exact h
      · exact absurd rfl h
      · exact absurd rfl h
    · unfold fm_W2 fm_mm2
      dsimp only
      rw [if_pos g1]
  · by_cases c : w.1 12 = -g
    · refine Or.inr ⟨?_, ?_⟩
      · rcases hT with ⟨h, -⟩ | ⟨-, h, -⟩ | ⟨-, -, h⟩
        · exact absurd h g3
        · exact absurd c h
        · exact h
      · unfold fm_W2 fm_mm2
        dsimp only
        rw [if_neg g1, if_pos (by rw [e12, ← g2]; exact c)]
        rfl
    · refine Or.inl ⟨?_, ?_⟩
      · rcases hT with ⟨h, -⟩ | ⟨-, -, h⟩ | ⟨-, h, -⟩
        · exact absurd h g3
        · exact h
        · exact absurd h c
      · unfold fm_W2 fm_mm2
        dsimp only
        rw [if_neg g1, if_neg (by rw [e12, ← g2]; exact c)]
theorem fm_dir0 (x y : Int32) : fm_dir x y ≠ 0 := by
  unfold fm_dir
  split <;> decide
/-- a minute, by its answer -/
theorem cm_ps (hR : Rel t v) (hI : IV n v) (hn : n < 90000) (hu : u = (fm_pass (pmN v) v 1).2) (hr : r = (fm_pass (pmN v) v 1).1) :
    u.2.2.2.2.2.2.2 = v.2.2.2.2.2.2.2 ∧ u.2.1 0 = v.2.1 0 + (u.1 4).toInt64 ∧ ((r = 0 ∧ u.1 13 = v.1 13 ∧ ∀ j, 1 ≤ j → u.2.1 j = v.2.1 j) ∨ (r = 1 ∧ u.1 13 = nI ((if nT (v.1 13) < 8 then nT (v.1 13) else 7) + 1) ∧ u.2.1 1 = v.2.1 0 ∧ ∀ j, 0 < j → j ≤ (if nT (v.1 13) < 8 then nT (v.1 13) else 7) → u.2.1 (1 + j) = v.2.1 j)) ∧ IV (n + 1) u := by
  have hB := mi_B hR hI hn hu
  have er := mi_r hR hI hn hu hr
  obtain ⟨g, hg⟩ : ∃ g : Int32, (fm_A2 v.1 4 = v.1 4 ∧ g = 0) ∨ (fm_A2 v.1 4 ≠ v.1 4 ∧ g = fm_dir (fm_A2 v.1 4) (v.1 4) ∧ g ≠ 0) := by
    by_cases c : fm_A2 v.1 4 = v.1 4
    · exact ⟨0, Or.inl ⟨c, rfl⟩⟩
    · exact ⟨_, Or.inr ⟨c, rfl, fm_dir0 _ _⟩⟩
  obtain ⟨T, hT⟩ : ∃ T : Int32, ((g = 0) ∧ T = (0 : Int32)) ∨ ((¬ (g = 0)) ∧ (¬ (v.1 12 = (-g))) ∧ T = (0 : Int32)) ∨ ((¬ (g = 0)) ∧ (v.1 12 = (-g)) ∧ T = (1 : Int32)) := by
    by_cases c : g = 0
    · exact ⟨0, Or.inl ⟨c, rfl⟩⟩
    · by_cases c2 : v.1 12 = -g
      · exact ⟨1, Or.inr (Or.inr ⟨c, c2, rfl⟩)⟩
      · exact ⟨0, Or.inr (Or.inl ⟨c, c2, rfl⟩)⟩
  obtain ⟨-, hM⟩ := mi_tn hR hB hg hT
  have hS := mi_sums hR hg hT
  have hM' : MT v u.1 T := hM
  have hE := mi_IV hR hB hM' hI hn
  have eu : u.2.1 = vp_updL (fm_W2 v.1 v.2.1).2.1 0 ((fm_W2 v.1 v.2.1).2.1 0 + (fm_A2 v.1 4).toInt64) := by
    rw [hu, mi_pass hR hI hn, min_eq]
  have e4 := (mb_45 hR hB).1
  refine ⟨by rw [hu, mi_pass hR hI hn]; rfl, ?_, ?_, hE⟩
  · rw [eu, updL_eq, e4]
    rcases hS with ⟨-, h⟩ | ⟨-, h⟩
    · rw [h]
    · rw [h, tns_0]
  · rcases hM with ⟨rfl, m13, m14, -⟩ | ⟨rfl, m13, m14, -⟩
    · refine Or.inl ⟨?_, m13, fun j hj => ?_⟩
      · rw [er, m14]; exact Int32.sub_self _
      · rw [eu, updL_ne (by omega)]
        rcases hS with ⟨-, h⟩ | ⟨h, -⟩
        · rw [h]
        · exact absurd h (by decide)
    · refine Or.inr ⟨?_, m13, ?_, fun j h0 hj => ?_⟩
      · rw [er, m14, Int32.add_comm]; exact Int32.add_sub_cancel _ _
      · rw [eu, updL_ne (by omega)]
        rcases hS with ⟨h, -⟩ | ⟨-, h⟩
        · exact absurd h (by decide)
        · rw [h, tns_1]
      · rw [eu, updL_ne (by omega)]
        rcases hS with ⟨h, -⟩ | ⟨-, h⟩
        · exact absurd h (by decide)
        · rw [h, tns_j h0 hj]
theorem SI_s {zs : Int64} {f f' : Nat → Int64} (hR : Rel t v) (h : SI w v zs f) (hp : u.2.1 0 = v.2.1 0 + (u.1 4).toInt64 ∧ ((r = 0 ∧ u.1 13 = v.1 13 ∧ ∀ j, 1 ≤ j → u.2.1 j = v.2.1 j) ∨ (r = 1 ∧ u.1 13 = nI ((if nT (v.1 13) < 8 then nT (v.1 13) else 7) + 1) ∧ u.2.1 1 = v.2.1 0 ∧ ∀ j, 0 < j → j ≤ (if nT (v.1 13) < 8 then nT (v.1 13) else 7) → u.2.1 (1 + j) = v.2.1 j)))
    (hf : ((¬ (r = (1 : Int32))) ∧ f' = f) ∨ ((r = (1 : Int32)) ∧ f' = vp_updL (vp_updL (vp_updL f 2 (f 1)) 1 (vp_updL f 2 (f 1) 0)) 0 zs)) : SI w u (zs + (u.1 4).toInt64) f' := by
  obtain ⟨h1, h2⟩ := h
  obtain ⟨p0, p1⟩ := hp
  have h8 := (rel_13 hR).2
  refine ⟨by rw [p0, h1, Int64.add_assoc], fun i hi hn => ?_⟩
  rcases p1 with ⟨rfl, p2, p3⟩ | ⟨rfl, p2, p3, p4⟩
  · rw [p2] at hn
    rcases hf with ⟨-, rfl⟩ | ⟨q, -⟩
    · rw [p3 (1 + i) (by omega), h2 i hi hn]
    · exact absurd q (by decide)
  · rcases hf with ⟨q, -⟩ | ⟨-, rfl⟩
    · exact absurd rfl q
    · rw [p2, nT_nI (by split <;> omega)] at hn
      rcases (show i = 0 ∨ i = 1 ∨ i = 2 by omega) with rfl | rfl | rfl
      · rw [updL_eq]
        show u.2.1 1 = _
        rw [p3, h1]
      · rw [updL_ne (by decide), updL_eq, updL_ne (by decide), p4 1 (by decide) (by omega)]
        exact h2 0 (by decide) (by split at hn <;> omega)
      · rw [updL_ne (by decide), updL_ne (by decide), updL_eq, p4 2 (by decide) (by omega)]
        exact h2 1 (by decide) (by split at hn <;> omega)
theorem cm_13 (hR : Rel t u) (h : ¬ u.1 13 ≤ 2) : 3 ≤ u.1 13 ∧ 3 ≤ nT (u.1 13) := by
  obtain ⟨e, h8⟩ := rel_13 hR
  have : 3 ≤ nT (u.1 13) := Nat.lt_of_not_le (fun q => h (by rw [e]; exact nI_le (b := 2) q (by decide)))
  exact ⟨by rw [e]; exact nI_le (a := 3) this (by omega), this⟩
theorem cm_tt (hR : Rel t u) (h : ¬ u.1 13 ≤ 2) : fm_turn u.1 0 1 = u.1 59 ∧ fm_turn u.1 2 1 = u.1 63 := by
  obtain ⟨e, h8⟩ := rel_13 hR
  have h3 := (cm_13 hR h).2
  exact ⟨turn_n (j := 0) (x := 1) e h8 (by omega) (by omega), turn_n (j := 2) (x := 1) e h8 (by omega) (by omega)⟩
theorem cm_dv (hR : Rel t u) (h : ¬ u.1 13 ≤ 2) : ¬ (fm_turn u.1 0 1 - fm_turn u.1 2 1).toInt64 = 0 := by
  obtain ⟨e0, e2⟩ := cm_tt hR h
  rw [e0, e2]
  exact rel_okT hR (cm_13 hR h).1
theorem i64_s (c x y : Int64) : (c + x) - (c + y) = x - y := by
  have h : (x - y) + (c + y) = c + x := by
    rw [← Int64.add_assoc, Int64.add_comm (x - y) c, Int64.add_assoc, Int64.sub_add_cancel]
  rw [← h, Int64.add_sub_cancel]
theorem cm_mean (hR : Rel t u) {zs : Int64} {f : Nat → Int64} (h : SI w u zs f) (h3 : ¬ u.1 13 ≤ 2) : (if 3 ≤ u.1 13 then fm_mean u.1 u.2.1 else -1000000006) = ((f 0 - f 2) / (fm_turn u.1 0 1 - fm_turn u.1 2 1).toInt64).toInt32 := by
  obtain ⟨c3, n3⟩ := cm_13 hR h3
  obtain ⟨e0, e2⟩ := cm_tt hR h3
  rw [if_pos c3, e0, e2]
  unfold fm_mean
  have s1 : u.2.1 1 = w.2.1 0 + f 0 := h.2 0 (by decide) (by omega)
  have s3 : u.2.1 3 = w.2.1 0 + f 2 := h.2 2 (by decide) (by omega)
  rw [s1, s3, i64_s]
end
/-- behind the remembered state, at another level -/
def PI (w v : vX10) : Prop := (∀ i, i < 85 → i ≠ 8 → i ≠ 9 → i ≠ 28 → v.1 i = w.1 i) ∧ v.1 28 = 0 ∧ (∀ i, i < 9 → v.2.1 i = w.2.1 i) ∧ SV w v
section
variable {t : vTv} {w v u : vX10} {r b : Int32} {pm M k : Nat}
theorem cm_rest (hS : SV w v) (hr : r = (fm_restX pm v 0).1) (hu : u = (fm_restX pm v 0).2) : r = w.1 10 ∧ (∀ i, i < 85 → u.1 i = w.1 i) ∧ (∀ i, i < 9 → u.2.1 i = w.2.1 i) ∧ SV w u := by
  obtain ⟨s1, s2, s3⟩ := hS
  unfold fm_restX fm_restore at hr hu
  rw [if_neg (by decide), show (0 : Int32).toNatClampNeg = 0 from rfl, if_neg (by rw [s1]; decide)] at hr hu
  have k1 : (fm_keep pm v).2.2.2.2.2.2.2.1 = v.2.2.2.2.2.2.2.1 := rfl
  have k2 : (fm_keep pm v).2.2.2.2.2.2.2.2.1 = v.2.2.2.2.2.2.2.2.1 := rfl
  rw [k1] at hr hu
  rw [k2] at hu
  refine ⟨?_, fun i hi => ?_, fun i hi => ?_, ?_⟩
  · rw [hr]
    show v.2.2.2.2.2.2.2.1 (85 * 0 + 10) = _
    exact s2 10 (by decide)
  · rw [hu]
    show v.2.2.2.2.2.2.2.1 (85 * 0 + i) = _
    rw [show 85 * 0 + i = i by omega]
    exact s2 i hi
  · rw [hu]
    show v.2.2.2.2.2.2.2.2.1 (9 * 0 + i) = _
    rw [show 9 * 0 + i = i by omega]
    exact s3 i hi
  · exact SV_c ⟨s1, s2, s3⟩ (by rw [hu]; rfl)
theorem cm_set (h1 : ∀ i, i < 85 → v.1 i = w.1 i) (h2 : ∀ i, i < 9 → v.2.1 i = w.2.1 i) (hS : SV w v) (hu : u = (fm_set pm v 8 0).2) : PI w u := by
  unfold fm_set at hu
  rw [if_neg (by decide)] at hu
  have e : (20 + (8 : Int32).toNatClampNeg) = 28 := by decide
  rw [e] at hu
  refine ⟨fun i p _ _ q => ?_, ?_, fun i hi => ?_, SV_c hS (by rw [hu]; rfl)⟩
  · rw [hu]
    show upd v.1 28 0 i = _
    rw [upd_ne q, h1 i p]
  · rw [hu]
    show upd v.1 28 0 28 = _
    exact upd_eq
  · rw [hu]; exact h2 i hi
theorem cm_damp (hR : Rel t v) (h : PI w v) (hk : k < 5) (hu : u = (fm_damp pm v (nI k)).2) : PI w u ∧ u.1 8 = nI k := by
  obtain ⟨h1, h2, h3, h4⟩ := h
  have k10 : upd (fm_keep pm v).1 8 (nI k) 10 = v.1 10 := upd_ne (by decide)
  have hd := hR.1.2.2.1.2.2.2.2.2.2
  have e : u = (upd (upd v.1 8 (nI k)) 9 (v.1 10), (fm_keep pm v).2) := by
    have hm : ¬ fm_in (nI k) 0 4 = 0 := in_n (l := 0) (m := 4) (by omega) (by omega) (by decide)
    unfold fm_damp at hu
    rw [if_neg hm, k10] at hu
    by_cases c : v.1 9 < 0
    · rw [if_pos c] at hu
      exact hu
    · rw [if_neg c, if_pos] at hu
      · exact hu
      · rw [show v.1 (20 + 8) = 0 from h2]
        have c0 := Int32.le_iff_toInt_le.mp (Int32.not_lt.mp c)
        have z0 : (0 : Int32).toInt = 0 := by decide
        have h9 : 0 ≤ (v.1 9).toInt ∧ (v.1 9).toInt ≤ (v.1 10).toInt := by
          rcases hd with ⟨-, q⟩ | ⟨-, q⟩
          · rw [q] at c; exact absurd (by decide) c
          · exact q
        have e9 : (v.1 10 - v.1 9).toInt = (v.1 10).toInt - (v.1 9).toInt := zi_sub (by have := (z32 (x := v.1 10)).1; omega) (by have := (z32 (x := v.1 10)).1; omega)
        exact Int32.le_iff_toInt_le.mpr (by omega)
  refine ⟨⟨fun i p q8 q9 q => ?_, ?_, fun i hi => ?_, SV_c h4 (by rw [e]; rfl)⟩, ?_⟩
  · rw [e]
    show upd (upd v.1 8 (nI k)) 9 (v.1 10) i = _
    rw [upd_ne q9, upd_ne q8, h1 i p q8 q9 q]
  · rw [e]
    show upd (upd v.1 8 (nI k)) 9 (v.1 10) 28 = _
    rw [upd_ne (by decide), upd_ne (by decide), h2]
  · rw [e]; exact h3 i hi
  · rw [e]
    show upd (upd v.1 8 (nI k)) 9 (v.1 10) 8 = _
    rw [upd_ne (by decide), upd_eq]
theorem cm_own (hR : Rel t w) (h : PI w v) (h8 : v.1 8 = nI k) (hk : k < 5) (hb : ¬ fm_in b 0 100000 = 0) (hM : 1 ≤ M ∧ M ≤ 60) (hr : r = (fm_calmIn v b (nI M)).1) (hu : u = (fm_calmIn v b (nI M)).2) : r = fm_look b M 0 (fm_c0 w (nI k)) ∧ PI w u := by
  obtain ⟨e, ⟨u1, u2⟩, u3⟩ := cm_calm hb hM hr hu
  obtain ⟨h1, h2, h3, h4⟩ := h
  refine ⟨?_, ?_⟩
  · rw [e, cm_c0]
    have sc : sameC (upd w.1 8 (nI k)) v.1 := fun i hi => by
      by_cases q : i = 8
      · subst q; rw [upd_eq, h8]
      · rw [upd_ne q]; exact h1 i (by omega) q (by omega) (by omega)
    exact sc_look b M 0 _ _ _ _ sc (MX_lv (rel_MX hR) (by rw [nI_toInt (by omega)]; omega))
  · exact ⟨by rw [u1]; exact h1, by rw [u1]; exact h2, by rw [u2]; exact h3, SV_c h4 u3⟩
theorem cm_bl {lv sn' j1 j2 l : Int32} (h : (lv, sn') = fm_bl M w b k) (hl : l = fm_look b M 0 (fm_c0 w (nI k))) (hj : ((l < 0) ∧ j1 = lv ∧ j2 = sn') ∨ ((¬ (l < 0)) ∧ (sn' ≤ l) ∧ j1 = lv ∧ j2 = sn') ∨ ((¬ (l < 0)) ∧ (¬ (sn' ≤ l)) ∧ j1 = nI k ∧ j2 = l)) : (j1, j2) = fm_bl M w b (k + 1) := by
  show _ = (if fm_look b M 0 (fm_c0 w (nI k)) < 0 then fm_bl M w b k else if (fm_bl M w b k).2 ≤ fm_look b M 0 (fm_c0 w (nI k)) then fm_bl M w b k else (nI k, fm_look b M 0 (fm_c0 w (nI k))))
  rw [← h, ← hl]
  rcases hj with ⟨q, rfl, rfl⟩ | ⟨q, q2, rfl, rfl⟩ | ⟨q, q2, rfl, rfl⟩
  · rw [if_pos q]
  · rw [if_neg q, if_pos q2]
  · rw [if_neg q, if_neg q2]
theorem cm_i0 {n : Nat} (hR : Rel t w) (hI : IV n w) (h : v.1 = upd (upd w.1 13 0) 12 0) : IV n v := by
  obtain ⟨i1, i2, i3, i4, i5, i6⟩ := hI
  have e : ∀ i, i ≠ 12 → i ≠ 13 → v.1 i = w.1 i := fun i p q => by rw [h, upd_ne p, upd_ne q]
  have e13 : v.1 13 = 0 := by rw [h, upd_ne (by decide), upd_eq]
  have q13 := (rel_13 hR).1
  have t13 : 0 ≤ (w.1 13).toInt := by rw [q13, nI_toInt (by have := (rel_13 hR).2; omega)]; omega
  have em : fl_ms v.1 5 = fl_ms w.1 5 := by
    show ((((0 + v.1 29) + v.1 30) + v.1 31) + v.1 32) + v.1 33 = ((((0 + w.1 29) + w.1 30) + w.1 31) + w.1 32) + w.1 33
    rw [e 29 (by omega) (by omega), e 30 (by omega) (by omega), e 31 (by omega) (by omega), e 32 (by omega) (by omega), e 33 (by omega) (by omega)]
  unfold IV
  rw [em, e 10 (by omega) (by omega), e 14 (by omega) (by omega), e 15 (by omega) (by omega), e 16 (by omega) (by omega), e13]
  exact ⟨i1, i2, by have z : (0 : Int32).toInt = 0 := by decide
                    omega, i4, i5, i6⟩
theorem cm_s0 (h : v.1 = upd (upd w.1 13 0) 12 0) (h2 : v.2.1 = w.2.1) : sameC (fm_it 0 (w.1, w.2.1)).1 v.1 ∧ SI w v 0 (fun _ => 0) := by
  refine ⟨fun i hi => by rw [h, upd_ne (by omega), upd_ne (by omega)]; rfl, by rw [h2, Int64.add_zero], fun i hi hn => ?_⟩
  have e13 : v.1 13 = 0 := by rw [h, upd_ne (by decide), upd_eq]
  have n0 : nT (0 : Int32) = 0 := by decide
  rw [e13, n0] at hn
  exact absurd hn (Nat.not_lt_zero i)
theorem cm_sc (hR : Rel t w) (h : sameC (fm_it k (w.1, w.2.1)).1 v.1) (he : u.1 = (fm_min (v.1, v.2.1)).1) : sameC (fm_it (k + 1) (w.1, w.2.1)).1 u.1 := by
  rw [he]
  exact sc_min (s := (fm_it k (w.1, w.2.1)).2) h (MX_it (rel_MX hR) k)
end
