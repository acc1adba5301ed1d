/-! swings behind a minute -/
theorem ok13 {x : Int32} (h : okN x) : nT x ≤ 8 ∧ x = nI (nT x) := ⟨nT_le h.2, nT_eq h.1⟩
theorem sum_add {s : Int64} {x : Int32} {t : Int} (h1 : -(1800000 * t) ≤ s.toInt) (h2 : s.toInt ≤ 1800000 * t) (ht : t ≤ 1000000) (hx : zB 1800000 x) : (s + x.toInt64).toInt = s.toInt + x.toInt := by
  have e := Int32.toInt_toInt64 x
  rw [zl_add (by rw [e]; have := hx.1; omega) (by rw [e]; have := hx.2; omega), e]
theorem sw_same {v v' : vX8} {a b : Nat → Int32} {s : Nat → Int64} {x : Int32} (h : rSw v a s) (ht : (a 10).toInt ≤ 1000000) (ht0 : 0 ≤ (a 10).toInt) (hx : zB 1800000 x) (e10 : b 10 = a 10 + 1) (e13 : b 13 = a 13) (er : ∀ i, 58 ≤ i → i < 74 → b i = a i)
    (w1 : v'.1 = v.1) (w2 : v'.2.1 = v.2.1) (w3 : v'.2.2.1 = v.2.2.1) (w4 : v'.2.2.2.1 = v.2.2.2.1 + x.toInt64) (w5 : v'.2.2.2.2.1 = b 12) (w6 : v'.2.2.2.2.2 = b 14) : rSw v' b (vp_updL s 0 (s 0 + x.toInt64)) := by
  obtain ⟨h1, h2, h3, ⟨h4, h4a, h4b⟩, h5, h6⟩ := h
  have z1 : (1 : Int32).toInt = 1 := by decide
  have t10 : (b 10).toInt = (a 10).toInt + 1 := by rw [e10, zi_add (by omega) (by omega), z1]
  have hs := sum_add h4a h4b ht hx
  refine ⟨by rw [w1, e13]; exact h1, by rw [e13]; exact h2, fun j hj => ?_, ⟨by rw [w4, h4, updL_eq], ?_, ?_⟩, w5, w6⟩
  · rw [e13] at hj
    have hj8 : j < 8 := by have := (ok13 h2).1; omega
    obtain ⟨p1, p2, p3, p4, p5, p6, p7, p8⟩ := h3 j hj
    have et1 : tm b (j + 1) = tm a (j + 1) := by show (b (58 + 2 * j + 1)).toInt = (a (58 + 2 * j + 1)).toInt; rw [er _ (by omega) (by omega)]
    unfold rSwj
    rw [w1, w2, w3, er (58 + 2 * j) (by omega) (by omega), er (58 + 2 * j + 1) (by omega) (by omega), et1, updL_ne (by omega)]
    cases j with
    | zero =>
      have et0 : tm b 0 = tm a 0 + 1 := t10
      rw [et0, updL_eq, hs]
      have := hx.1; have := hx.2
      exact ⟨p1, p2, p3, p4, p5, by omega, by omega, by omega⟩
    | succ q =>
      have et0 : tm b (q + 1) = tm a (q + 1) := by show (b (58 + 2 * q + 1)).toInt = (a (58 + 2 * q + 1)).toInt; rw [er _ (by omega) (by omega)]
      rw [et0, updL_ne (by omega)]
      exact ⟨p1, p2, p3, p4, p5, p6, p7, p8⟩
  · rw [updL_eq, hs, t10]; have := hx.1; omega
  · rw [updL_eq, hs, t10]; have := hx.2; omega
theorem sw_add {v v' : vX8} {a b A : Nat → Int32} {s : Nat → Int64} {x e0 : Int32} (h : rSw v a s) (ht : (a 10).toInt ≤ 1000000) (ht0 : 0 ≤ (a 10).toInt) (hx : zB 1800000 x) (he : zB 1800000 e0) (e10 : b 10 = a 10 + 1)
    (eA : ∀ i, i = 10 ∨ i = 14 ∨ (58 ≤ i ∧ i < 74) → A i = a i) (er : ∀ i, (13 ≤ i ∧ i < 15) ∨ (58 ≤ i ∧ i < 74) → b i = fm_tn2 (nT (a 13)) (fm_tn1 (nT (a 13)) A e0) i)
    (w1 : v'.1 = zf_ladd 8 v.1 e0.toInt64) (w2 : v'.2.1 = zf_ladd 8 v.2.1 (a 10).toInt64) (w3 : v'.2.2.1 = zf_ladd 8 v.2.2.1 v.2.2.2.1) (w4 : v'.2.2.2.1 = v.2.2.2.1 + x.toInt64) (w5 : v'.2.2.2.2.1 = b 12) (w6 : v'.2.2.2.2.2 = v.2.2.2.2.2 + 1) :
    rSw v' b (vp_updL (fm_tns (nT (a 13)) s) 0 (fm_tns (nT (a 13)) s 0 + x.toInt64)) := by
  obtain ⟨h1, h2, h3, ⟨h4, h4a, h4b⟩, h5, h6⟩ := h
  have z1 : (1 : Int32).toInt = 1 := by decide
  have t10 : (b 10).toInt = (a 10).toInt + 1 := by rw [e10, zi_add (by omega) (by omega), z1]
  have hs := sum_add h4a h4b ht hx
  obtain ⟨t8, tn⟩ := ok13 h2
  generalize htt : nT (a 13) = t at *
  have hlast : (if t < 8 then t else 7) ≤ 7 := by split <;> omega
  have hlt : (if t < 8 then t else 7) ≤ t := by split <;> omega
  have e13 : b 13 = nI ((if t < 8 then t else 7) + 1) := by rw [er 13 (by omega), tn_13]
  have e14 : b 14 = a 14 + 1 := by rw [er 14 (by omega), tn_14, tn1_ne (by omega), eA 14 (by omega)]
  have e58 : b 58 = e0 := by rw [er 58 (by omega), tn_58]
  have e59 : b 59 = a 10 := by rw [er 59 (by omega), tn_59, tn1_ne (by omega), eA 10 (by omega)]
  have hn : nT (b 13) = (if t < 8 then t else 7) + 1 := by rw [e13, nT_nI (by omega)]
  have hrow : ∀ q, 0 < q → q ≤ (if t < 8 then t else 7) → b (58 + 2 * q) = a (58 + 2 * (q - 1)) ∧ b (58 + 2 * q + 1) = a (58 + 2 * (q - 1) + 1) := fun q h0 hq => by
    have r := tn_row (b := A) (e := e0) h0 hq
    rw [er _ (by omega), er _ (by omega), r.1, r.2, eA _ (by omega), eA _ (by omega)]
    exact ⟨rfl, rfl⟩
  have hT : ∀ q, q ≤ (if t < 8 then t else 7) → tm b (q + 1) = tm a q := fun q hq => by
    cases q with
    | zero => show (b 59).toInt = (a 10).toInt; rw [e59]
    | succ r => show (b (58 + 2 * (r + 1) + 1)).toInt = (a (58 + 2 * r + 1)).toInt; rw [(hrow (r + 1) (by omega) hq).2, Nat.add_sub_cancel]
  have hS : ∀ q, q ≤ (if t < 8 then t else 7) → fm_tns t s (1 + q) = s q := fun q hq => by
    cases q with
    | zero => exact tns_1
    | succ r => exact tns_j (by omega) hq
  refine ⟨?_, by unfold okN; rw [e13, nI_toInt (by omega)]; omega, fun j hj => ?_, ⟨by rw [w4, h4, tns_0, updL_eq], ?_, ?_⟩, w5, by rw [w6, h6, e14]⟩
  · rw [w1, e13]
    show (if nI 8 < v.1.2 + 1 then nI 8 else v.1.2 + 1) = _
    rw [h1, tn]
    exact shn_eq t8
  · rw [hn] at hj
    unfold rSwj
    rw [w1, w2, w3, updL_ne (by omega), hS j (by omega), hT j (by omega)]
    cases j with
    | zero =>
      have et0 : tm b 0 = tm a 0 + 1 := t10
      rw [et0, tns_0, updL_eq, hs, e58, e59]
      have := hx.1; have := hx.2
      exact ⟨rfl, he, rfl, h4, ht0, by omega, by omega, by omega⟩
    | succ q =>
      obtain ⟨p1, p2, p3, p4, p5, p6, p7, p8⟩ := h3 q (by omega)
      have hr := hrow (q + 1) (by omega) (by omega)
      rw [Nat.add_sub_cancel] at hr
      rw [hT q (by omega), updL_ne (by omega), show q + 1 = 1 + q by omega, hS q (by omega), show 1 + q = q + 1 by omega, hr.1, hr.2]
      rw [show 1 + q = q + 1 by omega] at p4 p7 p8
      exact ⟨p1, p2, p3, p4, p5, p6, p7, p8⟩
  · rw [tns_0, updL_eq, hs, t10]; have := hx.1; omega
  · rw [tns_0, updL_eq, hs, t10]; have := hx.2; omega
theorem follow_eq {T : Int} {S : vX7} {a b : Nat → Int32} {s : Nat → Int64} (h : RS T S a s) (hT : T ≤ 1000000) (e10 : b 10 = a 10 + 1) (eb : ∀ i, (12 ≤ i ∧ i < 15) ∨ (58 ≤ i ∧ i < 74) → b i = (fm_W2 a s).1 i) :
    rSw (zf_follow S.2.2.2.1 S.2.2.1.2.1 (zf_g S).2.1 S.2.2.2.2.2.1) b (vp_updL (fm_W2 a s).2.1 0 ((fm_W2 a s).2.1 0 + (fm_A2 a 4).toInt64)) := by
  obtain ⟨⟨g1, g2⟩, -⟩ := swing_eq h
  obtain ⟨-, -, ⟨-, ⟨b1, b2⟩, -⟩, h4, -, ⟨t1, t2, t3⟩, -⟩ := h
  have ht : (a 10).toInt ≤ 1000000 := by omega
  rw [g1, b1, t1]
  unfold zf_follow
  have hd := dir_eq (x := fm_A2 a 4) (y := a 4)
  by_cases c : fm_A2 a 4 = a 4
  · have eW : fm_W2 a s = (fm_A2 a, s, fr0) := by unfold fm_W2 fm_mm2; rw [if_pos c]
    rw [if_pos (by rw [c])]
    rw [eW] at eb ⊢
    have ea : ∀ i, (12 ≤ i ∧ i < 15) ∨ (58 ≤ i ∧ i < 74) → b i = a i := fun i hi => (eb i hi).trans (A2_ne (by omega) (by omega) (by omega) (by omega))
    exact sw_same h4 ht t2 g2 e10 (ea 13 (by omega)) (fun i h1 h2 => ea i (by omega)) rfl rfl rfl rfl (by rw [ea 12 (by omega)]; exact h4.2.2.2.2.1) (by rw [ea 14 (by omega)]; exact h4.2.2.2.2.2)
  · rw [if_neg (fun q => c (zx_inj q)), hd, h4.2.2.2.2.1]
    have e12 : fm_A2 a 12 = a 12 := A2_ne (by decide) (by decide) (by decide) (by decide)
    by_cases c2 : a 12 = -fm_dir (fm_A2 a 4) (a 4)
    · have eW : fm_W2 a s = (upd (fm_addTurn (nT (a 13)) (fm_A2 a, s, fr0) (a 4)).1 12 (fm_dir (fm_A2 a 4) (a 4)), (fm_addTurn (nT (a 13)) (fm_A2 a, s, fr0) (a 4)).2) := by
        unfold fm_W2 fm_mm2; dsimp only; rw [if_neg c, if_pos (e12.trans c2)]
      rw [if_pos c2]
      rw [eW] at eb ⊢
      have ea : ∀ i, (13 ≤ i ∧ i < 15) ∨ (58 ≤ i ∧ i < 74) → b i = fm_tn2 (nT (a 13)) (fm_tn1 (nT (a 13)) (fm_A2 a) (a 4)) i := fun i hi => by
        rw [eb i (by omega)]; dsimp only; rw [upd_ne (by omega)]; rfl
      exact sw_add (A := fm_A2 a) h4 ht t2 g2 b2 e10 (fun i hi => A2_ne (by omega) (by omega) (by omega) (by omega)) ea rfl rfl rfl rfl (by rw [eb 12 (by omega)]; dsimp only; rw [upd_eq]) rfl
    · have eW : fm_W2 a s = (upd (fm_A2 a) 12 (fm_dir (fm_A2 a 4) (a 4)), s, fr0) := by
        unfold fm_W2 fm_mm2; dsimp only; rw [if_neg c, if_neg (fun q => c2 (e12.symm.trans q))]
      rw [if_neg c2]
      rw [eW] at eb ⊢
      have ea : ∀ i, (13 ≤ i ∧ i < 15) ∨ (58 ≤ i ∧ i < 74) → b i = a i := fun i hi => by
        rw [eb i (by omega)]; dsimp only; rw [upd_ne (by omega), A2_ne (by omega) (by omega) (by omega) (by omega)]
      exact sw_same h4 ht t2 g2 e10 (ea 13 (by omega)) (fun i h1 h2 => ea i (by omega)) rfl rfl rfl rfl (by rw [eb 12 (by omega)]; dsimp only; rw [upd_eq]) (by rw [ea 14 (by omega)]; exact h4.2.2.2.2.2)
