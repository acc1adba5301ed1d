/-! forecasts: both sides tell the same minute, the same level -/
theorem calm_eq {T : Int} {S : vX7} {a : Nat → Int32} {s : Nat → Int64} (h : RS T S a s) (b : Int32) : zf_calm S b.toInt64 = fm_calm a b := by
  have hr := rest_eq h
  obtain ⟨-, -, ⟨-, ⟨g1, g2⟩, ⟨t1, t2⟩, -⟩, -⟩ := h
  have e1 : zf_abs (S.2.2.1.2.1 - zf_rest S) = (fm_size (a 4 - fm_rest a)).toInt64 := by
    rw [g1, hr.1, ← zx_sub (by have := g2.1; have := hr.2.2; omega) (by have := g2.2; have := hr.2.1; omega)]
    refine zx_abs ?_
    rw [zi_sub (by have := g2.1; have := hr.2.2; omega) (by have := g2.2; have := hr.2.1; omega)]
    have := g2.1; have := hr.2.2; omega
  have e2 : zf_abs S.2.2.1.2.2.1 = (fm_size (a 5)).toInt64 := by
    rw [t1]; exact zx_abs (by have := t2.1; omega)
  show (if b.toInt64 < zf_abs (S.2.2.1.2.1 - zf_rest S) then (0 : Int32) else if b.toInt64 < zf_abs S.2.2.1.2.2.1 then 0 else 1) = _
  rw [e1, e2]
  unfold fm_calm
  simp only [zx_lt]
theorem look_eq (b : Int32) : ∀ (d k : Nat) (T : Int) (S : vX7) (a : Nat → Int32) (s : Nat → Int64), RS T S a s → T + d ≤ 1000000 → (fc_lk b.toInt64 (d + 1) k S).1 = fm_look b d k (a, s)
  | 0, k, T, S, a, s, h, hT => by
    have hc := calm_eq h b
    show (if zf_calm S b.toInt64 = 0 then fc_lk b.toInt64 0 (k + 1) (zf_m1 S) else (nI k, S)).1 = (if fm_calm a b = 0 then (-6 : Int32) else nI k)
    rw [hc]
    by_cases c : fm_calm a b = 0
    · rw [if_pos c, if_pos c]; rfl
    · rw [if_neg c, if_neg c]
  | d + 1, k, T, S, a, s, h, hT => by
    have hc := calm_eq h b
    have ih := look_eq b d (k + 1) (T + 1) (zf_m1 S) (fm_min (a, s)).1 (fm_min (a, s)).2 (min_RS h (by omega)) (by omega)
    show (if zf_calm S b.toInt64 = 0 then fc_lk b.toInt64 (d + 1) (k + 1) (zf_m1 S) else (nI k, S)).1 = (if fm_calm a b = 0 then fm_look b d (k + 1) (fm_min (a, s)) else nI k)
    rw [hc]
    by_cases c : fm_calm a b = 0
    · rw [if_pos c, if_pos c]; exact ih
    · rw [if_neg c, if_neg c]
theorem lv_RS {T : Int} {S : vX7} {a : Nat → Int32} {s : Nat → Int64} (h : RS T S a s) {x : Int32} (hx : 0 ≤ x.toInt ∧ x.toInt ≤ 4) : RS T (zf_lv S x) (upd a 8 x) s := by
  obtain ⟨h1, h2, ⟨g0, g1, g2, g3, g4, g5, g6⟩, h4, h5, h6, h7, h8⟩ := h
  have e : ∀ i, i ≠ 8 → upd a 8 x i = a i := fun i hi => upd_ne hi
  refine ⟨rSet_c h1 (fun i p q => e i (by omega)), rShip_c h2 (fun i hi => e i (by omega)), ?_, rSw_c h4 (fun i hi => e i (by omega)) trivial, rSi_c h5 (fun i hi => e i (by omega)), rTm_c h6 (e 10 (by decide)), by rw [e 17 (by decide)]; exact h7, by rw [e 18 (by decide)]; exact h8⟩
  refine ⟨fun j hj => by rw [e (29 + j) (by omega)]; exact g0 j hj, by rw [e 4 (by decide)]; exact g1, by rw [e 5 (by decide)]; exact g2, by rw [e 6 (by decide)]; exact g3, by rw [e 7 (by decide)]; exact g4, ⟨upd_eq.symm, by rw [upd_eq]; exact hx⟩, ?_⟩
  unfold rDmp
  rw [e 9 (by decide), e 10 (by decide)]; exact g6
theorem fm_look_r (b : Int32) : ∀ (d k : Nat) (w : vC), fm_look b d k w = -6 ∨ ∃ j, k ≤ j ∧ j ≤ k + d ∧ fm_look b d k w = nI j
  | 0, k, w => by
    by_cases c : fm_calm w.1 b = 0
    · exact Or.inl (by show (if _ then _ else _ : Int32) = _; rw [if_pos c])
    · exact Or.inr ⟨k, by omega, by omega, by show (if _ then _ else _ : Int32) = _; rw [if_neg c]⟩
  | d + 1, k, w => by
    by_cases c : fm_calm w.1 b = 0
    · have e : fm_look b (d + 1) k w = fm_look b d (k + 1) (fm_min w) := by show (if _ then _ else _ : Int32) = _; rw [if_pos c]
      rw [e]
      rcases fm_look_r b d (k + 1) (fm_min w) with h | ⟨j, h1, h2, h3⟩
      · exact Or.inl h
      · exact Or.inr ⟨j, by omega, by omega, h3⟩
    · exact Or.inr ⟨k, by omega, by omega, by show (if _ then _ else _ : Int32) = _; rw [if_neg c]⟩
/-- a search up to a lower limit -/
theorem look_cut (b : Int32) : ∀ (L M k : Nat) (w : vC), L ≤ M → k + M < 2 ^ 31 → fm_look b L k w = if (0 : Int32) ≤ fm_look b M k w ∧ fm_look b M k w ≤ nI (k + L) then fm_look b M k w else -6
  | L, M, k, w, hLM, hb => by
    by_cases c : fm_calm w.1 b = 0
    · cases L with
      | zero =>
        have e : fm_look b 0 k w = -6 := by show (if _ then _ else _ : Int32) = _; rw [if_pos c]
        rw [e]
        have hneg : ¬ ((0 : Int32) ≤ fm_look b M k w ∧ fm_look b M k w ≤ nI (k + 0)) := by
          rintro ⟨q1, q2⟩
          cases M with
          | zero =>
            have e2 : fm_look b 0 k w = -6 := e
            rw [e2] at q1; exact absurd q1 (by decide)
          | succ M =>
            have e2 : fm_look b (M + 1) k w = fm_look b M (k + 1) (fm_min w) := by show (if _ then _ else _ : Int32) = _; rw [if_pos c]
            rw [e2] at q1 q2
            rcases fm_look_r b M (k + 1) (fm_min w) with h | ⟨j, h1, h2, h3⟩
            · rw [h] at q1; exact absurd q1 (by decide)
            · rw [h3] at q2
              have := (nI_leI (a := j) (b := k + 0) (by omega) (by omega)).mp q2
              omega
        rw [if_neg hneg]
      | succ L =>
        obtain ⟨M', rfl⟩ : ∃ m, M = m + 1 := ⟨M - 1, by omega⟩
        have e1 : fm_look b (L + 1) k w = fm_look b L (k + 1) (fm_min w) := by show (if _ then _ else _ : Int32) = _; rw [if_pos c]
        have e2 : fm_look b (M' + 1) k w = fm_look b M' (k + 1) (fm_min w) := by show (if _ then _ else _ : Int32) = _; rw [if_pos c]
        rw [e1, e2, look_cut b L M' (k + 1) (fm_min w) (by omega) (by omega), show k + 1 + L = k + (L + 1) by omega]
    · have e1 : ∀ d, fm_look b d k w = nI k := fun d => fm_look_0 c
      rw [e1, e1, if_pos ⟨nI_pos' (by omega), nI_le (by omega) (by omega)⟩]
theorem best_inv {T : Int} {S f : vX7} {v : vX10} (h : RS T S v.1 v.2.1) (hT : T ≤ 900000) (x : Int32) {m : Nat} (hm : m ≤ 500) : ∀ k, k ≤ 5 → (fc_bl S f x.toInt64 (nI m) k).1 = (fm_bl m v x k).1 ∧ ∃ q : Nat, q ≤ m + 1 ∧ (fm_bl m v x k).2 = nI q ∧ (fc_bl S f x.toInt64 (nI m) k).2.1 = nI q - 1
  | 0, _ => ⟨rfl, m + 1, by omega, nI_1 m, by show nI m = nI (m + 1) - 1; rw [nI_pred]⟩
  | k + 1, hk => by
    obtain ⟨i1, q, i2, i3, i4⟩ := best_inv h hT x hm k (by omega)
    have hlv : RS T (zf_lv S (nI k)) (upd v.1 8 (nI k)) v.2.1 := lv_RS h (by rw [nI_toInt (by omega)]; omega)
    show (if (fc_bl S f x.toInt64 (nI m) k).2.1 < 0 then fc_bl S f x.toInt64 (nI m) k
      else if (fc_lk x.toInt64 (nT (fc_bl S f x.toInt64 (nI m) k).2.1 + 1) 0 (zf_lv S (nI k))).1 = -6 then ((fc_bl S f x.toInt64 (nI m) k).1, (fc_bl S f x.toInt64 (nI m) k).2.1, (fc_lk x.toInt64 (nT (fc_bl S f x.toInt64 (nI m) k).2.1 + 1) 0 (zf_lv S (nI k))).2)
      else (nI k, (fc_lk x.toInt64 (nT (fc_bl S f x.toInt64 (nI m) k).2.1 + 1) 0 (zf_lv S (nI k))).1 - 1, (fc_lk x.toInt64 (nT (fc_bl S f x.toInt64 (nI m) k).2.1 + 1) 0 (zf_lv S (nI k))).2)).1 =
      (if fm_look x m 0 (fm_c0 v (nI k)) < 0 then fm_bl m v x k else if (fm_bl m v x k).2 ≤ fm_look x m 0 (fm_c0 v (nI k)) then fm_bl m v x k else (nI k, fm_look x m 0 (fm_c0 v (nI k)))).1 ∧
      ∃ q : Nat, q ≤ m + 1 ∧ (if fm_look x m 0 (fm_c0 v (nI k)) < 0 then fm_bl m v x k else if (fm_bl m v x k).2 ≤ fm_look x m 0 (fm_c0 v (nI k)) then fm_bl m v x k else (nI k, fm_look x m 0 (fm_c0 v (nI k)))).2 = nI q ∧
      (if (fc_bl S f x.toInt64 (nI m) k).2.1 < 0 then fc_bl S f x.toInt64 (nI m) k
      else if (fc_lk x.toInt64 (nT (fc_bl S f x.toInt64 (nI m) k).2.1 + 1) 0 (zf_lv S (nI k))).1 = -6 then ((fc_bl S f x.toInt64 (nI m) k).1, (fc_bl S f x.toInt64 (nI m) k).2.1, (fc_lk x.toInt64 (nT (fc_bl S f x.toInt64 (nI m) k).2.1 + 1) 0 (zf_lv S (nI k))).2)
      else (nI k, (fc_lk x.toInt64 (nT (fc_bl S f x.toInt64 (nI m) k).2.1 + 1) 0 (zf_lv S (nI k))).1 - 1, (fc_lk x.toInt64 (nT (fc_bl S f x.toInt64 (nI m) k).2.1 + 1) 0 (zf_lv S (nI k))).2)).2.1 = nI q - 1
    rw [i4, i3]
    have hw : fm_c0 v (nI k) = (upd v.1 8 (nI k), v.2.1) := rfl
    rw [hw]
    by_cases q0 : q = 0
    · subst q0
      have hn : (nI 0 : Int32) - 1 < 0 := by decide
      rw [if_pos hn]
      have hge : ∀ z : Int32, ¬ z < 0 → nI 0 ≤ z := fun z hz => by
        rw [Int32.le_iff_toInt_le]; rw [Int32.lt_iff_toInt_lt] at hz; have e : (nI 0 : Int32).toInt = 0 := by decide
        have e2 : (0 : Int32).toInt = 0 := by decide
        omega
      by_cases c : fm_look x m 0 (upd v.1 8 (nI k), v.2.1) < 0
      · rw [if_pos c]; exact ⟨i1, 0, by omega, i3, i4⟩
      · rw [if_neg c, if_pos (hge _ c)]; exact ⟨i1, 0, by omega, i3, i4⟩
    · have hq1 : nI q - 1 = nI (q - 1) := z_pred1 (by omega)
      rw [hq1, if_neg (nI_pos (by omega)), nT_nI (by omega), look_eq x (q - 1) 0 T _ _ _ hlv (by omega), look_cut x (q - 1) m 0 _ (by omega) (by omega), Nat.zero_add]
      rcases fm_look_r x m 0 (upd v.1 8 (nI k), v.2.1) with e | ⟨j, j1, j2, e⟩
      · rw [e]
        have hneg : (-6 : Int32) < 0 := by decide
        have hif : (if (0 : Int32) ≤ -6 ∧ (-6 : Int32) ≤ nI (q - 1) then (-6 : Int32) else -6) = -6 := by split <;> rfl
        rw [if_pos hneg, hif, if_pos rfl]
        exact ⟨i1, q, i2, i3, hq1.symm⟩
      · rw [e, if_neg (nI_pos (by omega))]
        by_cases c : nI q ≤ nI j
        · have c' := (nI_leI (a := q) (b := j) (by omega) (by omega)).mp c
          have hif : (if (0 : Int32) ≤ nI j ∧ nI j ≤ nI (q - 1) then nI j else -6) = -6 := by
            rw [if_neg (fun p => by have := (nI_leI (a := j) (b := q - 1) (by omega) (by omega)).mp p.2; omega)]
          rw [if_pos c, hif, if_pos rfl]
          exact ⟨i1, q, i2, i3, hq1.symm⟩
        · have c' : ¬ q ≤ j := fun p => c (nI_le p (by omega))
          have hif : (if (0 : Int32) ≤ nI j ∧ nI j ≤ nI (q - 1) then nI j else -6) = nI j := by
            rw [if_pos ⟨nI_pos' (by omega), nI_le (by omega) (by omega)⟩]
          have hne : ¬ (nI j : Int32) = -6 := fun p => by
            have p2 := congrArg Int32.toInt p
            rw [nI_toInt (by omega)] at p2
            have e6 : (-6 : Int32).toInt = -6 := by decide
            omega
          rw [if_neg c, hif, if_neg hne]
          exact ⟨rfl, j, by omega, rfl, rfl⟩
