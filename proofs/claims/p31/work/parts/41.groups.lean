/-! what both sides hold: the groups -/
theorem upd_eq {f : Nat → Int32} {i : Nat} {x : Int32} : upd f i x i = x := by unfold upd; rw [if_pos rfl]
theorem upd_ne {f : Nat → Int32} {i j : Nat} {x : Int32} (h : j ≠ i) : upd f i x j = f j := by unfold upd; rw [if_neg h]
theorem updL_eq {f : Nat → Int64} {i : Nat} {x : Int64} : vp_updL f i x i = x := by unfold vp_updL; rw [if_pos rfl]
theorem updL_ne {f : Nat → Int64} {i j : Nat} {x : Int64} (h : j ≠ i) : vp_updL f i x j = f j := by unfold vp_updL; rw [if_neg h]
def zB (m : Int) (x : Int32) : Prop := -m ≤ x.toInt ∧ x.toInt ≤ m
def rSet (f : Nat → Int64) (a : Nat → Int32) : Prop := ∀ i, i < 9 → f i = (a (20 + i)).toInt64 ∧ (z_least i).toInt ≤ (a (20 + i)).toInt ∧ (a (20 + i)).toInt ≤ (z_most i).toInt
def rLegj (v : vX3) (a : Nat → Int32) (j : Nat) : Prop := v.1 j = (a (34 + 3 * j)).toInt64 ∧ v.2.1 j = (a (34 + 3 * j + 1)).toInt64 ∧ v.2.2.1 j = (a (34 + 3 * j + 2)).toInt64 ∧ zcR (a (34 + 3 * j)) ∧ zsR (a (34 + 3 * j + 1)) ∧ 1 ≤ (a (34 + 3 * j + 2)).toInt ∧ (a (34 + 3 * j + 2)).toInt ≤ 600
def rLeg (v : vX3) (a : Nat → Int32) : Prop := v.2.2.2 = a 3 ∧ okN (a 3) ∧ ∀ j, j < nT (a 3) → rLegj v a j
def rShip (v : vX5) (a : Nat → Int32) : Prop := rLeg v.1 a ∧ (v.2.1 = (a 0).toInt64 ∧ zlR (a 0)) ∧ (v.2.2.1 = (fm_course a).toInt64 ∧ zcR (fm_course a)) ∧ (v.2.2.2.1 = (fm_speed a).toInt64 ∧ zsR (fm_speed a)) ∧ v.2.2.2.2.toInt32 = a 11
def rDmp (d : Int64) (a : Nat → Int32) : Prop := (d = -1 ∧ a 9 = -6) ∨ (d = (a 9).toInt64 ∧ 0 ≤ (a 9).toInt ∧ (a 9).toInt ≤ (a 10).toInt)
def rGyro (v : vX0) (a : Nat → Int32) : Prop := (∀ j, j < 5 → (v.1 j).toInt32 = a (29 + j)) ∧ (v.2.1 = (a 4).toInt64 ∧ zB 1800000 (a 4)) ∧ (v.2.2.1 = (a 5).toInt64 ∧ zB 900000 (a 5)) ∧ (v.2.2.2.1 = a 6 ∧ zB 70 (a 6)) ∧ (v.2.2.2.2.1 = a 7 ∧ zsR (a 7)) ∧ (v.2.2.2.2.2.1 = a 8 ∧ 0 ≤ (a 8).toInt ∧ (a 8).toInt ≤ 4) ∧ rDmp v.2.2.2.2.2.2 a
def tm (a : Nat → Int32) : Nat → Int
  | 0 => (a 10).toInt
  | j + 1 => (a (58 + 2 * j + 1)).toInt
def rSwj (v : vX8) (a : Nat → Int32) (s : Nat → Int64) (j : Nat) : Prop := v.1.1 j = (a (58 + 2 * j)).toInt64 ∧ zB 1800000 (a (58 + 2 * j)) ∧ v.2.1.1 j = (a (58 + 2 * j + 1)).toInt64 ∧ v.2.2.1.1 j = s (1 + j) ∧ 0 ≤ tm a (j + 1) ∧ tm a (j + 1) < tm a j ∧ -(1800000 * (tm a j - tm a (j + 1))) ≤ (s j).toInt - (s (1 + j)).toInt ∧ (s j).toInt - (s (1 + j)).toInt ≤ 1800000 * (tm a j - tm a (j + 1))
def rSw (v : vX8) (a : Nat → Int32) (s : Nat → Int64) : Prop := v.1.2 = a 13 ∧ okN (a 13) ∧ (∀ j, j < nT (a 13) → rSwj v a s j) ∧ (v.2.2.2.1 = s 0 ∧ -(1800000 * (a 10).toInt) ≤ (s 0).toInt ∧ (s 0).toInt ≤ 1800000 * (a 10).toInt) ∧ v.2.2.2.2.1 = a 12 ∧ v.2.2.2.2.2 = a 14
def rSi (v : vX6) (a : Nat → Int32) : Prop := v.2.2.1 = a 19 ∧ (0 ≤ (a 19).toInt ∧ (a 19).toInt ≤ 6) ∧ (∀ j, j < nT (a 19) → v.1 j = (a (79 + j)).toInt64 ∧ zcR (a (79 + j))) ∧ v.2.1.2 = a 15 ∧ (0 ≤ (a 15).toInt ∧ (a 15).toInt ≤ 5) ∧ (∀ j, j < nT (a 15) → v.2.1.1 j = (a (74 + j)).toInt64 ∧ zB 20000 (a (74 + j))) ∧ v.2.2.2 = a 16
def rTm (T : Int) (t : Int64) (a : Nat → Int32) : Prop := t = (a 10).toInt64 ∧ 0 ≤ (a 10).toInt ∧ (a 10).toInt ≤ T
def RS (T : Int) (S : vX7) (a : Nat → Int32) (s : Nat → Int64) : Prop := rSet S.1 a ∧ rShip S.2.1 a ∧ rGyro S.2.2.1 a ∧ rSw S.2.2.2.1 a s ∧ rSi S.2.2.2.2.1 a ∧ rTm T S.2.2.2.2.2.1 a ∧ S.2.2.2.2.2.2.1 = a 17 ∧ S.2.2.2.2.2.2.2.toInt32 = a 18
/-- where two rows are the same, so is a group -/
theorem rSet_c {f : Nat → Int64} {a b : Nat → Int32} (h : rSet f a) (e : ∀ i, 20 ≤ i → i < 29 → b i = a i) : rSet f b := by
  intro i hi
  rw [e (20 + i) (by omega) (by omega)]
  exact h i hi
theorem rSi_c {v : vX6} {a b : Nat → Int32} (h : rSi v a) (e : ∀ i, (15 ≤ i ∧ i < 20) ∨ (74 ≤ i ∧ i < 85) → b i = a i) : rSi v b := by
  obtain ⟨h1, h2, h3, h4, h5, h6, h7⟩ := h
  have e19 := e 19 (by omega)
  have e15 := e 15 (by omega)
  have e16 := e 16 (by omega)
  refine ⟨by rw [e19]; exact h1, by rw [e19]; exact h2, fun j hj => ?_, by rw [e15]; exact h4, by rw [e15]; exact h5, fun j hj => ?_, by rw [e16]; exact h7⟩
  · rw [e19] at hj
    have hj6 : j < 6 := by unfold nT at hj; omega
    rw [e (79 + j) (by omega)]
    exact h3 j hj
  · rw [e15] at hj
    have hj6 : j < 5 := by unfold nT at hj; omega
    rw [e (74 + j) (by omega)]
    exact h6 j hj
theorem fmc_c {a b : Nat → Int32} (e : ∀ i, i < 4 ∨ (34 ≤ i ∧ i < 58) → b i = a i) : fm_course b = fm_course a ∧ fm_speed b = fm_speed a := by
  unfold fm_course fm_speed
  rw [e 3 (by omega), e 1 (by omega), e 34 (by omega), e 2 (by omega), e 35 (by omega)]
  exact ⟨rfl, rfl⟩
theorem rLeg_c {v : vX3} {a b : Nat → Int32} (h : rLeg v a) (e : ∀ i, i = 3 ∨ (34 ≤ i ∧ i < 58) → b i = a i) : rLeg v b := by
  obtain ⟨h1, h2, h3⟩ := h
  have e3 := e 3 (by omega)
  refine ⟨by rw [e3]; exact h1, by rw [e3]; exact h2, fun j hj => ?_⟩
  rw [e3] at hj
  have hj8 : j < 8 := by have := h2.2; have := h2.1; unfold nT at hj; omega
  unfold rLegj
  rw [e (34 + 3 * j) (by omega), e (34 + 3 * j + 1) (by omega), e (34 + 3 * j + 2) (by omega)]
  exact h3 j hj
theorem rShip_c {v : vX5} {a b : Nat → Int32} (h : rShip v a) (e : ∀ i, i < 4 ∨ i = 11 ∨ (34 ≤ i ∧ i < 58) → b i = a i) : rShip v b := by
  obtain ⟨h1, h2, h3, h4, h5⟩ := h
  obtain ⟨c1, c2⟩ := fmc_c (a := a) (b := b) (fun i hi => e i (by omega))
  exact ⟨rLeg_c h1 (fun i hi => e i (by omega)), by rw [e 0 (by omega)]; exact h2, by rw [c1]; exact h3, by rw [c2]; exact h4, by rw [e 11 (by omega)]; exact h5⟩
theorem rGyro_c {v : vX0} {a b : Nat → Int32} (h : rGyro v a) (e : ∀ i, (4 ≤ i ∧ i < 11) ∨ (29 ≤ i ∧ i < 34) → b i = a i) : rGyro v b := by
  obtain ⟨h1, h2, h3, h4, h5, h6, h7⟩ := h
  refine ⟨fun j hj => by rw [e (29 + j) (by omega)]; exact h1 j hj, by rw [e 4 (by omega)]; exact h2, by rw [e 5 (by omega)]; exact h3, by rw [e 6 (by omega)]; exact h4, by rw [e 7 (by omega)]; exact h5, by rw [e 8 (by omega)]; exact h6, ?_⟩
  unfold rDmp; rw [e 9 (by omega), e 10 (by omega)]; exact h7
theorem rSw_c {v : vX8} {a b : Nat → Int32} {s : Nat → Int64} (h : rSw v a s) (e : ∀ i, (10 ≤ i ∧ i < 15) ∨ (58 ≤ i ∧ i < 74) → b i = a i) (e11 : True) : rSw v b s := by
  obtain ⟨h1, h2, h3, h4, h5, h6⟩ := h
  have e13 := e 13 (by omega)
  have e10 := e 10 (by omega)
  refine ⟨by rw [e13]; exact h1, by rw [e13]; exact h2, fun j hj => ?_, by rw [e10]; exact h4, by rw [e 12 (by omega)]; exact h5, by rw [e 14 (by omega)]; exact h6⟩
  rw [e13] at hj
  have hj8 : j < 8 := by have := h2.2; have := h2.1; unfold nT at hj; omega
  have et : ∀ i, i ≤ 8 → tm b i = tm a i := fun i hi => by
    cases i with
    | zero => show (b 10).toInt = (a 10).toInt; rw [e10]
    | succ q => show (b (58 + 2 * q + 1)).toInt = (a (58 + 2 * q + 1)).toInt; rw [e (58 + 2 * q + 1) (by omega)]
  unfold rSwj
  rw [e (58 + 2 * j) (by omega), e (58 + 2 * j + 1) (by omega), et j (by omega), et (j + 1) (by omega)]
  exact h3 j hj
theorem rTm_c {T : Int} {t : Int64} {a b : Nat → Int32} (h : rTm T t a) (e : b 10 = a 10) : rTm T t b := by unfold rTm; rw [e]; exact h
/-- reads -/
theorem at9 {f : Nat → Int64} {k : Nat} (h : k < 9) : zf_at 9 f (nI k) = f k := z_at_in h (by decide)
theorem set_at {f : Nat → Int64} {a : Nat → Int32} (h : rSet f a) {k : Nat} (hk : k < 9) : zf_at 9 f (nI k) = (a (20 + k)).toInt64 := by rw [at9 hk]; exact (h k hk).1
theorem rest_eq {T : Int} {S : vX7} {a : Nat → Int32} {s : Nat → Int64} (h : RS T S a s) : zf_rest S = (fm_rest a).toInt64 ∧ zB 400000 (fm_rest a) := by
  obtain ⟨h1, h2, h3, -⟩ := h
  obtain ⟨-, ⟨l1, l2⟩, ⟨c1, c2⟩, ⟨p1, p2⟩, -⟩ := h2
  obtain ⟨-, -, -, ⟨g1, g2⟩, ⟨k1, k2⟩, -⟩ := h3
  have e22 : zf_at 9 S.1 2 = (a 22).toInt64 := set_at h1 (k := 2) (by decide)
  have r22 : 0 ≤ (a 22).toInt ∧ (a 22).toInt ≤ 30000 := (h1 2 (by decide)).2
  have zd : zlR (1000000 * a 6) := z_deg g2
  have q1 := z_restEq (a := a) l2 c2 p2 r22
  have q2 := z_restEq (a := a) (la := 1000000 * a 6) (sp := a 7) zd c2 k2 r22
  have zm : (1000000 : Int32).toInt = 1000000 := by decide
  have em : (a 6).toInt64 * 1000000 = (1000000 * a 6).toInt64 := by
    rw [Int32.mul_comm, zx_mul (by rw [zm]; have := g2.1; omega) (by rw [zm]; have := g2.2; omega)]
    rfl
  unfold zf_rest fm_rest
  rw [e22, l1, c1, p1, g1, k1, em, q1.1, q2.1]
  refine ⟨(zx_sub (by omega) (by omega)).symm, ?_⟩
  unfold zB
  rw [zi_sub (by omega) (by omega)]
  omega
