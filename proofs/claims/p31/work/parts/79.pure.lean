/-! changes undone one by one: what the law holds -/
/-- of c remembered states the one d below the top is (a, s) -/
def HE (v : vX10) (c d : Nat) (a : Nat → Int32) (s : Nat → Int64) : Prop := d < c ∧ c ≤ 6 ∧ v.2.2.2.2.2.2.1 = nI c ∧ (∀ j, j < 85 → v.2.2.2.2.1 (85 * (c - 1 - d) + j) = a j) ∧ (∀ j, j < 9 → v.2.2.2.2.2.1 (9 * (c - 1 - d) + j) = s j)
/-- a change: the state ahead of it is remembered -/
def CH (v u : vX10) : Prop := u.2.2 = (fm_keep (pmN v) v).2.2
theorem he_0 {t : vTv} {v u : vX10} (hR : Rel t v) (h : CH v u) : ∃ c, HE u c 0 v.1 v.2.1 := by
  obtain ⟨e, h6, -⟩ := rel_pm hR
  refine ⟨(if pmN v = 6 then 5 else pmN v) + 1, ?_⟩
  unfold CH fm_keep at h
  unfold HE
  rw [h]
  generalize pmN v = p at h6
  dsimp only
  generalize hq : (if p = 6 then 5 else p) = q
  have hq5 : q ≤ 5 := by rw [← hq]; split <;> omega
  refine ⟨by omega, by omega, rfl, fun j hj => ?_, fun j hj => ?_⟩
  · unfold zpl
    rw [if_pos (by omega)]
    exact congrArg v.1 (by omega)
  · unfold zpl
    rw [if_pos (by omega)]
    exact congrArg v.2.1 (by omega)
theorem he_s {v u : vX10} {c d : Nat} {a : Nat → Int32} {s : Nat → Int64} (h : CH v u) (hE : HE v c d a s) (hd : d ≤ 4) : ∃ c', HE u c' (d + 1) a s := by
  obtain ⟨h1, h2, h3, h4, h5⟩ := hE
  have ep : pmN v = c := by unfold pmN; rw [h3]; exact nT_nI (by omega)
  unfold CH fm_keep at h
  rw [ep] at h
  by_cases q : c = 6
  · subst q
    rw [if_pos rfl, if_pos rfl, if_pos rfl] at h
    refine ⟨6, ?_⟩
    unfold HE
    rw [h]
    dsimp only
    refine ⟨by omega, by omega, rfl, fun j hj => ?_, fun j hj => ?_⟩
    · unfold zpl zsf
      rw [if_neg (by omega), if_pos (by omega)]
      exact Eq.trans (congrArg v.2.2.2.2.1 (by omega)) (h4 j hj)
    · unfold zpl zsf
      rw [if_neg (by omega), if_pos (by omega)]
      exact Eq.trans (congrArg v.2.2.2.2.2.1 (by omega)) (h5 j hj)
  · rw [if_neg q, if_neg q, if_neg q] at h
    refine ⟨c + 1, ?_⟩
    unfold HE
    rw [h]
    dsimp only
    refine ⟨by omega, by omega, rfl, fun j hj => ?_, fun j hj => ?_⟩
    · unfold zpl
      rw [if_neg (by omega)]
      exact Eq.trans (congrArg v.2.2.2.2.1 (by omega)) (h4 j hj)
    · unfold zpl
      rw [if_neg (by omega)]
      exact Eq.trans (congrArg v.2.2.2.2.2.1 (by omega)) (h5 j hj)
/-- behind k - 1 undoings of the five changes; c states were remembered -/
def UI (w v : vX10) (c k : Nat) : Prop := (k ≤ 5 → HE v (c + 1 - k) (5 - k) w.1 w.2.1) ∧ (k = 6 → (∀ i, i < 85 → v.1 i = w.1 i) ∧ (∀ i, i < 9 → v.2.1 i = w.2.1 i))
theorem ui_s {w v u : vX10} {c k : Nat} {r : Int32} (h : UI w v c k) (h1 : 1 ≤ k) (hk : k ≤ 5) (hr : r = (fm_undo (pmN v) v).1) (hu : u = (fm_undo (pmN v) v).2) : r = nI c - nI k ∧ UI w u c (k + 1) := by
  obtain ⟨q1, q2, q3, q4, q5⟩ := h.1 hk
  have ep : pmN v = c + 1 - k := by unfold pmN; rw [q3]; exact nT_nI (by omega)
  unfold fm_undo at hr hu
  rw [ep, if_neg (by omega)] at hr hu
  dsimp only at hr hu
  refine ⟨?_, fun h5 => ?_, fun h6 => ⟨fun i hi => ?_, fun i hi => ?_⟩⟩
  · rw [hr, pk_sub (by omega)]
    exact congrArg nI (by omega)
  · unfold HE
    rw [hu]
    refine ⟨by omega, by omega, congrArg nI (by omega), fun j hj => ?_, fun j hj => ?_⟩
    · exact Eq.trans (congrArg v.2.2.2.2.1 (by omega)) (q4 j hj)
    · exact Eq.trans (congrArg v.2.2.2.2.2.1 (by omega)) (q5 j hj)
  · rw [hu]
    exact Eq.trans (congrArg v.2.2.2.2.1 (by omega)) (q4 i hi)
  · rw [hu]
    exact Eq.trans (congrArg v.2.2.2.2.2.1 (by omega)) (q5 i hi)
section
variable {t : vTv} {w v u : vX10} {x y : Int32} {n : Nat}
theorem bk_pass (hR : Rel t v) (hI : IV n v) (hn : n < 80000) (hu : u = (fm_pass (pmN v) v (1 + fl_up x (100 : Int32))).2) : CH v u := by
  obtain ⟨k, hk, ek⟩ := up_ex x (n := 100) (by decide) (by decide)
  have ek : fl_up x (100 : Int32) = nI k := ek
  have e1 : 1 + fl_up x (100 : Int32) = nI (1 + k) := by rw [ek]; exact nI_add 1 k
  rw [e1] at hu
  exact (pass_n hI hR.1.2.2.2.2.2.1.2.1 (by omega) (by omega) hu).2.2
theorem bk_set (hu : u = (fm_set (pmN v) v 0 (1 + fl_up x (100 : Int32))).2) : CH v u := by
  obtain ⟨k, hk, ek⟩ := up_ex x (n := 100) (by decide) (by decide)
  have ek : fl_up x (100 : Int32) = nI k := ek
  have e1 : 1 + fl_up x (100 : Int32) = nI (1 + k) := by rw [ek]; exact nI_add 1 k
  have hm : ¬ fm_takes 0 (1 + fl_up x (100 : Int32)) = 0 := by
    unfold fm_takes
    rw [if_pos rfl, e1]
    exact in_n (l := 1) (m := 100) (by omega) (by omega) (by decide)
  unfold fm_set at hu
  rw [if_neg hm] at hu
  rw [hu]
  rfl
theorem bk_corr (hu : u = (fm_correct (pmN v) v (fl_up x (70 : Int32)) (fl_up y (401 : Int32))).2) : CH v u := by
  have h := up_n x (n := 70) (by decide) (by decide)
  have h1 : 0 ≤ (fl_up x (70 : Int32)).toInt := h.1
  have h2 : (fl_up x (70 : Int32)).toInt < 70 := h.2
  unfold fm_correct at hu
  rw [if_neg (in_d (by omega)), if_neg (in_s (up_s y))] at hu
  rw [hu]
  rfl
theorem bk_forget (hu : u = (fm_forget (pmN v) v).2) : CH v u := by
  rw [hu]
  rfl
theorem bk_steer (hu : u = (fm_steer (pmN v) v (fl_up x (36000 : Int32)) 400).2) : CH v u := by
  unfold fm_steer at hu
  rw [if_neg (in_c2 (up_c x)), if_neg (by decide)] at hu
  rw [hu]
  rfl
theorem bk_5 {c : Nat} {a : Nat → Int32} {s : Nat → Int64} (h : HE v c 4 a s) : (5 : Int32) ≤ v.2.2.2.2.2.2.1 := by
  obtain ⟨q1, q2, q3, -⟩ := h
  rw [q3]
  exact nI_le (a := 5) (by omega) (by omega)
theorem bk_c (h : ∀ i, i < 85 → v.1 i = w.1 i) : fm_rest v.1 = fm_rest w.1 := sc_rest (fun i hi => h i (by omega))
theorem bk_4 (h : ∀ i, i < 85 → v.1 i = w.1 i) : (if 3 ≤ v.1 13 then fm_settled v.1 else -1000000006) = (if 3 ≤ w.1 13 then fm_settled w.1 else -1000000006) := by
  have e : fm_settled v.1 = fm_settled w.1 := by
    unfold fm_settled
    rw [h (58 + 2 * 2) (by decide), h (58 + 2 * 1) (by decide), h (58 + 2 * 0) (by decide)]
  rw [h 13 (by decide), e]
theorem bk_m (h : ∀ i, i < 85 → v.1 i = w.1 i) (h2 : ∀ i, i < 9 → v.2.1 i = w.2.1 i) : (if 3 ≤ v.1 13 then fm_mean v.1 v.2.1 else -1000000006) = (if 3 ≤ w.1 13 then fm_mean w.1 w.2.1 else -1000000006) := by
  have e : fm_mean v.1 v.2.1 = fm_mean w.1 w.2.1 := by
    unfold fm_mean
    rw [h 59 (by decide), h 63 (by decide), h2 1 (by decide), h2 3 (by decide)]
  rw [h 13 (by decide), e]
end
