/-! reading legs: both sides -/
/-- both stand at the same place of the same text -/
def pR (q0 : Nat) (v : vX4) (w : vX10) : Prop := v.2.2.1 = nI q0 ∧ fq w = nI q0 ∧ q0 ≤ 80 ∧ (∀ j, j < q0 → v.1 j = fp w j) ∧ v.2.2.2.1 = fs w ∧ 0 ≤ (fs w).toInt ∧ (fs w).toInt ≤ q0
theorem pR_B {q0 : Nat} {v : vX4} {w : vX10} (h : pR q0 v w) : hB q0 w := ⟨h.2.1, h.2.2.2.2.2.1, h.2.2.2.2.2.2⟩
theorem sg_nx {q0 : Nat} {v : vX4} {w : vX10} (h : pR q0 v w) : fc_sg v.1 v.2.2.1 v.2.2.2.1 = fm_nx (fp w) (fq w) (fs w) := by
  obtain ⟨h1, h2, h3, h4, h5, h6, h7⟩ := h
  rw [h1, h5, h2]
  obtain ⟨k, hk, ek⟩ := z_nIof (x := fs w) (n := 81) h6 (by omega)
  rw [ek] at h7 ⊢
  rw [nI_toInt (by omega)] at h7
  unfold fc_sg fm_nx
  rw [if_neg (nI_pos (by omega))]
  by_cases c : q0 ≤ k
  · rw [if_pos (nI_le c (by omega)), if_pos (nI_le c (by omega))]
  · have c' : ¬ (nI q0 : Int32) ≤ nI k := fun p => c ((nI_leI (by omega) (by omega)).mp p)
    have c8 : ¬ (nI 80 : Int32) ≤ nI k := fun p => by have := (nI_leI (a := 80) (b := k) (by omega) (by omega)).mp p; omega
    rw [if_neg c', if_neg c8, if_neg c', nI_clamp (by omega)]
    exact h4 k (by omega)
theorem nx_in {q0 : Nat} {v : vX4} {w : vX10} (h : pR q0 v w) {c : Int32} (hc : c ≠ 0) (e : fm_nx (fp w) (fq w) (fs w) = c) : (fs w).toInt < q0 := z_nxk h.2.1 h.2.2.1 h.2.2.2.2.2.1 hc e
theorem pR_next {q0 : Nat} {v v' : vX4} {w w' : vX10} (h : pR q0 v w) (hl : (fs w).toInt < q0) (e1 : v'.1 = v.1) (e2 : v'.2.2.1 = v.2.2.1) (e3 : v'.2.2.2.1 = v.2.2.2.1 + 1) (f1 : fp w' = fp w) (f2 : fq w' = fq w) (f3 : fs w' = fs w + 1) : pR q0 v' w' := by
  obtain ⟨h1, h2, h3, h4, h5, h6, h7⟩ := h
  have z1 : (1 : Int32).toInt = 1 := by decide
  have e : (fs w + 1).toInt = (fs w).toInt + 1 := by rw [zi_add (by omega) (by omega), z1]
  exact ⟨by rw [e2]; exact h1, by rw [f2]; exact h2, h3, by rw [e1, f1]; exact h4, by rw [e3, f3, h5], by rw [f3, e]; omega, by rw [f3, e]; omega⟩
theorem pR_same {q0 : Nat} {v v' : vX4} {w w' : vX10} (h : pR q0 v w) (e1 : v'.1 = v.1) (e2 : v'.2.2.1 = v.2.2.1) (e3 : v'.2.2.2.1 = v.2.2.2.1) (f1 : fp w' = fp w) (f2 : fq w' = fq w) (f3 : fs w' = fs w) : pR q0 v' w' := by
  obtain ⟨h1, h2, h3, h4, h5, h6, h7⟩ := h
  exact ⟨by rw [e2]; exact h1, by rw [f2]; exact h2, h3, by rw [e1, f1]; exact h4, by rw [e3, f3]; exact h5, by rw [f3]; exact h6, by rw [f3]; exact h7⟩
/-- a sign that is needed -/
theorem rs_eq {q0 : Nat} {v : vX4} {w : vX10} (h : pR q0 v w) (hw : fw w = 0) {c : Int32} (hc : c ≠ 0) :
    pR q0 (fc_rs v c).2 (fm_need w c) ∧ ((fc_rs v c).1 = 0 ∧ fw (fm_need w c) = 1 ∨ (fc_rs v c).1 = 1 ∧ fw (fm_need w c) = 0) ∧ (fc_rs v c).2.2.1 = v.2.1 := by
  have e := sg_nx h
  have ew : fw (fm_need w c) = if fm_nx (fp w) (fq w) (fs w) = c then 0 else 1 := by
    show fm_nw (fp w) (fq w) (fs w) (fw w) c = _
    unfold fm_nw; rw [if_pos hw]
  have es : fs (fm_need w c) = if fm_nx (fp w) (fq w) (fs w) = c then fs w + 1 else fs w + 0 := by
    show fm_ns (fp w) (fq w) (fs w) (fw w) c = _
    unfold fm_ns fm_nw; rw [if_pos hw]
    by_cases d : fm_nx (fp w) (fq w) (fs w) = c
    · rw [if_pos d, if_pos d, if_pos rfl]
    · rw [if_neg d, if_neg d, if_neg (by decide)]
  unfold fc_rs
  rw [e]
  by_cases d : fm_nx (fp w) (fq w) (fs w) = c
  · rw [if_pos d] at ew es
    rw [if_pos d]
    exact ⟨pR_next h (nx_in h hc d) rfl rfl rfl rfl rfl es, Or.inr ⟨rfl, ew⟩, rfl⟩
  · rw [if_neg d] at ew es
    rw [if_neg d]
    exact ⟨pR_same h rfl rfl rfl rfl rfl (es.trans (Int32.add_zero _)), Or.inl ⟨rfl, ew⟩, rfl⟩
/-- behind a fault nothing moves -/
theorem need_no {w : vX10} {c : Int32} (hw : fw w = 1) : fw (fm_need w c) = 1 ∧ fs (fm_need w c) = fs w := by
  have e1 : ¬ (1 : Int32) = 0 := by decide
  constructor
  · show fm_nw (fp w) (fq w) (fs w) (fw w) c = 1
    unfold fm_nw; rw [hw, if_neg e1]
  · show fm_ns (fp w) (fq w) (fs w) (fw w) c = fs w
    unfold fm_ns fm_nw; rw [hw, if_neg e1, if_neg e1, Int32.add_zero]
theorem tnum_no {w : vX10} {lo hi : Int32} (hw : fw w = 1) : fw (fm_tnum w lo hi).2 = 1 ∧ fs (fm_tnum w lo hi).2 = fs w := by
  have e1 : ¬ (1 : Int32) = 0 := by decide
  have e : fm_tw (fp w) (fq w) (fs w) (fw w) lo = 1 := by unfold fm_tw; rw [hw, if_neg e1]
  unfold fm_tnum
  rw [e, if_neg e1]
  exact ⟨rfl, rfl⟩
/-- digits -/
theorem td_eq {sg : Int32} {n hi : Int32} (hn : 0 ≤ n.toInt ∧ n.toInt ≤ 600) : (fc_td sg n.toInt64 hi = 0) ↔ (fm_in sg 48 57 = 0 ∨ hi < 10 * n + sg - 48) := by
  have z48 : (48 : Int32).toInt = 48 := by decide
  have z57 : (57 : Int32).toInt = 57 := by decide
  have z10 : (10 : Int32).toInt = 10 := by decide
  unfold fc_td fm_in
  by_cases c1 : sg < 48
  · rw [if_pos c1, if_pos c1]; exact ⟨fun _ => Or.inl rfl, fun _ => rfl⟩
  · rw [if_neg c1, if_neg c1]
    by_cases c2 : 57 < sg
    · rw [if_pos c2, if_pos c2]; exact ⟨fun _ => Or.inl rfl, fun _ => rfl⟩
    · rw [if_neg c2, if_neg c2]
      have g1 : ¬ sg.toInt < (48 : Int32).toInt := fun q => c1 (Int32.lt_iff_toInt_lt.mpr q)
      have g2 : ¬ (57 : Int32).toInt < sg.toInt := fun q => c2 (Int32.lt_iff_toInt_lt.mpr q)
      have m1 : (10 * n).toInt = 10 * n.toInt := by rw [zi_mul (by rw [z10]; omega) (by rw [z10]; omega), z10]
      have a1 : (10 * n + sg).toInt = 10 * n.toInt + sg.toInt := by rw [zi_add (by rw [m1]; omega) (by rw [m1]; omega), m1]
      have e : n.toInt64 * 10 + (sg - 48).toInt64 = (10 * n + sg - 48).toInt64 := by
        rw [zx_sub (x := sg) (y := 48) (by omega) (by omega), zx_sub (x := 10 * n + sg) (y := 48) (by rw [a1]; omega) (by rw [a1]; omega), zx_add (by rw [m1]; omega) (by rw [m1]; omega), zx_mul (by rw [z10]; omega) (by rw [z10]; omega)]
        show n.toInt64 * 10 + (sg.toInt64 - 48) = 10 * n.toInt64 + sg.toInt64 - 48
        rw [Int64.mul_comm, Int64.sub_eq_add_neg, Int64.sub_eq_add_neg, Int64.add_assoc]
      rw [e]
      by_cases d : hi < 10 * n + sg - 48
      · rw [if_pos (zx_lt.mpr d)]; exact ⟨fun _ => Or.inr d, fun _ => rfl⟩
      · rw [if_neg (fun q => d (zx_lt.mp q))]; exact ⟨fun q => absurd q (by decide), fun q => by rcases q with q | q; exact absurd q (by decide); exact absurd q d⟩
theorem dig_step {sg n hi : Int32} (hn : 0 ≤ n.toInt ∧ n.toInt ≤ 600) (h : ¬ (fm_in sg 48 57 = 0 ∨ hi < 10 * n + sg - 48)) : n.toInt64 * 10 + (sg - 48).toInt64 = (10 * n + sg - 48).toInt64 ∧ 10 * n.toInt ≤ (10 * n + sg - 48).toInt ∧ (10 * n + sg - 48).toInt ≤ 10 * n.toInt + 9 ∧ (10 * n + sg - 48).toInt ≤ hi.toInt := by
  have z48 : (48 : Int32).toInt = 48 := by decide
  have z57 : (57 : Int32).toInt = 57 := by decide
  have z10 : (10 : Int32).toInt = 10 := by decide
  have g := fm_in1 (fun q => h (Or.inl q))
  have m1 : (10 * n).toInt = 10 * n.toInt := by rw [zi_mul (by rw [z10]; omega) (by rw [z10]; omega), z10]
  have a1 : (10 * n + sg).toInt = 10 * n.toInt + sg.toInt := by rw [zi_add (by rw [m1]; omega) (by rw [m1]; omega), m1]
  have s1 : (10 * n + sg - 48).toInt = 10 * n.toInt + sg.toInt - 48 := by rw [zi_sub (by rw [a1]; omega) (by rw [a1]; omega), a1, z48]
  have d : ¬ hi.toInt < (10 * n + sg - 48).toInt := fun q => h (Or.inr (Int32.lt_iff_toInt_lt.mpr q))
  have e : n.toInt64 * 10 + (sg - 48).toInt64 = (10 * n + sg - 48).toInt64 := by
    rw [zx_sub (x := sg) (y := 48) (by omega) (by omega), zx_sub (x := 10 * n + sg) (y := 48) (by rw [a1]; omega) (by rw [a1]; omega), zx_add (by rw [m1]; omega) (by rw [m1]; omega), zx_mul (by rw [z10]; omega) (by rw [z10]; omega)]
    show n.toInt64 * 10 + (sg.toInt64 - 48) = 10 * n.toInt64 + sg.toInt64 - 48
    rw [Int64.mul_comm, Int64.sub_eq_add_neg, Int64.sub_eq_add_neg, Int64.add_assoc]
  exact ⟨e, by omega, by omega, by omega⟩
/-- what a text shows at a place -/
def sgT (f : Nat → Int32) (ln : Int32) (g : Nat → Int32) (q : Int32) (q0 : Nat) : Prop := ∀ k, k ≤ q0 → fc_sg f ln (nI k) = fm_nx g q (nI k)
theorem nx_end {g : Nat → Int32} {q0 k : Nat} (h8 : q0 ≤ 80) (hk : q0 ≤ k) (hk2 : k < 200) : fm_nx g (nI q0) (nI k) = 0 := by unfold fm_nx; rw [if_pos (nI_le hk (by omega))]
theorem dl_dig {f g : Nat → Int32} {hi : Int32} {q0 : Nat} (h8 : q0 ≤ 80) (hi6 : hi.toInt ≤ 600) (ht : sgT f (nI q0) g (nI q0) q0) : ∀ (F d1 d2 k : Nat) (n : Int32), F ≤ d1 → F ≤ d2 → 1 ≤ n.toInt → n.toInt ≤ hi.toInt → (601 : Int) ≤ 10 ^ F * n.toInt → k ≤ q0 →
    ∃ k' : Nat, k ≤ k' ∧ k' ≤ q0 ∧ ∃ n' : Int32, 1 ≤ n'.toInt ∧ n'.toInt ≤ hi.toInt ∧ fc_dl f (nI q0) hi d1 (nI k) n.toInt64 = (nI k', n'.toInt64) ∧ fm_dig g (nI q0) hi d2 n (nI k) = (n', nI k')
  | 0, d1, d2, k, n, _, _, h1, h2, h3, _ => by
    exfalso
    rw [show (10 : Int) ^ 0 = 1 from rfl] at h3
    omega
  | F + 1, d1, d2, k, n, hF1, hF2, h1, h2, h3, hk => by
    obtain ⟨e1, rfl⟩ : ∃ e, d1 = e + 1 := ⟨d1 - 1, by omega⟩
    obtain ⟨e2, rfl⟩ : ∃ e, d2 = e + 1 := ⟨d2 - 1, by omega⟩
    have hsg := ht k hk
    have z0 : (0 : Int32).toInt = 0 := by decide
    have htd := td_eq (sg := fm_nx g (nI q0) (nI k)) (n := n) (hi := hi) ⟨by omega, by omega⟩
    have hpos : ¬ n ≤ 0 := fun q => by have := Int32.le_iff_toInt_le.mp q; omega
    show ∃ k' : Nat, k ≤ k' ∧ k' ≤ q0 ∧ ∃ n' : Int32, 1 ≤ n'.toInt ∧ n'.toInt ≤ hi.toInt ∧ (if fc_td (fc_sg f (nI q0) (nI k)) n.toInt64 hi = 0 then (nI k, n.toInt64) else fc_dl f (nI q0) hi e1 (nI k + 1) (n.toInt64 * 10 + (fc_sg f (nI q0) (nI k) - 48).toInt64)) = (nI k', n'.toInt64) ∧
      (if n ≤ 0 then (n, nI k) else if fm_in (fm_nx g (nI q0) (nI k)) 48 57 = 0 then (n, nI k) else if hi < 10 * n + fm_nx g (nI q0) (nI k) - 48 then (n, nI k) else fm_dig g (nI q0) hi e2 (10 * n + fm_nx g (nI q0) (nI k) - 48) (nI k + 1)) = (n', nI k')
    rw [hsg, if_neg hpos]
    by_cases c : fc_td (fm_nx g (nI q0) (nI k)) n.toInt64 hi = 0
    · refine ⟨k, Nat.le_refl _, hk, n, h1, h2, by rw [if_pos c], ?_⟩
      rcases htd.mp c with q | q
      · rw [if_pos q]
      · by_cases q2 : fm_in (fm_nx g (nI q0) (nI k)) 48 57 = 0
        · rw [if_pos q2]
        · rw [if_neg q2, if_pos q]
    · have hno := fun q => c (htd.mpr q)
      obtain ⟨s1, s2, s3, s4⟩ := dig_step (sg := fm_nx g (nI q0) (nI k)) (n := n) (hi := hi) ⟨by omega, by omega⟩ hno
      have hlt : k < q0 := by
        apply Classical.byContradiction; intro hh
        have e0 := nx_end (g := g) h8 (show q0 ≤ k by omega) (by omega)
        exact hno (Or.inl (by rw [e0]; decide))
      have hp : (10 : Int) ^ (F + 1) * n.toInt = 10 ^ F * (10 * n.toInt) := by rw [Int.pow_succ, Int.mul_assoc]
      have hpp : (0 : Int) ≤ 10 ^ F := Int.pow_nonneg (by decide)
      have hm : (10 : Int) ^ F * (10 * n.toInt) ≤ 10 ^ F * (10 * n + fm_nx g (nI q0) (nI k) - 48).toInt := Int.mul_le_mul_of_nonneg_left s2 hpp
      obtain ⟨k', a1, a2, n', a3, a4, a5, a6⟩ := dl_dig h8 hi6 ht F e1 e2 (k + 1) (10 * n + fm_nx g (nI q0) (nI k) - 48) (by omega) (by omega) (by omega) s4 (by rw [hp] at h3; omega) (by omega)
      refine ⟨k', by omega, a2, n', a3, a4, ?_, ?_⟩
      · rw [if_neg c, s1, nI_1]; exact a5
      · rw [if_neg (fun q => hno (Or.inl q)), if_neg (fun q => hno (Or.inr q)), nI_1]; exact a6
/-- a number -/
theorem rn_eq {q0 : Nat} {v : vX4} {w : vX10} (h : pR q0 v w) (hw : fw w = 0) {lo hi : Int32} (hlo : lo = 0 ∨ lo = 1) (hhi : 9 ≤ hi.toInt ∧ hi.toInt ≤ 600) :
    pR q0 (fc_rn v lo hi).2 (fm_tnum w lo hi).2 ∧ ((fc_rn v lo hi).1 = 0 ∧ fw (fm_tnum w lo hi).2 = 1 ∨ (fc_rn v lo hi).1 = 1 ∧ fw (fm_tnum w lo hi).2 = 0 ∧ (fc_rn v lo hi).2.2.2.2.2 = (fm_tnum w lo hi).1.toInt64 ∧ lo.toInt ≤ (fm_tnum w lo hi).1.toInt ∧ (fm_tnum w lo hi).1.toInt ≤ hi.toInt) ∧ (fc_rn v lo hi).2.2.1 = v.2.1 := by
  have e := sg_nx h
  have h' := h
  obtain ⟨h1, h2, h3, h4, h5, h6, h7⟩ := h
  obtain ⟨k, hk, ek⟩ := z_nIof (x := fs w) (n := 81) h6 (by omega)
  have z48 : (48 : Int32).toInt = 48 := by decide
  have z57 : (57 : Int32).toInt = 57 := by decide
  have z0 : (0 : Int32).toInt = 0 := by decide
  have z1 : (1 : Int32).toInt = 1 := by decide
  have hk0 : k ≤ q0 := by rw [ek, nI_toInt (by omega)] at h7; omega
  have ht : sgT v.1 (nI q0) (fp w) (nI q0) q0 := fun j hj => by
    have hj' : pR q0 (v.1, v.2.1, nI q0, nI j, v.2.2.2.2) (fm_sp w (nI j) (fw w) (frd w) (frm w)) := ⟨rfl, h2, h3, h4, rfl, by show 0 ≤ (nI j).toInt; rw [nI_toInt (by omega)]; omega, by show (nI j).toInt ≤ q0; rw [nI_toInt (by omega)]; omega⟩
    have g := sg_nx hj'
    have g2 : fc_sg v.1 (nI q0) (nI j) = fm_nx (fp w) (fq w) (nI j) := g
    rw [h2] at g2; exact g2
  unfold fc_rn fm_tnum
  by_cases c48 : fm_nx (fp w) (fq w) (fs w) = 48
  · rw [e, if_pos c48]
    have hl : (fs w).toInt < q0 := nx_in h' (by decide) c48
    rcases hlo with rfl | rfl
    · have etw : fm_tw (fp w) (fq w) (fs w) (fw w) 0 = 0 := by unfold fm_tw; rw [if_pos hw, c48, if_neg (by decide)]
      have ers : fc_rs (fc_n0 v) 48 = (1, (v.1, v.2.1, v.2.2.1, v.2.2.2.1 + 1, 0)) := by
        unfold fc_rs
        rw [if_pos (show fc_sg (fc_n0 v).1 (fc_n0 v).2.2.1 (fc_n0 v).2.2.2.1 = 48 from e.trans c48)]; rfl
      have edg : fm_dig (fp w) (fq w) hi 81 (fm_nx (fp w) (fq w) (fs w) - 48) (fs w + 1) = (0, fs w + 1) := by
        rw [c48]
        exact fm_dig_e (Or.inl (by decide))
      rw [if_pos rfl, etw, if_pos rfl, ers, edg]
      dsimp only
      rw [if_neg (by decide)]
      exact ⟨pR_next h' hl rfl rfl rfl rfl rfl rfl, Or.inr ⟨rfl, rfl, rfl, by decide, by rw [z0]; omega⟩, rfl⟩
    · have etw : fm_tw (fp w) (fq w) (fs w) (fw w) 1 = 1 := by unfold fm_tw; rw [if_pos hw, c48, if_pos (by decide)]
      rw [if_neg (by decide), etw, if_neg (by decide)]
      exact ⟨pR_same h' rfl rfl rfl rfl rfl rfl, Or.inl ⟨rfl, rfl⟩, rfl⟩
  · rw [e, if_neg c48]
    by_cases cd : fm_in (fm_nx (fp w) (fq w) (fs w)) 48 57 = 0
    · have cd2 : fm_in (fm_nx (fp w) (fq w) (fs w)) (48 + lo) 57 = 0 := by
        rcases hlo with rfl | rfl
        · exact cd
        · apply Classical.byContradiction; intro hh
          have g := fm_in1 hh
          have g49 : ((48 : Int32) + 1).toInt = 49 := by decide
          apply hh
          exfalso
          have : ¬ fm_in (fm_nx (fp w) (fq w) (fs w)) 48 57 = 0 := by
            unfold fm_in
            rw [if_neg (fun q => by have := Int32.lt_iff_toInt_lt.mp q; omega), if_neg (fun q => by have := Int32.lt_iff_toInt_lt.mp q; omega)]
            decide
          exact this cd
      have etw : fm_tw (fp w) (fq w) (fs w) (fw w) lo = 1 := by unfold fm_tw; rw [if_pos hw, if_pos cd2]
      have edl : fc_dl v.1 v.2.2.1 hi 80 v.2.2.2.1 0 = (v.2.2.2.1, 0) := by
        apply fc_dl_e
        refine Or.inr ?_
        have g := (td_eq (sg := fm_nx (fp w) (fq w) (fs w)) (n := 0) (hi := hi) ⟨by decide, by decide⟩).mpr (Or.inl cd)
        rw [e]; exact g
      rw [etw, if_neg (show ¬ (1 : Int32) = 0 by decide), edl]
      dsimp only
      rw [if_pos (Int32.le_refl _)]
      exact ⟨pR_same h' rfl rfl rfl rfl rfl rfl, Or.inl ⟨rfl, rfl⟩, rfl⟩
    · have gd := fm_in1 cd
      have hne : (fm_nx (fp w) (fq w) (fs w)).toInt ≠ 48 := fun q => c48 (Int32.toInt_inj.mp (q.trans z48.symm))
      have cd2 : ¬ fm_in (fm_nx (fp w) (fq w) (fs w)) (48 + lo) 57 = 0 := by
        rcases hlo with rfl | rfl
        · exact cd
        · have g49 : ((48 : Int32) + 1).toInt = 49 := by decide
          unfold fm_in
          rw [if_neg (fun q => by have := Int32.lt_iff_toInt_lt.mp q; omega), if_neg (fun q => by have := Int32.lt_iff_toInt_lt.mp q; omega)]
          decide
      have etw : fm_tw (fp w) (fq w) (fs w) (fw w) lo = 0 := by unfold fm_tw; rw [if_pos hw, if_neg cd2]
      have hl : (fs w).toInt < q0 := nx_in h' (c := fm_nx (fp w) (fq w) (fs w)) (fun q => by rw [q] at gd; omega) rfl
      have hlk : k < q0 := by rw [ek, nI_toInt (by omega)] at hl; omega
      have en : (fm_nx (fp w) (fq w) (fs w) - 48).toInt = (fm_nx (fp w) (fq w) (fs w)).toInt - 48 := by rw [zi_sub (by omega) (by omega), z48]
      have e10 : (10 : Int32) * 0 + fm_nx (fp w) (fq w) (fs w) - 48 = fm_nx (fp w) (fq w) (fs w) - 48 := by
        rw [show (10 : Int32) * 0 = 0 from rfl, Int32.zero_add]
      have hno : ¬ (fm_in (fm_nx (fp w) (fq w) (fs w)) 48 57 = 0 ∨ hi < 10 * 0 + fm_nx (fp w) (fq w) (fs w) - 48) := fun q => by
        rcases q with q | q
        · exact cd q
        · rw [e10] at q; have := Int32.lt_iff_toInt_lt.mp q; omega
      obtain ⟨s1, -⟩ := dig_step (n := 0) (hi := hi) ⟨by decide, by decide⟩ hno
      rw [e10] at s1
      have c1 : ¬ fc_td (fc_sg v.1 v.2.2.1 v.2.2.2.1) 0 hi = 0 := fun q => by
        rw [e] at q
        exact hno ((td_eq (sg := fm_nx (fp w) (fq w) (fs w)) (n := 0) (hi := hi) ⟨by decide, by decide⟩).mp q)
      have e1 : fc_dl v.1 v.2.2.1 hi 80 v.2.2.2.1 0 = fc_dl v.1 (nI q0) hi 79 (nI (k + 1)) (fm_nx (fp w) (fq w) (fs w) - 48).toInt64 := by
        rw [fc_dl_s (by omega) c1, e, h1, h5]
        rw [show (0 : Int64) * 10 + (fm_nx (fp w) (fq w) (fs w) - 48).toInt64 = (fm_nx (fp w) (fq w) (fs w) - 48).toInt64 from s1]
        rw [show fs w + 1 = nI (k + 1) by rw [ek]; exact nI_1 k]
      obtain ⟨k', a1, a2, n', a3, a4, a5, a6⟩ := dl_dig h3 hhi.2 ht 3 79 81 (k + 1) (fm_nx (fp w) (fq w) (fs w) - 48) (by omega) (by omega) (by omega) (by omega) (by rw [show (10 : Int) ^ 3 = 1000 from rfl]; omega) (by omega)
      have e2 : fm_dig (fp w) (fq w) hi 81 (fm_nx (fp w) (fq w) (fs w) - 48) (fs w + 1) = (n', nI k') := by
        rw [show fs w + 1 = nI (k + 1) by rw [ek]; exact nI_1 k, h2]
        rw [h2] at a6
        exact a6
      rw [etw, if_pos rfl, e1, a5, e2]
      dsimp only
      have hnle : ¬ (nI k' : Int32) ≤ v.2.2.2.1 := by
        rw [h5, ek]; exact fun p => by have := (nI_leI (a := k') (b := k) (by omega) (by omega)).mp p; omega
      rw [if_neg hnle]
      refine ⟨⟨h1, h2, h3, h4, rfl, by show 0 ≤ (nI k').toInt; rw [nI_toInt (by omega)]; omega, by show (nI k').toInt ≤ q0; rw [nI_toInt (by omega)]; omega⟩, Or.inr ⟨rfl, rfl, rfl, ?_, a4⟩, rfl⟩
      show lo.toInt ≤ n'.toInt
      rcases hlo with rfl | rfl
      · omega
      · omega
