/-! a leg, all legs: both sides -/
/-- the legs that were read -/
def LR (r : Nat) (g : vX3) (f : Nat → Int32) : Prop := g.2.2.2 = nI r ∧ ∀ j, j < r → g.1 j = (f (3 * j)).toInt64 ∧ g.2.1 j = (f (3 * j + 1)).toInt64 ∧ g.2.2.1 j = (f (3 * j + 2)).toInt64 ∧ zcR (f (3 * j)) ∧ zsR (f (3 * j + 1)) ∧ 1 ≤ (f (3 * j + 2)).toInt ∧ (f (3 * j + 2)).toInt ≤ 600
theorem rm1_fp (w : vX10) : fp (fm_rm1 w) = fp w := rfl
theorem rd_fp (w : vX10) (k : Nat) (x : Int32) : fp (fm_rd w k x) = fp w := rfl
theorem rm1_fq (w : vX10) : fq (fm_rm1 w) = fq w := rfl
theorem rd_fq (w : vX10) (k : Nat) (x : Int32) : fq (fm_rd w k x) = fq w := rfl
theorem al_2 (v : vX4) (x y : Int64) : (fc_al v x y).2.1 = zf_gadd 13 v.2.1 x y v.2.2.2.2 := rfl
theorem al_3 (v : vX4) (x y : Int64) : (fc_al v x y).2.2.1 = v.2.2.1 := rfl
theorem al_4 (v : vX4) (x y : Int64) : (fc_al v x y).2.2.2.1 = v.2.2.2.1 := rfl
theorem w01 {x : Int32} (h : x = 1) : ¬ x = 0 := by rw [h]; decide
theorem rd_no {w : vX10} {k : Nat} {x : Int32} (hw : fw w = 1) : fw (fm_rd w k x) = 1 ∧ fs (fm_rd w k x) = fs w := ⟨hw, rfl⟩
/-- what comes behind a fault in a leg leaves place and fault -/
theorem l5_no {r0 : Nat} {w : vX10} (hw : fw w = 1) : fw (fm_tnum w 1 600).2 = 1 ∧ fs (fm_tnum w 1 600).2 = fs w := tnum_no hw
theorem tleg_5 {r0 : Nat} {v : vX10} (hw : fw (fm_tl5 r0 v).2 = 1) : fw (fm_tleg r0 v) = 1 ∧ fs (fm_tleg r0 v) = fs (fm_tl5 r0 v).2 := by
  unfold fm_tleg; rw [rm1_w, rd_w, rm1_s, rd_s]; exact ⟨hw, rfl⟩
theorem tleg_4 {r0 : Nat} {v : vX10} (hw : fw (fm_tl4 r0 v) = 1) : fw (fm_tleg r0 v) = 1 ∧ fs (fm_tleg r0 v) = fs (fm_tl4 r0 v) := by
  have h1 := tnum_no (lo := 1) (hi := 600) hw
  have h2 := tleg_5 (r0 := r0) (v := v) (by unfold fm_tl5; exact h1.1)
  refine ⟨h2.1, h2.2.trans ?_⟩
  unfold fm_tl5; exact h1.2
theorem tleg_3 {r0 : Nat} {v : vX10} (hw : fw (fm_tl3 r0 v).2 = 1) : fw (fm_tleg r0 v) = 1 ∧ fs (fm_tleg r0 v) = fs (fm_tl3 r0 v).2 := by
  have h1 := need_no (c := 109) (rd_no (k := 3 * r0 + 1) (x := (fm_tl3 r0 v).1) hw).1
  have h2 := tleg_4 (r0 := r0) (v := v) (by unfold fm_tl4; exact h1.1)
  refine ⟨h2.1, h2.2.trans ?_⟩
  unfold fm_tl4; exact h1.2.trans (rd_s _ _ _)
theorem tleg_2 {r0 : Nat} {v : vX10} (hw : fw (fm_tl2 r0 v) = 1) : fw (fm_tleg r0 v) = 1 ∧ fs (fm_tleg r0 v) = fs (fm_tl2 r0 v) := by
  have h1 := tnum_no (lo := 0) (hi := 400) hw
  have h2 := tleg_3 (r0 := r0) (v := v) (by unfold fm_tl3; exact h1.1)
  refine ⟨h2.1, h2.2.trans ?_⟩
  unfold fm_tl3; exact h1.2
theorem tleg_1 {r0 : Nat} {v : vX10} (hw : fw (fm_tl1 v).2 = 1) : fw (fm_tleg r0 v) = 1 ∧ fs (fm_tleg r0 v) = fs (fm_tl1 v).2 := by
  have h1 := need_no (c := 118) (rd_no (k := 3 * r0) (x := 100 * (fm_tl1 v).1) hw).1
  have h2 := tleg_2 (r0 := r0) (v := v) (by unfold fm_tl2; exact h1.1)
  refine ⟨h2.1, h2.2.trans ?_⟩
  unfold fm_tl2; exact h1.2.trans (rd_s _ _ _)
theorem tleg_0 {r0 : Nat} {v : vX10} (hw : fw (fm_need v 99) = 1) : fw (fm_tleg r0 v) = 1 ∧ fs (fm_tleg r0 v) = fs (fm_need v 99) := by
  have h1 := tnum_no (lo := 0) (hi := 359) hw
  have h2 := tleg_1 (r0 := r0) (v := v) (by unfold fm_tl1; exact h1.1)
  refine ⟨h2.1, h2.2.trans ?_⟩
  unfold fm_tl1; exact h1.2
theorem pR_rd {q0 : Nat} {v : vX4} {w : vX10} {k : Nat} {x : Int32} (h : pR q0 v w) : pR q0 v (fm_rd w k x) := h
theorem need_rd (w : vX10) (c : Int32) : frd (fm_need w c) = frd w := rfl
theorem tnum_rd (w : vX10) (lo hi : Int32) : frd (fm_tnum w lo hi).2 = frd w := by
  unfold fm_tnum
  by_cases h : fm_tw (fp w) (fq w) (fs w) (fw w) lo = 0
  · rw [if_pos h]; rfl
  · rw [if_neg h]; rfl
theorem rd_rd (w : vX10) (k : Nat) (x : Int32) : frd (fm_rd w k x) = upd (frd w) k x := rfl
theorem rm1_rd (w : vX10) : frd (fm_rm1 w) = frd w := rfl
set_option maxHeartbeats 4000000 in
theorem o1_eq {q0 r : Nat} {v : vX4} {w : vX10} (h : pR q0 v w) (hw : fw w = 0) (hr : r ≤ 12) (hL : LR r v.2.1 (frd w)) :
    ((fc_o1 v).1 = 0 ∧ fw (fm_tleg r w) = 1 ∧ (fc_o1 v).2.2.2.2.1 = fs (fm_tleg r w) ∧ (fc_o1 v).2.2.1 = v.2.1) ∨
    ((fc_o1 v).1 = 1 ∧ fw (fm_tleg r w) = 0 ∧ pR q0 (fc_o1 v).2 (fm_tleg r w) ∧ LR (r + 1) (fc_o1 v).2.2.1 (frd (fm_tleg r w))) := by
  obtain ⟨a1, a2, a3⟩ := rs_eq h hw (c := 99) (by decide)
  unfold fc_o1
  generalize fc_rs v 99 = P1 at a1 a2 a3 ⊢
  rcases a2 with ⟨x1, x2⟩ | ⟨x1, x2⟩
  · left
    have ht := tleg_0 (r0 := r) x2
    rw [if_pos x1]
    exact ⟨rfl, ht.1, by rw [ht.2]; exact a1.2.2.2.2.1, a3⟩
  · rw [if_neg (w01 x1)]
    have z359 : (359 : Int32).toInt = 359 := by decide
    have z400 : (400 : Int32).toInt = 400 := by decide
    have z600 : (600 : Int32).toInt = 600 := by decide
    have z0 : (0 : Int32).toInt = 0 := by decide
    have z1 : (1 : Int32).toInt = 1 := by decide
    have z100 : (100 : Int32).toInt = 100 := by decide
    obtain ⟨b1, b2, b3⟩ := rn_eq a1 x2 (lo := 0) (hi := 359) (Or.inl rfl) ⟨by omega, by omega⟩
    generalize fc_rn P1.2 0 359 = P2 at b1 b2 b3 ⊢
    rcases b2 with ⟨y1, y2⟩ | ⟨y1, y2, y3, y4, y5⟩
    · left
      have ht := tleg_1 (r0 := r) (v := w) (by unfold fm_tl1; exact y2)
      rw [if_pos y1]
      refine ⟨rfl, ht.1, ?_, b3.trans a3⟩
      rw [ht.2]; unfold fm_tl1; exact b1.2.2.2.2.1
    · rw [if_neg (w01 y1)]
      have hc1 : fw (fm_tl1 w).2 = 0 := by unfold fm_tl1; exact y2
      have pc1 : pR q0 P2.2 (fm_rd (fm_tl1 w).2 (3 * r) (100 * (fm_tl1 w).1)) := pR_rd (by unfold fm_tl1; exact b1)
      obtain ⟨c1, c2, c3⟩ := rs_eq pc1 ((rd_w _ _ _).trans hc1) (c := 118) (by decide)
      unfold fc_o2
      generalize fc_rs P2.2 118 = P3 at c1 c2 c3 ⊢
      rcases c2 with ⟨u1, u2⟩ | ⟨u1, u2⟩
      · left
        have ht := tleg_2 (r0 := r) (v := w) (by unfold fm_tl2; exact u2)
        rw [if_pos u1]
        refine ⟨rfl, ht.1, ?_, c3.trans (b3.trans a3)⟩
        rw [ht.2]; unfold fm_tl2; exact c1.2.2.2.2.1
      · rw [if_neg (w01 u1)]
        have hc2 : fw (fm_tl2 r w) = 0 := by unfold fm_tl2; exact u2
        have pc2 : pR q0 P3.2 (fm_tl2 r w) := by unfold fm_tl2; exact c1
        obtain ⟨d1, d2, d3⟩ := rn_eq pc2 hc2 (lo := 0) (hi := 400) (Or.inl rfl) ⟨by omega, by omega⟩
        generalize fc_rn P3.2 0 400 = P4 at d1 d2 d3 ⊢
        rcases d2 with ⟨y6, y7⟩ | ⟨y6, y7, y8, y9, y10⟩
        · left
          have ht := tleg_3 (r0 := r) (v := w) (by unfold fm_tl3; exact y7)
          rw [if_pos y6]
          refine ⟨rfl, ht.1, ?_, d3.trans (c3.trans (b3.trans a3))⟩
          rw [ht.2]; unfold fm_tl3; exact d1.2.2.2.2.1
        · rw [if_neg (w01 y6)]
          have hc3 : fw (fm_tl3 r w).2 = 0 := by unfold fm_tl3; exact y7
          have pc3 : pR q0 P4.2 (fm_rd (fm_tl3 r w).2 (3 * r + 1) (fm_tl3 r w).1) := pR_rd (by unfold fm_tl3; exact d1)
          obtain ⟨e1, e2, e3⟩ := rs_eq pc3 ((rd_w _ _ _).trans hc3) (c := 109) (by decide)
          unfold fc_o3
          generalize fc_rs P4.2 109 = P5 at e1 e2 e3 ⊢
          rcases e2 with ⟨u3, u4⟩ | ⟨u3, u4⟩
          · left
            have ht := tleg_4 (r0 := r) (v := w) (by unfold fm_tl4; exact u4)
            rw [if_pos u3]
            refine ⟨rfl, ht.1, ?_, e3.trans (d3.trans (c3.trans (b3.trans a3)))⟩
            rw [ht.2]; unfold fm_tl4; exact e1.2.2.2.2.1
          · rw [if_neg (w01 u3)]
            have hc4 : fw (fm_tl4 r w) = 0 := by unfold fm_tl4; exact u4
            have pc4 : pR q0 P5.2 (fm_tl4 r w) := by unfold fm_tl4; exact e1
            obtain ⟨f1, f2, f3⟩ := rn_eq pc4 hc4 (lo := 1) (hi := 600) (Or.inr rfl) ⟨by omega, by omega⟩
            generalize fc_rn P5.2 1 600 = P6 at f1 f2 f3 ⊢
            rcases f2 with ⟨y11, y12⟩ | ⟨y11, y12, y13, y14, y15⟩
            · left
              have ht := tleg_5 (r0 := r) (v := w) (by unfold fm_tl5; exact y12)
              rw [if_pos y11]
              refine ⟨rfl, ht.1, ?_, f3.trans (e3.trans (d3.trans (c3.trans (b3.trans a3))))⟩
              rw [ht.2]; unfold fm_tl5; exact f1.2.2.2.2.1
            · right
              rw [if_neg (w01 y11)]
              have hlegs : P6.2.2.1 = v.2.1 := f3.trans (e3.trans (d3.trans (c3.trans (b3.trans a3))))
              have ew : fm_tleg r w = fm_rm1 (fm_rd (fm_tl5 r w).2 (3 * r + 2) (fm_tl5 r w).1) := by unfold fm_tleg; exact Eq.refl _
              have hfr : frd (fm_tleg r w) = upd (upd (upd (frd w) (3 * r) (100 * (fm_tl1 w).1)) (3 * r + 1) (fm_tl3 r w).1) (3 * r + 2) (fm_tl5 r w).1 := by
                rw [ew, rm1_rd, rd_rd]
                unfold fm_tl5; rw [tnum_rd]; unfold fm_tl4; rw [need_rd, rd_rd]
                unfold fm_tl3; rw [tnum_rd]; unfold fm_tl2; rw [need_rd, rd_rd]
                unfold fm_tl1; rw [tnum_rd, need_rd]
              have pF : pR q0 P6.2 (fm_tl5 r w).2 := by unfold fm_tl5; exact f1
              have n1 : P2.2.2.2.2.2 * 100 = (100 * (fm_tl1 w).1).toInt64 ∧ zcR (100 * (fm_tl1 w).1) := by
                have g1 : P2.2.2.2.2.2 = (fm_tl1 w).1.toInt64 := by unfold fm_tl1; exact y3
                have g2 : (0 : Int32).toInt ≤ (fm_tl1 w).1.toInt := by unfold fm_tl1; exact y4
                have g3 : (fm_tl1 w).1.toInt ≤ (359 : Int32).toInt := by unfold fm_tl1; exact y5
                have m1 : (100 * (fm_tl1 w).1).toInt = 100 * (fm_tl1 w).1.toInt := by rw [zi_mul (by rw [z100]; omega) (by rw [z100]; omega), z100]
                refine ⟨?_, by unfold zcR; omega⟩
                rw [g1, zx_mul (by rw [z100]; omega) (by rw [z100]; omega), Int64.mul_comm]; rfl
              have n2 : P4.2.2.2.2.2 = (fm_tl3 r w).1.toInt64 ∧ zsR (fm_tl3 r w).1 := by
                unfold fm_tl3; exact ⟨y8, by unfold zsR; omega⟩
              have n3 : P6.2.2.2.2.2 = (fm_tl5 r w).1.toInt64 ∧ 1 ≤ (fm_tl5 r w).1.toInt ∧ (fm_tl5 r w).1.toInt ≤ 600 := by
                unfold fm_tl5; exact ⟨y13, by omega, by omega⟩
              refine ⟨rfl, ?_, ?_, ?_⟩
              · rw [ew, rm1_w, rd_w]; unfold fm_tl5; exact y12
              · exact pR_same pF (al_1 _ _ _) (al_3 _ _ _) (al_4 _ _ _) (by rw [ew, rm1_fp, rd_fp]) (by rw [ew, rm1_fq, rd_fq]) (by rw [ew, rm1_s, rd_s])
              · dsimp only
                rw [al_2, hlegs, n1.1, n2.1, n3.1, hfr]
                obtain ⟨L1, L2⟩ := hL
                have eg : zf_gadd 13 v.2.1 (100 * (fm_tl1 w).1).toInt64 (fm_tl3 r w).1.toInt64 (fm_tl5 r w).1.toInt64 = (vp_updL v.2.1.1 r (100 * (fm_tl1 w).1).toInt64, vp_updL v.2.1.2.1 r (fm_tl3 r w).1.toInt64, vp_updL v.2.1.2.2.1 r (fm_tl5 r w).1.toInt64, nI (r + 1)) := by
                  unfold zf_gadd
                  rw [L1, if_pos (nI_lt (a := r) (b := 13) (by omega) (by omega)), wr_in (by omega) (by decide), wr_in (by omega) (by decide), wr_in (by omega) (by decide), nI_1]
                rw [eg]
                refine ⟨rfl, fun j hj => ?_⟩
                by_cases d : j = r
                · subst d
                  rw [upd_ne (show 3 * j ≠ 3 * j + 2 by omega), upd_ne (show 3 * j ≠ 3 * j + 1 by omega), upd_eq, upd_ne (show 3 * j + 1 ≠ 3 * j + 2 by omega), upd_eq, upd_eq]
                  exact ⟨updL_eq, updL_eq, updL_eq, n1.2, n2.2, n3.2.1, n3.2.2⟩
                · obtain ⟨k1, k2, k3, k4⟩ := L2 j (by omega)
                  rw [upd_ne (show 3 * j ≠ 3 * r + 2 by omega), upd_ne (show 3 * j ≠ 3 * r + 1 by omega), upd_ne (show 3 * j ≠ 3 * r by omega), upd_ne (show 3 * j + 1 ≠ 3 * r + 2 by omega), upd_ne (show 3 * j + 1 ≠ 3 * r + 1 by omega), upd_ne (show 3 * j + 1 ≠ 3 * r by omega), upd_ne (show 3 * j + 2 ≠ 3 * r + 2 by omega), upd_ne (show 3 * j + 2 ≠ 3 * r + 1 by omega), upd_ne (show 3 * j + 2 ≠ 3 * r by omega)]
                  exact ⟨(updL_ne d).trans k1, (updL_ne d).trans k2, (updL_ne d).trans k3, k4⟩
