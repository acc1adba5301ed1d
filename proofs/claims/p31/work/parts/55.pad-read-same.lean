/-! the pad read whole: both sides -/
theorem rs_l (v : vX4) (x : Int32) : (fc_rs v x).2.2.2.1 = v.2.2.1 := by
  unfold fc_rs; by_cases h : fc_sg v.1 v.2.2.1 v.2.2.2.1 = x
  · rw [if_pos h]
  · rw [if_neg h]
theorem rn_l (v : vX4) (lo hi : Int32) : (fc_rn v lo hi).2.2.2.1 = v.2.2.1 := by
  unfold fc_rn; by_cases h : fc_sg v.1 v.2.2.1 v.2.2.2.1 = 48
  · rw [if_pos h]; by_cases h2 : lo = 0
    · rw [if_pos h2]; exact rs_l (fc_n0 v) 48
    · rw [if_neg h2]; rfl
  · rw [if_neg h]
theorem o3_l (v : vX4) (x y : Int64) : (fc_o3 v x y).2.2.2.1 = v.2.2.1 := by
  unfold fc_o3; by_cases h : (fc_rs v 109).1 = 0
  · rw [if_pos h]; exact rs_l v 109
  · rw [if_neg h]; by_cases h2 : (fc_rn (fc_rs v 109).2 1 600).1 = 0
    · rw [if_pos h2]; exact (rn_l _ _ _).trans (rs_l _ _)
    · rw [if_neg h2]; dsimp only; rw [al_3, rn_l, rs_l]
theorem o2_l (v : vX4) (x : Int64) : (fc_o2 v x).2.2.2.1 = v.2.2.1 := by
  unfold fc_o2; by_cases h : (fc_rs v 118).1 = 0
  · rw [if_pos h]; exact rs_l v 118
  · rw [if_neg h]; by_cases h2 : (fc_rn (fc_rs v 118).2 0 400).1 = 0
    · rw [if_pos h2]; exact (rn_l _ _ _).trans (rs_l _ _)
    · rw [if_neg h2]; exact (o3_l _ _ _).trans ((rn_l _ _ _).trans (rs_l _ _))
theorem o1_l (v : vX4) : (fc_o1 v).2.2.2.1 = v.2.2.1 := by
  unfold fc_o1; by_cases h : (fc_rs v 99).1 = 0
  · rw [if_pos h]; exact rs_l v 99
  · rw [if_neg h]; by_cases h2 : (fc_rn (fc_rs v 99).2 0 359).1 = 0
    · rw [if_pos h2]; exact (rn_l _ _ _).trans (rs_l _ _)
    · rw [if_neg h2]; exact (o2_l _ _).trans ((rn_l _ _ _).trans (rs_l _ _))
theorem rl_1 : ∀ (d : Nat) (v : vX4), (fc_rl d v).2.1 = v.1 ∧ (fc_rl d v).2.2.2.1 = v.2.2.1
  | 0, v => ⟨rfl, rfl⟩
  | d + 1, v => by
    have h1 := o1_1 v
    have h2 := o1_l v
    have ih := rl_1 d (fc_rs (fc_o1 v).2 59).2
    have r1 := rs_1 (fc_o1 v).2 59
    have r2 := rs_l (fc_o1 v).2 59
    unfold fc_rl
    generalize fc_o1 v = O at *
    generalize fc_rs O.2 59 = Q at *
    by_cases c1 : O.1 = 0
    · rw [if_pos c1]; exact ⟨h1, h2⟩
    · rw [if_neg c1]
      by_cases c2 : O.2.2.2.2.1 < O.2.2.2.1
      · rw [if_pos c2]
        by_cases c3 : Q.1 = 0
        · rw [if_pos c3]; exact ⟨r1.trans h1, r2.trans h2⟩
        · rw [if_neg c3]; exact ⟨ih.1.trans (r1.trans h1), ih.2.trans (r2.trans h2)⟩
      · rw [if_neg c2]; exact ⟨h1, h2⟩
theorem s1_p (w : vX10) : fp (fm_s1 w) = fp w ∧ fq (fm_s1 w) = fq w ∧ fs (fm_s1 w) = fs w + 1 ∧ fw (fm_s1 w) = fw w ∧ frd (fm_s1 w) = frd w ∧ frm (fm_s1 w) = frm w := ⟨rfl, rfl, rfl, rfl, rfl, rfl⟩
/-- what reading the rest of the text comes to -/
def rlC (R : Int32 × vX4) (W : vX10) : Prop := R.1 = fm_fend W ∧ (R.1 = -6 → ∃ n, n ≤ 12 ∧ LR n R.2.2.1 (frd W) ∧ frm W = nI n) ∧ ∃ n, n ≤ 13 ∧ R.2.2.1.2.2.2 = nI n
theorem rl_eq {q0 : Nat} (h8 : q0 ≤ 80) : ∀ (d r D : Nat) (v : vX4) (w : vX10), r + d = 12 → d + 1 ≤ D → pR q0 v w → fw w = 0 → LR r v.2.1 (frd w) → frm w = nI r → 7 * (r : Int) ≤ (fs w).toInt → rlC (fc_rl D v) (fm_fl d (r + 1) (fm_tleg r w))
  | 0, r, D, v, w, hr, _, hp, _, _, _, h7 => by
    have := hp.2.2.2.2.2.2
    omega
  | d + 1, r, D, v, w, hr, hD, hp, hw, hL, hm, h7 => by
    obtain ⟨D', rfl⟩ : ∃ e, D = e + 1 := ⟨D - 1, by omega⟩
    have ho := o1_eq hp hw (r := r) (by omega) hL
    have hB := tleg_B (r0 := r) h8 (pR_B hp)
    have hP := fun q => tleg_p (r0 := r) h8 (pR_B hp) q
    have hM := tleg_m r w
    have ih := fun v' w' a b c e f => rl_eq h8 d (r + 1) D' v' w' (by omega) (by omega) a b c e f
    have z6 : (-6 : Int32).toInt = -6 := by decide
    unfold fc_rl
    generalize fc_o1 v = O at *
    generalize fm_tleg r w = T at *
    rcases ho with ⟨x1, x2, x3, x4⟩ | ⟨x1, x2, x3, x4⟩
    · rw [if_pos x1, fm_fl_e (Or.inl (w01 x2))]
      refine ⟨?_, fun q => ?_, r, by omega, by rw [x4]; exact hL.1⟩
      · unfold fm_fend; rw [if_neg (w01 x2)]; exact x3
      · exfalso
        have q2 := congrArg Int32.toInt (x3.symm.trans q)
        have := hB.2.1
        omega
    · rw [if_neg (w01 x1)]
      have hs := x3.2.2.2.2.1
      have hl := x3.1
      have hq := x3.2.1
      have hT := hP x2
      by_cases c2 : O.2.2.2.2.1 < O.2.2.2.1
      · rw [if_pos c2]
        rw [hs, hl] at c2
        have c2' := Int32.lt_iff_toInt_lt.mp c2
        rw [nI_toInt (by omega)] at c2'
        have hsg := sg_nx x3
        by_cases c3 : fm_nx (fp T) (fq T) (fs T) = 59
        · have er : fc_rs O.2 59 = (1, (O.2.1, O.2.2.1, O.2.2.2.1, O.2.2.2.2.1 + 1, O.2.2.2.2.2)) := by unfold fc_rs; rw [if_pos (hsg.trans c3)]
          rw [er, fm_fl_s (by omega) x2 c3, Nat.add_sub_cancel]
          dsimp only
          rw [if_neg (by decide)]
          obtain ⟨p1, p2, p3, p4, p5, p6⟩ := s1_p T
          have hn : pR q0 (O.2.1, O.2.2.1, O.2.2.2.1, O.2.2.2.2.1 + 1, O.2.2.2.2.2) (fm_s1 T) := pR_next x3 c2' rfl rfl rfl p1 p2 p3
          have es : (fs (fm_s1 T)).toInt = (fs T).toInt + 1 := by
            have z1 : (1 : Int32).toInt = 1 := by decide
            have := hB.2.1
            rw [p3, zi_add (by omega) (by omega), z1]
          exact ih _ _ hn (p4.trans x2) (by rw [p5]; exact x4) (by rw [p6, hM, hm]; exact nI_1 r) (by rw [es]; omega)
        · have er : fc_rs O.2 59 = (0, O.2) := by unfold fc_rs; rw [if_neg (fun q => c3 (hsg.symm.trans q))]
          rw [er, fm_fl_e (Or.inr c3)]
          dsimp only
          rw [if_pos rfl]
          have hle : ¬ fq T ≤ fs T := fun q => by
            rw [hq] at q
            have := Int32.le_iff_toInt_le.mp q
            rw [nI_toInt (by omega)] at this
            omega
          refine ⟨?_, fun q => ?_, r + 1, by omega, x4.1⟩
          · unfold fm_fend; rw [if_pos x2, if_neg hle]; exact hs
          · exfalso
            have q2 := congrArg Int32.toInt (hs.symm.trans q)
            have := hB.2.1
            omega
      · rw [if_neg c2]
        rw [hs, hl] at c2
        have hge : fq T ≤ fs T := by
          rw [hq]
          apply Int32.le_iff_toInt_le.mpr
          have : ¬ (fs T).toInt < (nI q0).toInt := fun q => c2 (Int32.lt_iff_toInt_lt.mpr q)
          omega
        have hnx : ¬ fm_nx (fp T) (fq T) (fs T) = 59 := by
          unfold fm_nx; rw [if_pos hge]; decide
        rw [fm_fl_e (Or.inr hnx)]
        refine ⟨?_, fun _ => ⟨r + 1, by omega, x4, by rw [hM, hm]; exact nI_1 r⟩, r + 1, by omega, x4.1⟩
        unfold fm_fend; rw [if_pos x2, if_pos hge]
theorem read_eq {pd : vX4} {m : vX10} (h : rPad pd (fp m) (fq m)) : rlC (fc_readLegs pd) (fm_fW m) ∧ (fc_readLegs pd).2.1 = pd.1 ∧ (fc_readLegs pd).2.2.2.1 = pd.2.2.1 := by
  obtain ⟨p1, p2, p3, p4⟩ := h
  have e := nT_eq p2.1
  have n80 : nT (fq m) ≤ 80 := nT_le p2.2
  have hz : (0 : Int32).toInt ≤ ((nT (fq m) : Nat) : Int) := by
    have z0 : (0 : Int32).toInt = 0 := by decide
    omega
  have hz0 : 0 ≤ (0 : Int32).toInt := by decide
  have hp : pR (nT (fq m)) (fc_r0 pd) (fm_f0 m) := ⟨p1.trans e, e, n80, p3, rfl, hz0, hz⟩
  have h1 := rl_eq n80 12 0 81 (fc_r0 pd) (fm_f0 m) (by omega) (by omega) hp rfl ⟨rfl, fun j hj => absurd hj (Nat.not_lt_zero j)⟩ rfl (by show 7 * ((0 : Nat) : Int) ≤ (0 : Int32).toInt; decide)
  exact ⟨h1, rl_1 81 (fc_r0 pd)⟩
theorem rel_sp {S f : vX7} {v : vH} {rs : vR} {pd pd' : vX4} {m w : vX10} (h : Rel (S, f, v, rs, pd) m) (hs : hSp m w) (e1 : pd'.1 = pd.1) (e2 : pd'.2.2.1 = pd.2.2.1) : Rel (S, f, v, rs, pd') w := by
  unfold hSp at hs
  generalize fs w = x1 at hs; generalize fw w = x2 at hs; generalize frd w = x3 at hs; generalize frm w = x4 at hs
  subst hs
  obtain ⟨h1, h2, h3, ⟨p1, p2, p3, p4⟩⟩ := h
  refine ⟨h1, h2, h3, ⟨?_, p2, fun j hj => ?_, ?_⟩⟩
  · show pd'.2.2.1 = _
    rw [e2]; exact p1
  · show pd'.1 j = _
    rw [e1]; exact p3 j hj
  · show hCh pd'.1
    rw [e1]; exact p4
theorem op_fault {S f : vX7} {v : vH} {rs : vR} {pd : vX4} {m : vX10} (h : Rel (S, f, v, rs, pd) m) : (fc_readLegs pd).1 = (fm_fault m).1 ∧ Rel (S, f, v, rs, (fc_readLegs pd).2) (fm_fault m).2 := by
  obtain ⟨g1, g2, g3⟩ := read_eq h.2.2.2
  have e0 : (fm_fault m).1 = fm_fend (fm_fW m) := by unfold fm_fault; dsimp only
  have hr := rel_sp h (fW_S m) g2 g3
  rw [fau_1, e0]
  exact ⟨g1.1, hr⟩
theorem ld_eq {g : vX3} {f a : Nat → Int32} {s : vX5} {n c0 : Nat} (hL : LR n g f) (hs : rShip s a) (h3 : a 3 = nI c0) (hn : c0 + n ≤ 8) : ∀ k, k ≤ n → rShip (fc_ld g k s) (fm_lds c0 f a k) ∧ fm_lds c0 f a k 3 = nI (c0 + k) ∧ ∀ i, i ≠ 3 → (i < 34 ∨ 58 ≤ i) → fm_lds c0 f a k i = a i
  | 0, _ => ⟨hs, h3, fun _ _ _ => rfl⟩
  | k + 1, hk => by
    obtain ⟨i1, i2, i3⟩ := ld_eq hL hs h3 hn k (by omega)
    obtain ⟨k1, k2, k3, k4, k5, k6, k7⟩ := hL.2 k (by omega)
    have a1 : zf_at 13 g.1 (nI k) = (f (3 * k)).toInt64 := (z_at_in (by omega) (by decide)).trans k1
    have a2 : zf_at 13 g.2.1 (nI k) = (f (3 * k + 1)).toInt64 := (z_at_in (by omega) (by decide)).trans k2
    have a3 : zf_at 13 g.2.2.1 (nI k) = (f (3 * k + 2)).toInt64 := (z_at_in (by omega) (by decide)).trans k3
    have hl := leg_RS i1 i2 (by omega) k4 k5 ⟨k6, k7⟩
    show rShip (zf_shadd (fc_ld g k s) (zf_at 13 g.1 (nI k)) (zf_at 13 g.2.1 (nI k)) (zf_at 13 g.2.2.1 (nI k))) (fm_addLeg (c0 + k) (fm_lds c0 f a k) (f (3 * k)) (f (3 * k + 1)) (f (3 * k + 2))) ∧ fm_addLeg (c0 + k) (fm_lds c0 f a k) (f (3 * k)) (f (3 * k + 1)) (f (3 * k + 2)) 3 = nI (c0 + (k + 1)) ∧ ∀ i, i ≠ 3 → (i < 34 ∨ 58 ≤ i) → fm_addLeg (c0 + k) (fm_lds c0 f a k) (f (3 * k)) (f (3 * k + 1)) (f (3 * k + 2)) i = a i
    rw [a1, a2, a3]
    exact ⟨hl.1, hl.2.1, fun i p q => (hl.2.2 i p q).trans (i3 i p q)⟩
theorem op_load {S f : vX7} {v : vH} {rs : vR} {pd : vX4} {m : vX10} {c c0 : Nat} {aa : Nat → Nat} (h : Rel (S, f, v, rs, pd) m) (hc : m.2.2.2.2.2.2.1 = nI c) (hc6 : c ≤ 6) (h3 : m.1 3 = nI c0) (hc8 : c0 ≤ 8) : (zf_load aa S pd v).1 = (fm_load c c0 m).1 ∧ Rel ((zf_load aa S pd v).2.1, f, (zf_load aa S pd v).2.2.2, rs, (zf_load aa S pd v).2.2.1) (fm_load c c0 m).2 := by
  obtain ⟨⟨g1, gL, -⟩, g2, g3⟩ := read_eq h.2.2.2
  have hR := rel_sp h (fW_S m) g2 g3
  have e1 : (fm_fault m).1 = (fc_readLegs pd).1 := by
    have e0 : (fm_fault m).1 = fm_fend (fm_fW m) := by unfold fm_fault; dsimp only
    rw [e0]; exact g1.symm
  have e2 : (fm_fault m).2 = fm_fW m := fau_1 m
  have w1 := fW_1 m
  have wp := fW_pm m
  unfold zf_load fm_load zf_load2
  rw [e1, e2]
  generalize fc_readLegs pd = R at *
  generalize fm_fW m = W at *
  have h3W : W.1 3 = nI c0 := by rw [w1]; exact h3
  have hcW : W.2.2.2.2.2.2.1 = nI c := by rw [wp]; exact hc
  by_cases c1 : R.1 = -6
  · rw [if_pos c1, if_pos c1]
    obtain ⟨n, n12, hL, hm⟩ := gL c1
    have e3 : S.2.1.1.2.2.2 = W.1 3 := hR.1.2.1.1.1
    rw [e3, hL.1, hm, h3W, nI_add]
    by_cases c2 : c0 + n ≤ 8
    · have c2' : (nI (c0 + n) : Int32) ≤ 8 := nI_le (a := c0 + n) (b := 8) c2 (by omega)
      rw [if_pos c2', if_pos c2', nT_nI (by omega)]
      obtain ⟨l1, l2, l3⟩ := ld_eq (s := S.2.1) (a := W.1) hL hR.1.2.1 h3W c2 n (Nat.le_refl n)
      have hch := rel_change (aa := aa) hR hcW hc6 (RS_ship hR.1 l1 l3)
      have ek : fm_ldx c0 (fm_keep c W) = (fm_lds c0 (frd W) W.1 n, (fm_keep c W).2) := by
        have hkm : frm (fm_keep c W) = nI n := hm
        unfold fm_ldx
        rw [hkm, nT_nI (by omega)]; rfl
      rw [ek]
      obtain ⟨q1, q2, q3, ⟨q4, q5, q6, q7⟩⟩ := hch
      refine ⟨?_, q1, q2, q3, ?_⟩
      · exact l1.1.1
      · exact ⟨rfl, (show 0 ≤ (0 : Int32).toInt ∧ (0 : Int32).toInt ≤ 80 from ⟨by decide, by decide⟩), fun j hj => absurd hj (Nat.not_lt_zero j), q7⟩
    · have c2' : ¬ (nI (c0 + n) : Int32) ≤ 8 := fun p => c2 ((nI_leI (a := c0 + n) (b := 8) (by omega) (by omega)).mp p)
      rw [if_neg c2', if_neg c2']; exact ⟨rfl, hR⟩
  · rw [if_neg c1, if_neg c1]; exact ⟨rfl, hR⟩
