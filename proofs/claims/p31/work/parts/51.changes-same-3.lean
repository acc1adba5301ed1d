/-! undo, save, restore, forecasts: both sides -/
theorem op_undo {S f V : vX7} {v : vH} {rs : vR} {pd : vX4} {m : vX10} {c : Nat} (h : Rel (S, f, v, rs, pd) m) (hc : m.2.2.2.2.2.2.1 = nI c) (hc6 : c ≤ 6) (hV : 0 < c → RS 100000 V (zrd (85 * (c - 1)) m.2.2.2.2.1) (zrd (9 * (c - 1)) m.2.2.2.2.2.1)) : (zf_undo S V v).1 = (fm_undo c m).1 ∧ Rel ((zf_undo S V v).2.1, f, (zf_undo S V v).2.2, rs, pd) (fm_undo c m).2 := by
  have h0 := h
  obtain ⟨h1, ⟨c', e', h2⟩, h3, h4⟩ := h
  have ec : c' = c := (nI_eq (by have := h2.2.1; omega) (by omega)).mp (e'.symm.trans hc)
  subst ec
  have e2 : v.2.2 = nI c' := h2.2.2.1
  unfold zf_undo fm_undo
  rw [e2]
  by_cases c0 : c' = 0
  · subst c0
    have e0 : (nI 0 : Int32) = 0 := rfl
    rw [if_pos e0, if_pos rfl]; exact ⟨rfl, h0⟩
  · have hne : ¬ (nI c' : Int32) = 0 := fun q => c0 ((nI_eq (a := c') (b := 0) (by omega) (by decide)).mp q)
    rw [if_neg hne, if_neg c0]
    exact ⟨z_pred1 (by omega), hV (by omega), ⟨c' - 1, rfl, undo_hist h2 (by omega)⟩, h3, h4⟩
theorem in01 {x : Int32} : zf_in x.toInt64 0 ((nI 2) - 1).toInt64 = fm_in x 0 1 := zx_in rfl (by decide)
theorem op_save {S f : vX7} {v : vH} {rs : vR} {pd : vX4} {m : vX10} {aa : Nat → Nat} (h : Rel (S, f, v, rs, pd) m) (x : Int32) : (zf_save aa S rs x).1 = (fm_saveX m x).1 ∧ Rel (S, f, v, (zf_save aa S rs x).2, pd) (fm_saveX m x).2 := by
  have h0 := h
  obtain ⟨h1, h2, h3, h4⟩ := h
  unfold zf_save fm_saveX
  rw [in01]
  by_cases c1 : fm_in x 0 1 = 0
  · rw [if_pos c1, if_pos c1]; exact ⟨rfl, h0⟩
  · rw [if_neg c1, if_neg c1]
    obtain ⟨q, hq, rfl⟩ := z_ix01 c1
    rw [nI_clamp (by omega)]
    refine ⟨?_, h1, h2, fun i hi => ?_, h4⟩
    · show S.2.2.2.2.2.1.toInt32 = m.1 10
      rw [h1.2.2.2.2.2.1.1, Int32.toInt32_toInt64]
    · show (upd m.2.2.2.2.2.2.2.2.2.1 q 1 i = 0 ∧ zUp rs q (some (aa, S)) i = none) ∨ (upd m.2.2.2.2.2.2.2.2.2.1 q 1 i = 1 ∧ ∃ (b : Nat → Nat) (V : vX7), zUp rs q (some (aa, S)) i = some (b, V) ∧ RS 100000 V (zrd (85 * i) (zpl (85 * q) 85 m.2.2.2.2.2.2.2.1 m.1)) (zrd (9 * i) (zpl (9 * q) 9 m.2.2.2.2.2.2.2.2.1 m.2.1)))
      by_cases d : i = q
      · subst d
        rw [upd_eq, zUp_at]
        refine Or.inr ⟨rfl, aa, S, rfl, RS_c h1 (fun j hj => ?_) (fun j hj => ?_)⟩
        · unfold zrd zpl; rw [if_pos (by omega), show 85 * i + j - 85 * i = j by omega]
        · unfold zrd zpl; rw [if_pos (by omega), show 9 * i + j - 9 * i = j by omega]
      · rw [upd_ne d, zUp_ne d]
        rcases h3 i hi with g | ⟨g1, b, V, g2, g3⟩
        · exact Or.inl g
        · refine Or.inr ⟨g1, b, V, g2, RS_c g3 (fun j hj => ?_) (fun j hj => ?_)⟩
          · unfold zrd zpl; rw [if_neg (by omega)]
          · unfold zrd zpl; rw [if_neg (by omega)]
theorem op_restore {S f : vX7} {v : vH} {rs : vR} {pd : vX4} {m : vX10} {c : Nat} {aa : Nat → Nat} (h : Rel (S, f, v, rs, pd) m) (hc : m.2.2.2.2.2.2.1 = nI c) (hc6 : c ≤ 6) (x : Int32) : (zf_restore aa S v rs x).1 = (fm_restX c m x).1 ∧ Rel ((zf_restore aa S v rs x).2.1, f, (zf_restore aa S v rs x).2.2, rs, pd) (fm_restX c m x).2 := by
  have h0 := h
  have h3 := h.2.2.1
  unfold zf_restore fm_restX
  rw [in01]
  by_cases c1 : fm_in x 0 1 = 0
  · rw [if_pos c1, if_pos c1]; exact ⟨rfl, h0⟩
  · rw [if_neg c1, if_neg c1]
    obtain ⟨q, hq, rfl⟩ := z_ix01 c1
    rw [nI_clamp (by omega)]
    unfold fm_restore
    rcases h3 q hq with ⟨g1, g2⟩ | ⟨g1, b, V, g2, g3⟩
    · have g2' : rs q = none := g2
      rw [g2', if_pos g1]; exact ⟨rfl, h0⟩
    · have g2' : rs q = some (b, V) := g2
      have hne : ¬ m.2.2.2.2.2.2.2.2.2.1 q = 0 := fun p => by rw [g1] at p; exact absurd p (by decide)
      rw [g2', if_neg hne]
      refine ⟨?_, rel_change h0 hc hc6 g3⟩
      show V.2.2.2.2.2.1.toInt32 = zrd (85 * q) m.2.2.2.2.2.2.2.1 10
      rw [g3.2.2.2.2.2.1.1, Int32.toInt32_toInt64]
theorem op_calmIn {S f : vX7} {v : vH} {rs : vR} {pd : vX4} {m : vX10} (h : Rel (S, f, v, rs, pd) m) (x y : Int32) : (zf_calmIn S f x y).1 = (fm_calmIn m x y).1 ∧ Rel (S, (zf_calmIn S f x y).2, v, rs, pd) (fm_calmIn m x y).2 := by
  have hS := h.1
  unfold zf_calmIn fm_calmIn
  rw [zx_in (x := x) (lo := 0) (hi := 100000) (a := 0) (b := 100000) rfl rfl, zx_in (x := y) (lo := 1) (hi := 2000) (a := 1) (b := 2000) rfl rfl]
  by_cases c1 : fm_in x 0 100000 = 0
  · rw [if_pos c1, if_pos c1]; exact ⟨rfl, h⟩
  · by_cases c2 : fm_in y 1 2000 = 0
    · rw [if_neg c1, if_neg c1, if_pos c2, if_pos c2]; exact ⟨rfl, h⟩
    · rw [if_neg c1, if_neg c1, if_neg c2, if_neg c2]
      obtain ⟨q, hq, rfl⟩ := z_ix600 (n := 2001) c2 (by decide) (by decide)
      rw [nI_clamp (by omega)]
      have hl := hS.2.2.1.2.2.2.2.2.1
      have hlv : RS 100000 (zf_lv S S.2.2.1.2.2.2.2.2.1) (upd m.1 8 S.2.2.1.2.2.2.2.2.1) m.2.1 := lv_RS hS (by rw [hl.1]; exact hl.2)
      refine ⟨?_, h⟩
      rw [look_eq x q 0 100000 _ _ _ hlv (by omega)]
      show _ = fm_look x q 0 (upd m.1 8 (m.1 8), m.2.1)
      rw [hl.1]
theorem op_best {S f : vX7} {v : vH} {rs : vR} {pd : vX4} {m : vX10} (h : Rel (S, f, v, rs, pd) m) (x y : Int32) : (zf_best S f x y).1 = (fm_best m x y).1 ∧ Rel (S, (zf_best S f x y).2, v, rs, pd) (fm_best m x y).2 := by
  have hS := h.1
  unfold zf_best fm_best
  rw [zx_in (x := x) (lo := 0) (hi := 100000) (a := 0) (b := 100000) rfl rfl, zx_in (x := y) (lo := 1) (hi := 500) (a := 1) (b := 500) rfl rfl]
  by_cases c1 : fm_in x 0 100000 = 0
  · rw [if_pos c1, if_pos c1]; exact ⟨rfl, h⟩
  · by_cases c2 : fm_in y 1 500 = 0
    · rw [if_neg c1, if_neg c1, if_pos c2, if_pos c2]; exact ⟨rfl, h⟩
    · rw [if_neg c1, if_neg c1, if_neg c2, if_neg c2]
      obtain ⟨q, hq, rfl⟩ := z_ix600 (n := 501) c2 (by decide) (by decide)
      rw [nI_clamp (by omega)]
      have hS' : RS 100000 S m.1 m.2.1 := hS
      have hb := (best_inv (T := 100000) (S := S) (f := f) (v := m) hS' (by decide) x (m := q) (by omega) 5 (Nat.le_refl 5)).1
      refine ⟨?_, ?_⟩
      · dsimp only
        exact hb
      · exact ⟨h.1, h.2.1, h.2.2.1, h.2.2.2⟩
