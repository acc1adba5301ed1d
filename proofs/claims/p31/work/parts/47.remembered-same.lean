/-! remembered states, slots, the pad: what both sides hold of them -/
theorem rSw_s {v : vX8} {a b : Nat → Int32} {s s' : Nat → Int64} (h : rSw v a s) (e : ∀ i, (10 ≤ i ∧ i < 15) ∨ (58 ≤ i ∧ i < 74) → b i = a i) (es : ∀ i, i < 9 → s' i = s i) : rSw v b s' := by
  obtain ⟨h1, h2, h3, ⟨h4, h4a, h4b⟩, h5, h6⟩ := rSw_c (b := b) h e trivial
  refine ⟨h1, h2, fun j hj => ?_, by rw [es 0 (by decide)]; exact ⟨h4, h4a, h4b⟩, h5, h6⟩
  have hj8 : j < 8 := by have := (ok13 h2).1; omega
  have h9 := h3 j hj
  unfold rSwj at h9 ⊢
  rw [es j (by omega), es (1 + j) (by omega)]
  exact h9
theorem RS_c {T : Int} {S : vX7} {a b : Nat → Int32} {s s' : Nat → Int64} (h : RS T S a s) (e : ∀ i, i < 85 → b i = a i) (es : ∀ i, i < 9 → s' i = s i) : RS T S b s' := by
  obtain ⟨h1, h2, h3, h4, h5, h6, h7, h8⟩ := h
  exact ⟨rSet_c h1 (fun i p q => e i (by omega)), rShip_c h2 (fun i hi => e i (by omega)), rGyro_c h3 (fun i hi => e i (by omega)), rSw_s h4 (fun i hi => e i (by omega)) es, rSi_c h5 (fun i hi => e i (by omega)), rTm_c h6 (e 10 (by omega)), by rw [e 17 (by omega)]; exact h7, by rw [e 18 (by omega)]; exact h8⟩
def rHist (v : vH) (p : Nat → Int32) (ps : Nat → Int64) (c : Nat) : Prop := v.2.1 < 6 ∧ c ≤ 6 ∧ v.2.2 = nI c ∧ ∀ i, i < c → ∃ (b : Nat → Nat) (V : vX7), v.1 ((v.2.1 + 6 - c + i) % 6) = some (b, V) ∧ RS 100000 V (zrd (85 * i) p) (zrd (9 * i) ps)
def rSlots (rs : vR) (sl : Nat → Int32) (ss : Nat → Int64) (sv : Nat → Int32) : Prop := ∀ q, q < 2 → (sv q = 0 ∧ rs q = none) ∨ (sv q = 1 ∧ ∃ (b : Nat → Nat) (V : vX7), rs q = some (b, V) ∧ RS 100000 V (zrd (85 * q) sl) (zrd (9 * q) ss))
def rPad (pd : vX4) (f : Nat → Int32) (n : Int32) : Prop := pd.2.2.1 = n ∧ (0 ≤ n.toInt ∧ n.toInt ≤ 80) ∧ (∀ j, j < nT n → pd.1 j = f j) ∧ hCh pd.1
abbrev vTv : Type := vX7 × vX7 × vH × vR × vX4
def Rel (t : vTv) (m : vX10) : Prop := RS 100000 t.1 m.1 m.2.1 ∧ (∃ c, m.2.2.2.2.2.2.1 = nI c ∧ rHist t.2.2.1 m.2.2.2.2.1 m.2.2.2.2.2.1 c) ∧ rSlots t.2.2.2.1 m.2.2.2.2.2.2.2.1 m.2.2.2.2.2.2.2.2.1 m.2.2.2.2.2.2.2.2.2.1 ∧ rPad t.2.2.2.2 (fp m) (fq m)
theorem hc_eq {c : Nat} (h : c ≤ 6) : zf_hc (nI c) = nI ((if c = 6 then 5 else c) + 1) := by
  unfold zf_hc
  rw [nI_1]
  by_cases e : c = 6
  · subst e; decide
  · rw [if_neg e, if_neg (fun q => by have := (nI_ltI (a := 6) (b := c + 1) (by omega) (by omega)).mp q; omega)]
theorem keep_hist {v : vH} {p a : Nat → Int32} {ps s : Nat → Int64} {c : Nat} {S : vX7} {aa : Nat → Nat} (h : rHist v p ps c) (hS : RS 100000 S a s) :
    rHist (zf_rec aa S v) (zpl (85 * (if c = 6 then 5 else c)) 85 (if c = 6 then zsf 425 85 p else p) a) (zpl (9 * (if c = 6 then 5 else c)) 9 (if c = 6 then zsf 45 9 ps else ps) s) ((if c = 6 then 5 else c) + 1) := by
  obtain ⟨hk, hc, e2, hr⟩ := h
  generalize hq : (if c = 6 then 5 else c) = q
  have hq5 : q ≤ 5 := by rw [← hq]; split <;> omega
  refine ⟨Nat.mod_lt _ (by decide), by omega, by show zf_hc v.2.2 = _; rw [e2, hc_eq hc, hq], fun i hi => ?_⟩
  show ∃ (b : Nat → Nat) (V : vX7), zUp v.1 v.2.1 (some (aa, S)) (((v.2.1 + 1) % 6 + 6 - (q + 1) + i) % 6) = some (b, V) ∧ _
  by_cases e : i = q
  · subst e
    have ep : ((v.2.1 + 1) % 6 + 6 - (i + 1) + i) % 6 = v.2.1 := by omega
    rw [ep, zUp_at]
    refine ⟨aa, S, rfl, RS_c hS (fun j hj => ?_) (fun j hj => ?_)⟩
    · unfold zrd zpl; rw [if_pos (by omega), show 85 * i + j - 85 * i = j by omega]
    · unfold zrd zpl; rw [if_pos (by omega), show 9 * i + j - 9 * i = j by omega]
  · by_cases c6 : c = 6
    · subst c6
      have hq' : q = 5 := by rw [← hq]; rfl
      subst hq'
      have ep : ((v.2.1 + 1) % 6 + 6 - (5 + 1) + i) % 6 = (v.2.1 + 6 - 6 + (i + 1)) % 6 := by omega
      have en : ((v.2.1 + 1) % 6 + 6 - (5 + 1) + i) % 6 ≠ v.2.1 := by omega
      rw [zUp_ne en, ep, if_pos rfl, if_pos rfl]
      obtain ⟨b, V, h1, h2⟩ := hr (i + 1) (by omega)
      refine ⟨b, V, h1, RS_c h2 (fun j hj => ?_) (fun j hj => ?_)⟩
      · unfold zrd zpl; rw [if_neg (by omega)]; unfold zsf; rw [if_pos (by omega), show 85 * i + j + 85 = 85 * (i + 1) + j by omega]
      · unfold zrd zpl; rw [if_neg (by omega)]; unfold zsf; rw [if_pos (by omega), show 9 * i + j + 9 = 9 * (i + 1) + j by omega]
    · have hq' : q = c := by rw [← hq, if_neg c6]
      subst hq'
      have ep : ((v.2.1 + 1) % 6 + 6 - (q + 1) + i) % 6 = (v.2.1 + 6 - q + i) % 6 := by omega
      have en : ((v.2.1 + 1) % 6 + 6 - (q + 1) + i) % 6 ≠ v.2.1 := by omega
      rw [zUp_ne en, ep, if_neg c6, if_neg c6]
      obtain ⟨b, V, h1, h2⟩ := hr i (by omega)
      refine ⟨b, V, h1, RS_c h2 (fun j hj => ?_) (fun j hj => ?_)⟩
      · unfold zrd zpl; rw [if_neg (by omega)]
      · unfold zrd zpl; rw [if_neg (by omega)]
/-- a change: both sides remember, then the state is another one -/
theorem rel_change {S f S' : vX7} {v : vH} {rs : vR} {pd : vX4} {m : vX10} {c : Nat} {aa : Nat → Nat} {a' : Nat → Int32} {s' : Nat → Int64} (h : Rel (S, f, v, rs, pd) m) (hc : m.2.2.2.2.2.2.1 = nI c) (hc6 : c ≤ 6) (hS : RS 100000 S' a' s') : Rel (S', f, zf_rec aa S v, rs, pd) (a', s', (fm_keep c m).2.2) := by
  obtain ⟨h1, ⟨c', e', h2⟩, h3, h4⟩ := h
  have ec : c' = c := (nI_eq (by have := h2.2.1; omega) (by omega)).mp (e'.symm.trans hc)
  subst ec
  exact ⟨hS, ⟨_, rfl, keep_hist h2 h1⟩, h3, h4⟩
theorem rel_c {t : vTv} {m : vX10} (h : Rel t m) : ∃ c, c ≤ 6 ∧ m.2.2.2.2.2.2.1 = nI c ∧ rHist t.2.2.1 m.2.2.2.2.1 m.2.2.2.2.2.1 c := by
  obtain ⟨c, e, h2⟩ := h.2.1
  exact ⟨c, h2.2.1, e, h2⟩
theorem undo_hist {v : vH} {p : Nat → Int32} {ps : Nat → Int64} {c : Nat} (h : rHist v p ps c) (h0 : 0 < c) : rHist (zf_tb v) p ps (c - 1) := by
  obtain ⟨hk, hc, e2, hr⟩ := h
  refine ⟨Nat.mod_lt _ (by decide), by omega, by show v.2.2 - 1 = _; rw [e2]; exact z_pred1 h0, fun i hi => ?_⟩
  show ∃ (b : Nat → Nat) (V : vX7), v.1 (((v.2.1 + 5) % 6 + 6 - (c - 1) + i) % 6) = some (b, V) ∧ _
  rw [show ((v.2.1 + 5) % 6 + 6 - (c - 1) + i) % 6 = (v.2.1 + 6 - c + i) % 6 by omega]
  exact hr i (by omega)
theorem undo_top {v : vH} {p : Nat → Int32} {ps : Nat → Int64} {c : Nat} (h : rHist v p ps c) (h0 : 0 < c) : ∃ (b : Nat → Nat) (V : vX7), v.1 ((v.2.1 + 5) % 6) = some (b, V) ∧ RS 100000 V (zrd (85 * (c - 1)) p) (zrd (9 * (c - 1)) ps) := by
  obtain ⟨hk, hc, e2, hr⟩ := h
  obtain ⟨b, V, h1, h2⟩ := hr (c - 1) (by omega)
  rw [show (v.2.1 + 6 - c + (c - 1)) % 6 = (v.2.1 + 5) % 6 by omega] at h1
  exact ⟨b, V, h1, h2⟩
