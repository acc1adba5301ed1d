/-! a text and what it is read as: what the law holds -/
/-- a place on the pad: nothing wrong yet -/
def padAt (v : vX10) (n k : Nat) : Prop := fq v = nI n ∧ n ≤ 80 ∧ fs v = nI k ∧ fw v = 0
section
variable {v : vX10} {n k : Nat} {c lo hi : Int32}
theorem pnx_in (hq : fq v = nI n) (hn : n ≤ 80) (hk : k < n) : fm_nx (fp v) (fq v) (nI k) = fp v k := by
  unfold fm_nx
  rw [hq, if_neg (fun q => by have := (nI_leI (by omega) (by omega)).mp q; omega), nI_clamp (by omega)]
theorem pnx_out (hq : fq v = nI n) (hk : n ≤ k) (hk2 : k < 1000) : fm_nx (fp v) (fq v) (nI k) = 0 := by
  unfold fm_nx
  rw [hq, if_pos (nI_le hk (by omega))]
theorem need_ok (h : padAt v n k) (hk : k < n) (hc : fp v k = c) : fm_need v c = fm_sp v (nI (k + 1)) 0 (frd v) (frm v) := by
  obtain ⟨hq, hn, hs, hw⟩ := h
  have ew : fm_nw (fp v) (fq v) (fs v) (fw v) c = 0 := by
    unfold fm_nw
    rw [if_pos hw, hs, pnx_in hq hn hk, if_pos hc]
  unfold fm_need fm_ns
  rw [ew, if_pos rfl, hs]
  rw [show nI k + 1 = nI (k + 1) from nI_1 k]
/-- one figure, and no other behind it -/
theorem num_ok {d : Nat} (h : padAt v n k) (hk : k < n) (hd : 1 ≤ d ∧ d ≤ 9) (hc : fp v k = nI (48 + d)) (hlo : lo = 0 ∨ lo = 1) (hh : n ≤ k + 1 ∨ (k + 1 < n ∧ fm_in (fp v (k + 1)) 48 57 = 0)) : fm_tnum v lo hi = (nI d, fm_sp v (nI (k + 1)) 0 (frd v) (frm v)) := by
  obtain ⟨hq, hn, hs, hw⟩ := h
  have enx : fm_nx (fp v) (fq v) (fs v) = nI (48 + d) := by rw [hs, pnx_in hq hn hk, hc]
  have e48 : nI (48 + d) - 48 = nI d := by
    rw [show (48 : Int32) = nI 48 from rfl, pk_sub (by omega), show 48 + d - 48 = d by omega]
  have ein : ¬ fm_in (nI (48 + d)) (48 + lo) 57 = 0 := by
    rcases hlo with rfl | rfl
    · exact in_n (l := 48) (m := 57) (by omega) (by omega) (by decide)
    · exact in_n (l := 49) (m := 57) (by omega) (by omega) (by decide)
  have et : fm_tw (fp v) (fq v) (fs v) (fw v) lo = 0 := by
    unfold fm_tw
    rw [if_pos hw, enx, if_neg ein]
  have ez : fm_in (fm_nx (fp v) (fq v) (nI (k + 1))) 48 57 = 0 := by
    rcases hh with h1 | ⟨h1, h2⟩
    · rw [pnx_out hq h1 (by omega)]; decide
    · rw [pnx_in hq hn h1]; exact h2
  have ed : fm_dig (fp v) (fq v) hi 81 (nI d) (nI (k + 1)) = (nI d, nI (k + 1)) := fm_dig_e (Or.inr (Or.inl ez))
  unfold fm_tnum
  rw [if_pos et, enx, hs, e48, show nI k + 1 = nI (k + 1) from nI_1 k, ed]
/-- nothing more -/
theorem num_no (h : padAt v n n) (hlo : lo = 0 ∨ lo = 1) : fm_tnum v lo hi = (0, fm_sp v (fs v) 1 (frd v) (frm v)) := by
  obtain ⟨hq, hn, hs, hw⟩ := h
  have et : ¬ fm_tw (fp v) (fq v) (fs v) (fw v) lo = 0 := by
    unfold fm_tw
    rw [if_pos hw, hs, pnx_out hq (Nat.le_refl n) (by omega)]
    rcases hlo with rfl | rfl <;> decide
  unfold fm_tnum
  rw [if_neg et]
end
/-- the six signs of a leg from the place k on -/
def leg6 (v : vX10) (k c s m : Nat) : Prop := fp v k = 99 ∧ fp v (k + 1) = nI (48 + c) ∧ fp v (k + 2) = 118 ∧ fp v (k + 3) = nI (48 + s) ∧ fp v (k + 4) = 109 ∧ fp v (k + 5) = nI (48 + m)
section
variable {v : vX10} {n k r0 c s m : Nat}
theorem tl1_ok (h : padAt v n k) (hk : k + 2 < n) (hc : 1 ≤ c ∧ c ≤ 9) (h1 : fp v k = 99) (h2 : fp v (k + 1) = nI (48 + c)) (h3 : fp v (k + 2) = 118) : fm_tl1 v = (nI c, fm_sp v (nI (k + 2)) 0 (frd v) (frm v)) := by
  unfold fm_tl1
  rw [need_ok h (by omega) h1]
  have h' : padAt (fm_sp v (nI (k + 1)) 0 (frd v) (frm v)) n (k + 1) := ⟨h.1, h.2.1, rfl, rfl⟩
  exact num_ok h' (by omega) hc h2 (Or.inl rfl) (Or.inr ⟨by omega, by rw [show fp (fm_sp v (nI (k + 1)) 0 (frd v) (frm v)) (k + 1 + 1) = 118 from h3]; decide⟩)
theorem tl2_ok (h : padAt v n k) (hk : k + 2 < n) (hc : 1 ≤ c ∧ c ≤ 9) (h1 : fp v k = 99) (h2 : fp v (k + 1) = nI (48 + c)) (h3 : fp v (k + 2) = 118) : fm_tl2 r0 v = fm_sp v (nI (k + 3)) 0 (upd (frd v) (3 * r0) (100 * nI c)) (frm v) := by
  unfold fm_tl2
  rw [tl1_ok h hk hc h1 h2 h3]
  have h' : padAt (fm_rd (nI c, fm_sp v (nI (k + 2)) 0 (frd v) (frm v)).2 (3 * r0) (100 * (nI c, fm_sp v (nI (k + 2)) 0 (frd v) (frm v)).1)) n (k + 2) := ⟨h.1, h.2.1, rfl, rfl⟩
  rw [need_ok h' hk h3]
  rfl
theorem tl3_ok (h : padAt v n k) (hk : k + 4 < n) (hc : 1 ≤ c ∧ c ≤ 9) (hs : 1 ≤ s ∧ s ≤ 9) (h1 : fp v k = 99) (h2 : fp v (k + 1) = nI (48 + c)) (h3 : fp v (k + 2) = 118) (h4 : fp v (k + 3) = nI (48 + s)) (h5 : fp v (k + 4) = 109) : fm_tl3 r0 v = (nI s, fm_sp v (nI (k + 4)) 0 (upd (frd v) (3 * r0) (100 * nI c)) (frm v)) := by
  unfold fm_tl3
  rw [tl2_ok h (by omega) hc h1 h2 h3]
  have h' : padAt (fm_sp v (nI (k + 3)) 0 (upd (frd v) (3 * r0) (100 * nI c)) (frm v)) n (k + 3) := ⟨h.1, h.2.1, rfl, rfl⟩
  exact num_ok h' (by omega) hs h4 (Or.inl rfl) (Or.inr ⟨by omega, by rw [show fp (fm_sp v (nI (k + 3)) 0 (upd (frd v) (3 * r0) (100 * nI c)) (frm v)) (k + 3 + 1) = 109 from h5]; decide⟩)
theorem tl4_ok (h : padAt v n k) (hk : k + 4 < n) (hc : 1 ≤ c ∧ c ≤ 9) (hs : 1 ≤ s ∧ s ≤ 9) (h1 : fp v k = 99) (h2 : fp v (k + 1) = nI (48 + c)) (h3 : fp v (k + 2) = 118) (h4 : fp v (k + 3) = nI (48 + s)) (h5 : fp v (k + 4) = 109) : fm_tl4 r0 v = fm_sp v (nI (k + 5)) 0 (upd (upd (frd v) (3 * r0) (100 * nI c)) (3 * r0 + 1) (nI s)) (frm v) := by
  unfold fm_tl4
  rw [tl3_ok h hk hc hs h1 h2 h3 h4 h5]
  have h' : padAt (fm_rd (nI s, fm_sp v (nI (k + 4)) 0 (upd (frd v) (3 * r0) (100 * nI c)) (frm v)).2 (3 * r0 + 1) (nI s, fm_sp v (nI (k + 4)) 0 (upd (frd v) (3 * r0) (100 * nI c)) (frm v)).1) n (k + 4) := ⟨h.1, h.2.1, rfl, rfl⟩
  rw [need_ok h' hk h5]
  rfl
theorem tleg_ok (h : padAt v n k) (hk : k + 5 < n) (hc : 1 ≤ c ∧ c ≤ 9) (hs : 1 ≤ s ∧ s ≤ 9) (hm : 1 ≤ m ∧ m ≤ 9) (hl : leg6 v k c s m) (hh : n ≤ k + 6 ∨ (k + 6 < n ∧ fm_in (fp v (k + 6)) 48 57 = 0)) : fm_tleg r0 v = fm_sp v (nI (k + 6)) 0 (upd (upd (upd (frd v) (3 * r0) (100 * nI c)) (3 * r0 + 1) (nI s)) (3 * r0 + 2) (nI m)) (frm v + 1) := by
  obtain ⟨h1, h2, h3, h4, h5, h6⟩ := hl
  have h' : padAt (fm_tl4 r0 v) n (k + 5) := by rw [tl4_ok h (by omega) hc hs h1 h2 h3 h4 h5]; exact ⟨h.1, h.2.1, rfl, rfl⟩
  have e5 : fm_tl5 r0 v = (nI m, fm_sp v (nI (k + 6)) 0 (upd (upd (frd v) (3 * r0) (100 * nI c)) (3 * r0 + 1) (nI s)) (frm v)) := by
    unfold fm_tl5
    rw [num_ok h' (by omega) hm (by rw [tl4_ok h (by omega) hc hs h1 h2 h3 h4 h5]; exact h6) (Or.inr rfl) (by rw [tl4_ok h (by omega) hc hs h1 h2 h3 h4 h5]; exact hh), tl4_ok h (by omega) hc hs h1 h2 h3 h4 h5]
    rfl
  unfold fm_tleg
  rw [e5]
  rfl
/-- five signs: the number of minutes is wanting -/
theorem tleg_no (h : padAt v 5 0) (hc : 1 ≤ c ∧ c ≤ 9) (hs : 1 ≤ s ∧ s ≤ 9) (h1 : fp v 0 = 99) (h2 : fp v 1 = nI (48 + c)) (h3 : fp v 2 = 118) (h4 : fp v 3 = nI (48 + s)) (h5 : fp v 4 = 109) : fw (fm_tleg r0 v) = 1 ∧ fs (fm_tleg r0 v) = 5 := by
  have e4 := tl4_ok (r0 := r0) h (by omega) hc hs h1 h2 h3 h4 h5
  have h' : padAt (fm_tl4 r0 v) 5 5 := by rw [e4]; exact ⟨h.1, h.2.1, rfl, rfl⟩
  have e5 : fm_tl5 r0 v = (0, fm_sp (fm_tl4 r0 v) (fs (fm_tl4 r0 v)) 1 (frd (fm_tl4 r0 v)) (frm (fm_tl4 r0 v))) := by
    unfold fm_tl5
    exact num_no h' (Or.inr rfl)
  have hs4 := h'.2.2.1
  unfold fm_tleg
  rw [e5, rm1_w, rd_w, rm1_s, rd_s]
  dsimp only
  clear e4 e5 h'
  generalize fm_tl4 r0 v = u at hs4 ⊢
  exact ⟨rfl, hs4⟩
theorem fau_0 (v : vX10) : (fm_fault v).1 = fm_fend (fm_fW v) := by unfold fm_fault; dsimp only
/-- the first text: wrong at its end -/
theorem fw_5 (hq : fq v = 5) (hc : 1 ≤ c ∧ c ≤ 9) (hs : 1 ≤ s ∧ s ≤ 9) (h1 : fp v 0 = 99) (h2 : fp v 1 = nI (48 + c)) (h3 : fp v 2 = 118) (h4 : fp v 3 = nI (48 + s)) (h5 : fp v 4 = 109) : (fm_fault v).1 = 5 := by
  have h0 : padAt (fm_f0 v) 5 0 := ⟨hq, by decide, rfl, rfl⟩
  obtain ⟨e1, e2⟩ := tleg_no (r0 := 0) h0 hc hs h1 h2 h3 h4 h5
  have e : fm_fW v = fm_tleg 0 (fm_f0 v) := by
    unfold fm_fW
    exact fm_fl_e (Or.inl (by rw [e1]; decide))
  rw [fau_0, e]
  unfold fm_fend
  rw [if_neg (by rw [e1]; decide), e2]
/-- the whole text: two legs -/
theorem fw_13 (hq : fq v = 13) (hc : 1 ≤ c ∧ c ≤ 9) (hs : 1 ≤ s ∧ s ≤ 9) (hm : 1 ≤ m ∧ m ≤ 9) (hl : leg6 v 0 c s m) (h6 : fp v 6 = 59) (hl2 : leg6 v 7 m c s) : (fm_fault v).1 = -6 ∧ frm (fm_fW v) = 2 ∧ frd (fm_fW v) 0 = 100 * nI c ∧ frd (fm_fW v) 1 = nI s ∧ frd (fm_fW v) 2 = nI m ∧ frd (fm_fW v) 3 = 100 * nI m ∧ frd (fm_fW v) 4 = nI c ∧ frd (fm_fW v) 5 = nI s := by
  have h0 : padAt (fm_f0 v) 13 0 := ⟨hq, by decide, rfl, rfl⟩
  have e1 := tleg_ok (r0 := 0) h0 (by omega) hc hs hm hl (Or.inr ⟨by omega, by rw [show fp (fm_f0 v) (0 + 6) = 59 from h6]; decide⟩)
  have a1 : padAt (fm_s1 (fm_tleg 0 (fm_f0 v))) 13 7 := by rw [e1]; exact ⟨hq, by decide, (show nI (0 + 6) + 1 = nI 7 by decide), rfl⟩
  have l2 : leg6 (fm_s1 (fm_tleg 0 (fm_f0 v))) 7 m c s := by rw [e1]; exact hl2
  have e2 := tleg_ok (r0 := 1) a1 (by omega) hm hc hs l2 (Or.inl (by omega))
  have x1 : fw (fm_tleg 0 (fm_f0 v)) = 0 := by rw [e1]; rfl
  have x2 : fm_nx (fp (fm_tleg 0 (fm_f0 v))) (fq (fm_tleg 0 (fm_f0 v))) (fs (fm_tleg 0 (fm_f0 v))) = 59 := by
    rw [e1]
    show fm_nx (fp v) (fq v) (nI 6) = 59
    rw [pnx_in (n := 13) hq (by decide) (by decide), h6]
  have y2 : fm_nx (fp (fm_tleg 1 (fm_s1 (fm_tleg 0 (fm_f0 v))))) (fq (fm_tleg 1 (fm_s1 (fm_tleg 0 (fm_f0 v))))) (fs (fm_tleg 1 (fm_s1 (fm_tleg 0 (fm_f0 v))))) = 0 := by
    rw [e2, e1]
    show fm_nx (fp v) (fq v) (nI 13) = 0
    exact pnx_out (n := 13) hq (by decide) (by decide)
  have e : fm_fW v = fm_tleg 1 (fm_s1 (fm_tleg 0 (fm_f0 v))) := by
    unfold fm_fW
    rw [fm_fl_s (by decide) x1 x2]
    exact fm_fl_e (Or.inr (by rw [y2]; decide))
  have eW : fm_fW v = fm_sp (fm_s1 (fm_tleg 0 (fm_f0 v))) (nI 13) 0 (upd (upd (upd (frd (fm_s1 (fm_tleg 0 (fm_f0 v)))) (3 * 1) (100 * nI m)) (3 * 1 + 1) (nI c)) (3 * 1 + 2) (nI s)) (frm (fm_s1 (fm_tleg 0 (fm_f0 v))) + 1) := e.trans e2
  rw [fau_0, eW, e1]
  clear eW e e2 l2 a1 y2 x2 x1 e1 h0
  refine ⟨?_, ?_, rfl, rfl, rfl, rfl, rfl, rfl⟩
  · show (if (0 : Int32) = 0 then (if fq v ≤ nI 13 then (-6 : Int32) else nI 13) else nI 13) = -6
    rw [if_pos rfl, hq, if_pos (by decide)]
  · show (0 : Int32) + 1 + 1 = 2
    decide
end
