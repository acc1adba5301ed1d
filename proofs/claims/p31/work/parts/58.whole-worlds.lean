/-! both sides' contracts over the whole worlds -/
theorem zpc {x y : va_W} (h : ∀ (i : DecidableEq (Nat × va_E)) (e : Nat × va_E), List.count e x = List.count e y) : x.Perm y := by
  have i : DecidableEq (Nat × va_E) := fun a b => Classical.propDecidable (a = b)
  exact List.perm_iff_count.mpr (h i)
def zTr (cA : Nat → ClassId) (g : Nat → Nat) (t : vTv) : va_W := [((g 0), .inr (9, [.ref (g 1), .ref (g 21), .ref (g 41), .ref (g 43), .ref (g 44)]))] ++ wX7 cA (g 1) (g 2) (g 3) (g 4) (g 5) (g 6) (g 7) (g 8) (g 9) (g 10) (g 11) (g 12) (g 13) (g 14) (g 15) (g 16) (g 17) (g 18) (g 19) (g 20) t.1 ++ wX7 cA (g 21) (g 22) (g 23) (g 24) (g 25) (g 26) (g 27) (g 28) (g 29) (g 30) (g 31) (g 32) (g 33) (g 34) (g 35) (g 36) (g 37) (g 38) (g 39) (g 40) t.2.1 ++ wHist cA (g 41) (g 42) t.2.2.1 ++ wRow cA (g 43) 2 t.2.2.2.1 ++ wX4 cA (g 44) (g 45) (g 46) (g 47) (g 48) (g 49) t.2.2.2.2
def zMd (cA : Nat → ClassId) (q : Nat → Nat) (w : vX10) : va_W := wX10 cA (q 0) (q 1) (q 2) (q 3) (q 4) (q 5) (q 6) (q 7) (q 8) (q 9) (q 10) (q 11) w
theorem zMet_r {l : Launch} {y : MethodName} {wds : List Cond} {rm : Room} {mc ms : Nat} {D : va_G} {tys : List (ClassId × FieldType)} {av : List Value} {ws wc wr : va_W} {P P' : Int32 → Prop} (h : Met l y wds rm (va_Pc av (zPreR D tys wc)) (vp_Si P) mc ms (fun _ => False)) (hp : ws.Perm (wr ++ wc)) (hP : ∀ x, P x → P' x) : Met l y wds rm (va_Pc av (zPreR D tys ws)) (vp_Si P') mc ms (fun _ => False) := by
  refine zMet_imp h (fun a U q => ⟨q.1, zP_right (zP_perm q.2.1 hp), q.2.2⟩) (fun a U o t q hq => ?_) (fun _ f => f)
  obtain ⟨r, e, p1, hh⟩ := hq
  exact ⟨r, e, hP r p1, hh⟩
section ZHP
variable {p : Program} {l : Launch} {e : Env} {R : Room} {s : State} {m : MethodId} {args : Array Value} {below : List Frame} {meth : Method} {c : Code} {H : Heap} {locs : List Loc} {cells slots : Nat} {Q : State → Prop}
variable {D : va_G} {A : Nat → Prop} {tys tysc : List (ClassId × FieldType)} {ws wc wr : va_W} {As rest st0 : List Value} {b pc mc ms : Nat} {ls : Array Slot} {a : Array Value} {free : Addr → Prop}
theorem z_Hp {S : Type} {post : Int32 → S → Prop} {w1 wt : S → va_W} (hr : va_Run p l e R s m args below meth c H locs cells slots mc ms (F0 m pc ls st0) rest (va_Qi post (fun u => zPost D tysc (va_A wc H.size) (w1 u)) (va_A wc H.size) a) (va_A wc H.size)) (hP : va_P D vwCl ws H) (hD : va_D A ws) (hS : va_S A s.heap H locs) (hA : ∀ q, s.heap.size ≤ q → A q) (hp : ws.Perm (wr ++ wc)) (ht : ∀ u, (wr ++ w1 u).Perm (wt u))
    (kk : ∀ (r : Int32) (u : S) (H1 : Heap) (locs1 : List Loc), post r u → va_P D vwCl (wt u) H1 → va_D A (wt u) → va_S A s.heap H1 locs1 → W p l e R s m args below meth c H1 locs1 (cells + mc) (slots + ms) Q (F0 m (pc + 3) ls (.int r :: rest))) : W p l e R s m args below meth c H locs cells slots Q (F0 m pc ls st0) := by
  have hF := z_fr (zD_perm hD hp) hS hA
  refine va_calli hr hS (fun q _ h => hF q h) hF (fun x u t H1 locs1 ht1 hvm hx hB hz hk hS1 => ?_)
  obtain ⟨hP1, -, hD1⟩ := hB
  rw [ht1] at hP1
  obtain ⟨g1, g2⟩ := z_aft (zP_perm hP hp) (zD_perm hD hp) hS hA hk hP1 hD1
  exact kk x u H1 locs1 hx (zP_perm g1 (ht u)) (zD_perm g2 (ht u)) hS1
end ZHP
abbrev pmN (w : vX10) : Nat := nT w.2.2.2.2.2.2.1
theorem rel_pm {t : vTv} {w : vX10} (h : Rel t w) : w.2.2.2.2.2.2.1 = nI (pmN w) ∧ pmN w ≤ 6 ∧ rHist t.2.2.1 w.2.2.2.2.1 w.2.2.2.2.2.1 (pmN w) := by
  obtain ⟨c, hc6, hc, hh⟩ := rel_c h
  have e : pmN w = c := by unfold pmN; rw [hc]; exact nT_nI (by omega)
  rw [e]; exact ⟨hc, hc6, hh⟩
theorem rel_legs {t : vTv} {w : vX10} (h : Rel t w) : w.1 3 = nI (nT (w.1 3)) ∧ nT (w.1 3) ≤ 8 := by
  have g := ok13 h.1.2.1.1.2.1
  exact ⟨g.2, g.1⟩
theorem rel_lines {t : vTv} {w : vX10} (h : Rel t w) : w.1 19 = nI (nT (w.1 19)) ∧ nT (w.1 19) ≤ 6 := ⟨nT_eq h.1.2.2.2.2.1.2.1.1, nT_le h.1.2.2.2.2.1.2.1.2⟩
theorem rel_chk {t : vTv} {w : vX10} (h : Rel t w) : w.1 15 = nI (nT (w.1 15)) ∧ nT (w.1 15) ≤ 5 := ⟨nT_eq h.1.2.2.2.2.1.2.2.2.2.1.1, nT_le h.1.2.2.2.2.1.2.2.2.2.1.2⟩
theorem rel_pad {t : vTv} {w : vX10} (h : Rel t w) : fq w = nI (nT (fq w)) ∧ nT (fq w) ≤ 80 := ⟨nT_eq h.2.2.2.2.1.1, nT_le h.2.2.2.2.1.2⟩
theorem rel_ch {t : vTv} {w : vX10} (h : Rel t w) : hCh t.2.2.2.2.1 := h.2.2.2.2.2.2
theorem rel_okR {t : vTv} {w : vX10} (h : Rel t w) : okR w.1 := (RS_MI h.1).1
theorem rel_okT {t : vTv} {w : vX10} (h : Rel t w) : okT w.1 := RS_okT h.1 (by decide)
theorem rel_okC {t : vTv} {w : vX10} (h : Rel t w) : okC t.1 := RS_okC h.1
theorem rel_MX {t : vTv} {w : vX10} (h : Rel t w) : MX w.1 := RS_MX h.1
theorem rel_26 {t : vTv} {w : vX10} (h : Rel t w) : 0 ≤ (w.1 26).toInt ∧ (w.1 26).toInt ≤ 500 := (h.1.1 6 (by decide)).2

set_option maxHeartbeats 4000000 in
theorem d_X9_set (l : Launch) (D : va_G) (cA : Nat → ClassId) (g : Nat → Nat) (sz : Nat) {t : vTv} {w : vX10} (x1 : Int32) (x2 : Int32) (hR : Rel t w) : Met l yX9_set wsX9_set ({ frames := 6, cells := 20, slots := 115, locals := 129 }) (va_Pc [.ref (g 0), .int x1, .int x2] (zPre D (zty cA) (zTr cA g t) sz)) (va_Qi (fun (x : Int32) (u : vTv) => x = (fm_set (pmN w) w x1 x2).1 ∧ Rel u (fm_set (pmN w) w x1 x2).2) (fun u => zPost D (zty cA) (va_A (zTr cA g t) sz) (zTr cA g u)) (va_A (zTr cA g t) sz)) 20 115 (va_A (zTr cA g t) sz) := by
  obtain ⟨S, f, v, rs, pd⟩ := t
  obtain ⟨hc, hc6, hh⟩ := rel_pm hR
  refine zMet_i (wr := (wX7 cA (g 21) (g 22) (g 23) (g 24) (g 25) (g 26) (g 27) (g 28) (g 29) (g 30) (g 31) (g 32) (g 33) (g 34) (g 35) (g 36) (g 37) (g 38) (g 39) (g 40) f ++ wRow cA (g 43) 2 rs ++ wX4 cA (g 44) (g 45) (g 46) (g 47) (g 48) (g 49) pd)) (c_X9_set l D cA (g 0) (g 21) (g 43) (g 44) (g 1) (g 2) (g 3) (g 4) (g 5) (g 6) (g 7) (g 8) (g 9) (g 10) (g 11) (g 12) (g 13) (g 14) (g 15) (g 16) (g 17) (g 18) (g 19) (g 20) (g 41) (g 42) sz S v x1 x2 hh.1) (zpc (fun _ e => by unfold zTr; simp only [List.count_append]; omega)) (fun r u p => ⟨(u.2.1, f, u.2.2, rs, pd), ?_, zpc (fun _ e => by unfold zTr; simp only [List.count_append]; omega)⟩)
  have ho := op_set (aa := u.1) hR hc hc6 x1 x2
  obtain ⟨p1, p2⟩ := z_pr p
  rw [p1, p2]; exact ho
set_option maxHeartbeats 4000000 in
theorem d_X9_start (l : Launch) (D : va_G) (cA : Nat → ClassId) (g : Nat → Nat) (sz : Nat) {t : vTv} {w : vX10} (x1 : Int32) (x2 : Int32) (hR : Rel t w) : Met l yX9_start wsX9_start ({ frames := 6, cells := 20, slots := 115, locals := 129 }) (va_Pc [.ref (g 0), .int x1, .int x2] (zPre D (zty cA) (zTr cA g t) sz)) (va_Qi (fun (x : Int32) (u : vTv) => x = (fm_start (pmN w) w x1 x2).1 ∧ Rel u (fm_start (pmN w) w x1 x2).2) (fun u => zPost D (zty cA) (va_A (zTr cA g t) sz) (zTr cA g u)) (va_A (zTr cA g t) sz)) 20 115 (va_A (zTr cA g t) sz) := by
  obtain ⟨S, f, v, rs, pd⟩ := t
  obtain ⟨hc, hc6, hh⟩ := rel_pm hR
  refine zMet_i (wr := (wX7 cA (g 21) (g 22) (g 23) (g 24) (g 25) (g 26) (g 27) (g 28) (g 29) (g 30) (g 31) (g 32) (g 33) (g 34) (g 35) (g 36) (g 37) (g 38) (g 39) (g 40) f ++ wRow cA (g 43) 2 rs ++ wX4 cA (g 44) (g 45) (g 46) (g 47) (g 48) (g 49) pd)) (c_X9_start l D cA (g 0) (g 21) (g 43) (g 44) (g 1) (g 2) (g 3) (g 4) (g 5) (g 6) (g 7) (g 8) (g 9) (g 10) (g 11) (g 12) (g 13) (g 14) (g 15) (g 16) (g 17) (g 18) (g 19) (g 20) (g 41) (g 42) sz S v x1 x2 hh.1) (zpc (fun _ e => by unfold zTr; simp only [List.count_append]; omega)) (fun r u p => ⟨(u.2.1, f, u.2.2, rs, pd), ?_, zpc (fun _ e => by unfold zTr; simp only [List.count_append]; omega)⟩)
  have ho := op_start (aa := u.1) hR hc hc6 x1 x2
  obtain ⟨p1, p2⟩ := z_pr p
  rw [p1, p2]; exact ho
set_option maxHeartbeats 4000000 in
theorem d_X9_place (l : Launch) (D : va_G) (cA : Nat → ClassId) (g : Nat → Nat) (sz : Nat) {t : vTv} {w : vX10} (x1 : Int32) (hR : Rel t w) : Met l yX9_place wsX9_place ({ frames := 6, cells := 20, slots := 115, locals := 129 }) (va_Pc [.ref (g 0), .int x1] (zPre D (zty cA) (zTr cA g t) sz)) (va_Qi (fun (x : Int32) (u : vTv) => x = (fm_place (pmN w) w x1).1 ∧ Rel u (fm_place (pmN w) w x1).2) (fun u => zPost D (zty cA) (va_A (zTr cA g t) sz) (zTr cA g u)) (va_A (zTr cA g t) sz)) 20 115 (va_A (zTr cA g t) sz) := by
  obtain ⟨S, f, v, rs, pd⟩ := t
  obtain ⟨hc, hc6, hh⟩ := rel_pm hR
  refine zMet_i (wr := (wX7 cA (g 21) (g 22) (g 23) (g 24) (g 25) (g 26) (g 27) (g 28) (g 29) (g 30) (g 31) (g 32) (g 33) (g 34) (g 35) (g 36) (g 37) (g 38) (g 39) (g 40) f ++ wRow cA (g 43) 2 rs ++ wX4 cA (g 44) (g 45) (g 46) (g 47) (g 48) (g 49) pd)) (c_X9_place l D cA (g 0) (g 21) (g 43) (g 44) (g 1) (g 2) (g 3) (g 4) (g 5) (g 6) (g 7) (g 8) (g 9) (g 10) (g 11) (g 12) (g 13) (g 14) (g 15) (g 16) (g 17) (g 18) (g 19) (g 20) (g 41) (g 42) sz S v x1 hh.1) (zpc (fun _ e => by unfold zTr; simp only [List.count_append]; omega)) (fun r u p => ⟨(u.2.1, f, u.2.2, rs, pd), ?_, zpc (fun _ e => by unfold zTr; simp only [List.count_append]; omega)⟩)
  have ho := op_place (aa := u.1) hR hc hc6 x1
  obtain ⟨p1, p2⟩ := z_pr p
  rw [p1, p2]; exact ho
set_option maxHeartbeats 4000000 in
theorem d_X9_line (l : Launch) (D : va_G) (cA : Nat → ClassId) (g : Nat → Nat) (sz : Nat) {t : vTv} {w : vX10} (x1 : Int32) (hR : Rel t w) : Met l yX9_line wsX9_line ({ frames := 6, cells := 20, slots := 115, locals := 129 }) (va_Pc [.ref (g 0), .int x1] (zPre D (zty cA) (zTr cA g t) sz)) (va_Qi (fun (x : Int32) (u : vTv) => x = (fm_line (pmN w) (nT (w.1 19)) w x1).1 ∧ Rel u (fm_line (pmN w) (nT (w.1 19)) w x1).2) (fun u => zPost D (zty cA) (va_A (zTr cA g t) sz) (zTr cA g u)) (va_A (zTr cA g t) sz)) 20 115 (va_A (zTr cA g t) sz) := by
  obtain ⟨S, f, v, rs, pd⟩ := t
  obtain ⟨hc, hc6, hh⟩ := rel_pm hR
  refine zMet_i (wr := (wX7 cA (g 21) (g 22) (g 23) (g 24) (g 25) (g 26) (g 27) (g 28) (g 29) (g 30) (g 31) (g 32) (g 33) (g 34) (g 35) (g 36) (g 37) (g 38) (g 39) (g 40) f ++ wRow cA (g 43) 2 rs ++ wX4 cA (g 44) (g 45) (g 46) (g 47) (g 48) (g 49) pd)) (c_X9_line l D cA (g 0) (g 21) (g 43) (g 44) (g 1) (g 2) (g 3) (g 4) (g 5) (g 6) (g 7) (g 8) (g 9) (g 10) (g 11) (g 12) (g 13) (g 14) (g 15) (g 16) (g 17) (g 18) (g 19) (g 20) (g 41) (g 42) sz S v x1 hh.1) (zpc (fun _ e => by unfold zTr; simp only [List.count_append]; omega)) (fun r u p => ⟨(u.2.1, f, u.2.2, rs, pd), ?_, zpc (fun _ e => by unfold zTr; simp only [List.count_append]; omega)⟩)
  have ho := op_line (aa := u.1) hR hc hc6 (rel_lines hR).1 (rel_lines hR).2 x1
  obtain ⟨p1, p2⟩ := z_pr p
  rw [p1, p2]; exact ho
set_option maxHeartbeats 4000000 in
theorem d_X9_steer (l : Launch) (D : va_G) (cA : Nat → ClassId) (g : Nat → Nat) (sz : Nat) {t : vTv} {w : vX10} (x1 : Int32) (x2 : Int32) (hR : Rel t w) : Met l yX9_steer wsX9_steer ({ frames := 6, cells := 20, slots := 115, locals := 129 }) (va_Pc [.ref (g 0), .int x1, .int x2] (zPre D (zty cA) (zTr cA g t) sz)) (va_Qi (fun (x : Int32) (u : vTv) => x = (fm_steer (pmN w) w x1 x2).1 ∧ Rel u (fm_steer (pmN w) w x1 x2).2) (fun u => zPost D (zty cA) (va_A (zTr cA g t) sz) (zTr cA g u)) (va_A (zTr cA g t) sz)) 20 115 (va_A (zTr cA g t) sz) := by
  obtain ⟨S, f, v, rs, pd⟩ := t
  obtain ⟨hc, hc6, hh⟩ := rel_pm hR
  refine zMet_i (wr := (wX7 cA (g 21) (g 22) (g 23) (g 24) (g 25) (g 26) (g 27) (g 28) (g 29) (g 30) (g 31) (g 32) (g 33) (g 34) (g 35) (g 36) (g 37) (g 38) (g 39) (g 40) f ++ wRow cA (g 43) 2 rs ++ wX4 cA (g 44) (g 45) (g 46) (g 47) (g 48) (g 49) pd)) (c_X9_steer l D cA (g 0) (g 21) (g 43) (g 44) (g 1) (g 2) (g 3) (g 4) (g 5) (g 6) (g 7) (g 8) (g 9) (g 10) (g 11) (g 12) (g 13) (g 14) (g 15) (g 16) (g 17) (g 18) (g 19) (g 20) (g 41) (g 42) sz S v x1 x2 hh.1) (zpc (fun _ e => by unfold zTr; simp only [List.count_append]; omega)) (fun r u p => ⟨(u.2.1, f, u.2.2, rs, pd), ?_, zpc (fun _ e => by unfold zTr; simp only [List.count_append]; omega)⟩)
  have ho := op_steer (aa := u.1) hR hc hc6 x1 x2
  obtain ⟨p1, p2⟩ := z_pr p
  rw [p1, p2]; exact ho
set_option maxHeartbeats 4000000 in
theorem d_X9_leg (l : Launch) (D : va_G) (cA : Nat → ClassId) (g : Nat → Nat) (sz : Nat) {t : vTv} {w : vX10} (x1 : Int32) (x2 : Int32) (x3 : Int32) (hR : Rel t w) : Met l yX9_leg wsX9_leg ({ frames := 6, cells := 20, slots := 115, locals := 129 }) (va_Pc [.ref (g 0), .int x1, .int x2, .int x3] (zPre D (zty cA) (zTr cA g t) sz)) (va_Qi (fun (x : Int32) (u : vTv) => x = (fm_leg (pmN w) (nT (w.1 3)) w x1 x2 x3).1 ∧ Rel u (fm_leg (pmN w) (nT (w.1 3)) w x1 x2 x3).2) (fun u => zPost D (zty cA) (va_A (zTr cA g t) sz) (zTr cA g u)) (va_A (zTr cA g t) sz)) 20 115 (va_A (zTr cA g t) sz) := by
  obtain ⟨S, f, v, rs, pd⟩ := t
  obtain ⟨hc, hc6, hh⟩ := rel_pm hR
  refine zMet_i (wr := (wX7 cA (g 21) (g 22) (g 23) (g 24) (g 25) (g 26) (g 27) (g 28) (g 29) (g 30) (g 31) (g 32) (g 33) (g 34) (g 35) (g 36) (g 37) (g 38) (g 39) (g 40) f ++ wRow cA (g 43) 2 rs ++ wX4 cA (g 44) (g 45) (g 46) (g 47) (g 48) (g 49) pd)) (c_X9_leg l D cA (g 0) (g 21) (g 43) (g 44) (g 1) (g 2) (g 3) (g 4) (g 5) (g 6) (g 7) (g 8) (g 9) (g 10) (g 11) (g 12) (g 13) (g 14) (g 15) (g 16) (g 17) (g 18) (g 19) (g 20) (g 41) (g 42) sz S v x1 x2 x3 hh.1) (zpc (fun _ e => by unfold zTr; simp only [List.count_append]; omega)) (fun r u p => ⟨(u.2.1, f, u.2.2, rs, pd), ?_, zpc (fun _ e => by unfold zTr; simp only [List.count_append]; omega)⟩)
  have ho := op_leg (aa := u.1) hR hc hc6 (rel_legs hR).1 (rel_legs hR).2 x1 x2 x3
  obtain ⟨p1, p2⟩ := z_pr p
  rw [p1, p2]; exact ho
set_option maxHeartbeats 4000000 in
theorem d_X9_pass (l : Launch) (D : va_G) (cA : Nat → ClassId) (g : Nat → Nat) (sz : Nat) {t : vTv} {w : vX10} (x1 : Int32) (hR : Rel t w) : Met l yX9_pass wsX9_pass ({ frames := 6, cells := 20, slots := 115, locals := 129 }) (va_Pc [.ref (g 0), .int x1] (zPre D (zty cA) (zTr cA g t) sz)) (va_Qi (fun (x : Int32) (u : vTv) => x = (fm_pass (pmN w) w x1).1 ∧ Rel u (fm_pass (pmN w) w x1).2) (fun u => zPost D (zty cA) (va_A (zTr cA g t) sz) (zTr cA g u)) (va_A (zTr cA g t) sz)) 20 115 (va_A (zTr cA g t) sz) := by
  obtain ⟨S, f, v, rs, pd⟩ := t
  obtain ⟨hc, hc6, hh⟩ := rel_pm hR
  refine zMet_i (wr := (wX7 cA (g 21) (g 22) (g 23) (g 24) (g 25) (g 26) (g 27) (g 28) (g 29) (g 30) (g 31) (g 32) (g 33) (g 34) (g 35) (g 36) (g 37) (g 38) (g 39) (g 40) f ++ wRow cA (g 43) 2 rs ++ wX4 cA (g 44) (g 45) (g 46) (g 47) (g 48) (g 49) pd)) (c_X9_pass l D cA (g 0) (g 21) (g 43) (g 44) (g 1) (g 2) (g 3) (g 4) (g 5) (g 6) (g 7) (g 8) (g 9) (g 10) (g 11) (g 12) (g 13) (g 14) (g 15) (g 16) (g 17) (g 18) (g 19) (g 20) (g 41) (g 42) sz S v x1 hh.1 (rel_okC hR)) (zpc (fun _ e => by unfold zTr; simp only [List.count_append]; omega)) (fun r u p => ⟨(u.2.1, f, u.2.2, rs, pd), ?_, zpc (fun _ e => by unfold zTr; simp only [List.count_append]; omega)⟩)
  have ho := op_pass (aa := u.1) hR hc hc6 x1
  obtain ⟨p1, p2⟩ := z_pr p
  rw [p1, p2]; exact ho
set_option maxHeartbeats 4000000 in
theorem d_X9_damp (l : Launch) (D : va_G) (cA : Nat → ClassId) (g : Nat → Nat) (sz : Nat) {t : vTv} {w : vX10} (x1 : Int32) (hR : Rel t w) : Met l yX9_damp wsX9_damp ({ frames := 6, cells := 20, slots := 115, locals := 129 }) (va_Pc [.ref (g 0), .int x1] (zPre D (zty cA) (zTr cA g t) sz)) (va_Qi (fun (x : Int32) (u : vTv) => x = (fm_damp (pmN w) w x1).1 ∧ Rel u (fm_damp (pmN w) w x1).2) (fun u => zPost D (zty cA) (va_A (zTr cA g t) sz) (zTr cA g u)) (va_A (zTr cA g t) sz)) 20 115 (va_A (zTr cA g t) sz) := by
  obtain ⟨S, f, v, rs, pd⟩ := t
  obtain ⟨hc, hc6, hh⟩ := rel_pm hR
  refine zMet_i (wr := (wX7 cA (g 21) (g 22) (g 23) (g 24) (g 25) (g 26) (g 27) (g 28) (g 29) (g 30) (g 31) (g 32) (g 33) (g 34) (g 35) (g 36) (g 37) (g 38) (g 39) (g 40) f ++ wRow cA (g 43) 2 rs ++ wX4 cA (g 44) (g 45) (g 46) (g 47) (g 48) (g 49) pd)) (c_X9_damp l D cA (g 0) (g 21) (g 43) (g 44) (g 1) (g 2) (g 3) (g 4) (g 5) (g 6) (g 7) (g 8) (g 9) (g 10) (g 11) (g 12) (g 13) (g 14) (g 15) (g 16) (g 17) (g 18) (g 19) (g 20) (g 41) (g 42) sz S v x1 hh.1) (zpc (fun _ e => by unfold zTr; simp only [List.count_append]; omega)) (fun r u p => ⟨(u.2.1, f, u.2.2, rs, pd), ?_, zpc (fun _ e => by unfold zTr; simp only [List.count_append]; omega)⟩)
  have ho := op_damp (aa := u.1) hR hc hc6 x1
  obtain ⟨p1, p2⟩ := z_pr p
  rw [p1, p2]; exact ho
set_option maxHeartbeats 4000000 in
theorem d_X9_correct (l : Launch) (D : va_G) (cA : Nat → ClassId) (g : Nat → Nat) (sz : Nat) {t : vTv} {w : vX10} (x1 : Int32) (x2 : Int32) (hR : Rel t w) : Met l yX9_correct wsX9_correct ({ frames := 6, cells := 20, slots := 115, locals := 129 }) (va_Pc [.ref (g 0), .int x1, .int x2] (zPre D (zty cA) (zTr cA g t) sz)) (va_Qi (fun (x : Int32) (u : vTv) => x = (fm_correct (pmN w) w x1 x2).1 ∧ Rel u (fm_correct (pmN w) w x1 x2).2) (fun u => zPost D (zty cA) (va_A (zTr cA g t) sz) (zTr cA g u)) (va_A (zTr cA g t) sz)) 20 115 (va_A (zTr cA g t) sz) := by
  obtain ⟨S, f, v, rs, pd⟩ := t
  obtain ⟨hc, hc6, hh⟩ := rel_pm hR
  refine zMet_i (wr := (wX7 cA (g 21) (g 22) (g 23) (g 24) (g 25) (g 26) (g 27) (g 28) (g 29) (g 30) (g 31) (g 32) (g 33) (g 34) (g 35) (g 36) (g 37) (g 38) (g 39) (g 40) f ++ wRow cA (g 43) 2 rs ++ wX4 cA (g 44) (g 45) (g 46) (g 47) (g 48) (g 49) pd)) (c_X9_correct l D cA (g 0) (g 21) (g 43) (g 44) (g 1) (g 2) (g 3) (g 4) (g 5) (g 6) (g 7) (g 8) (g 9) (g 10) (g 11) (g 12) (g 13) (g 14) (g 15) (g 16) (g 17) (g 18) (g 19) (g 20) (g 41) (g 42) sz S v x1 x2 hh.1) (zpc (fun _ e => by unfold zTr; simp only [List.count_append]; omega)) (fun r u p => ⟨(u.2.1, f, u.2.2, rs, pd), ?_, zpc (fun _ e => by unfold zTr; simp only [List.count_append]; omega)⟩)
  have ho := op_correct (aa := u.1) hR hc hc6 x1 x2
  obtain ⟨p1, p2⟩ := z_pr p
  rw [p1, p2]; exact ho
set_option maxHeartbeats 4000000 in
theorem d_X9_forgetSwings (l : Launch) (D : va_G) (cA : Nat → ClassId) (g : Nat → Nat) (sz : Nat) {t : vTv} {w : vX10} (hR : Rel t w) : Met l yX9_forgetSwings wsX9_forgetSwings ({ frames := 6, cells := 20, slots := 115, locals := 129 }) (va_Pc [.ref (g 0)] (zPre D (zty cA) (zTr cA g t) sz)) (va_Qi (fun (x : Int32) (u : vTv) => x = (fm_forget (pmN w) w).1 ∧ Rel u (fm_forget (pmN w) w).2) (fun u => zPost D (zty cA) (va_A (zTr cA g t) sz) (zTr cA g u)) (va_A (zTr cA g t) sz)) 20 115 (va_A (zTr cA g t) sz) := by
  obtain ⟨S, f, v, rs, pd⟩ := t
  obtain ⟨hc, hc6, hh⟩ := rel_pm hR
  refine zMet_i (wr := (wX7 cA (g 21) (g 22) (g 23) (g 24) (g 25) (g 26) (g 27) (g 28) (g 29) (g 30) (g 31) (g 32) (g 33) (g 34) (g 35) (g 36) (g 37) (g 38) (g 39) (g 40) f ++ wRow cA (g 43) 2 rs ++ wX4 cA (g 44) (g 45) (g 46) (g 47) (g 48) (g 49) pd)) (c_X9_forgetSwings l D cA (g 0) (g 21) (g 43) (g 44) (g 1) (g 2) (g 3) (g 4) (g 5) (g 6) (g 7) (g 8) (g 9) (g 10) (g 11) (g 12) (g 13) (g 14) (g 15) (g 16) (g 17) (g 18) (g 19) (g 20) (g 41) (g 42) sz S v  hh.1) (zpc (fun _ e => by unfold zTr; simp only [List.count_append]; omega)) (fun r u p => ⟨(u.2.1, f, u.2.2, rs, pd), ?_, zpc (fun _ e => by unfold zTr; simp only [List.count_append]; omega)⟩)
  have ho := op_forget (aa := u.1) hR hc hc6 
  obtain ⟨p1, p2⟩ := z_pr p
  rw [p1, p2]; exact ho
set_option maxHeartbeats 4000000 in
theorem d_X9_observe (l : Launch) (D : va_G) (cA : Nat → ClassId) (g : Nat → Nat) (sz : Nat) {t : vTv} {w : vX10} (x1 : Int32) (hR : Rel t w) : Met l yX9_observe wsX9_observe ({ frames := 6, cells := 20, slots := 115, locals := 129 }) (va_Pc [.ref (g 0), .int x1] (zPre D (zty cA) (zTr cA g t) sz)) (va_Qi (fun (x : Int32) (u : vTv) => x = (fm_obs (pmN w) (nT (w.1 15)) w x1).1 ∧ Rel u (fm_obs (pmN w) (nT (w.1 15)) w x1).2) (fun u => zPost D (zty cA) (va_A (zTr cA g t) sz) (zTr cA g u)) (va_A (zTr cA g t) sz)) 20 115 (va_A (zTr cA g t) sz) := by
  obtain ⟨S, f, v, rs, pd⟩ := t
  obtain ⟨hc, hc6, hh⟩ := rel_pm hR
  refine zMet_i (wr := (wX7 cA (g 21) (g 22) (g 23) (g 24) (g 25) (g 26) (g 27) (g 28) (g 29) (g 30) (g 31) (g 32) (g 33) (g 34) (g 35) (g 36) (g 37) (g 38) (g 39) (g 40) f ++ wRow cA (g 43) 2 rs ++ wX4 cA (g 44) (g 45) (g 46) (g 47) (g 48) (g 49) pd)) (c_X9_observe l D cA (g 0) (g 21) (g 43) (g 44) (g 1) (g 2) (g 3) (g 4) (g 5) (g 6) (g 7) (g 8) (g 9) (g 10) (g 11) (g 12) (g 13) (g 14) (g 15) (g 16) (g 17) (g 18) (g 19) (g 20) (g 41) (g 42) sz S v x1 hh.1) (zpc (fun _ e => by unfold zTr; simp only [List.count_append]; omega)) (fun r u p => ⟨(u.2.1, f, u.2.2, rs, pd), ?_, zpc (fun _ e => by unfold zTr; simp only [List.count_append]; omega)⟩)
  have ho := op_observe (aa := u.1) hR hc hc6 (rel_chk hR).1 (rel_chk hR).2 x1
  obtain ⟨p1, p2⟩ := z_pr p
  rw [p1, p2]; exact ho
set_option maxHeartbeats 4000000 in
theorem d_X9_guess (l : Launch) (D : va_G) (cA : Nat → ClassId) (g : Nat → Nat) (sz : Nat) {t : vTv} {w : vX10} (x1 : Int32) (hR : Rel t w) : Met l yX9_guess wsX9_guess ({ frames := 6, cells := 20, slots := 115, locals := 129 }) (va_Pc [.ref (g 0), .int x1] (zPre D (zty cA) (zTr cA g t) sz)) (va_Qi (fun (x : Int32) (u : vTv) => x = (fm_guess (pmN w) w x1).1 ∧ Rel u (fm_guess (pmN w) w x1).2) (fun u => zPost D (zty cA) (va_A (zTr cA g t) sz) (zTr cA g u)) (va_A (zTr cA g t) sz)) 20 115 (va_A (zTr cA g t) sz) := by
  obtain ⟨S, f, v, rs, pd⟩ := t
  obtain ⟨hc, hc6, hh⟩ := rel_pm hR
  refine zMet_i (wr := (wX7 cA (g 21) (g 22) (g 23) (g 24) (g 25) (g 26) (g 27) (g 28) (g 29) (g 30) (g 31) (g 32) (g 33) (g 34) (g 35) (g 36) (g 37) (g 38) (g 39) (g 40) f ++ wRow cA (g 43) 2 rs ++ wX4 cA (g 44) (g 45) (g 46) (g 47) (g 48) (g 49) pd)) (c_X9_guess l D cA (g 0) (g 21) (g 43) (g 44) (g 1) (g 2) (g 3) (g 4) (g 5) (g 6) (g 7) (g 8) (g 9) (g 10) (g 11) (g 12) (g 13) (g 14) (g 15) (g 16) (g 17) (g 18) (g 19) (g 20) (g 41) (g 42) sz S v x1 hh.1) (zpc (fun _ e => by unfold zTr; simp only [List.count_append]; omega)) (fun r u p => ⟨(u.2.1, f, u.2.2, rs, pd), ?_, zpc (fun _ e => by unfold zTr; simp only [List.count_append]; omega)⟩)
  have ho := op_guess (aa := u.1) hR hc hc6 x1
  obtain ⟨p1, p2⟩ := z_pr p
  rw [p1, p2]; exact ho
set_option maxHeartbeats 4000000 in
theorem d_X9_compass (l : Launch) (D : va_G) (cA : Nat → ClassId) (g : Nat → Nat) {t : vTv} {w : vX10} (x1 : Int32) (hR : Rel t w) : Met l yX9_compass wsX9_compass ({ frames := 4, cells := 0, slots := 0, locals := 105 }) (va_Pc [.ref (g 0), .int x1] (zPreR D (zty cA) (zTr cA g t))) (vp_Si (fun x => x = (fm_compass (nT (w.1 15)) w.1 w.2.1 x1))) 0 0 (fun _ => False) := by
  obtain ⟨S, f, v, rs, pd⟩ := t
  exact zMet_r (wr := (wX7 cA (g 21) (g 22) (g 23) (g 24) (g 25) (g 26) (g 27) (g 28) (g 29) (g 30) (g 31) (g 32) (g 33) (g 34) (g 35) (g 36) (g 37) (g 38) (g 39) (g 40) f ++ wHist cA (g 41) (g 42) v ++ wRow cA (g 43) 2 rs ++ wX4 cA (g 44) (g 45) (g 46) (g 47) (g 48) (g 49) pd)) (c_X9_compass l D cA (g 0) (g 21) (g 41) (g 43) (g 44) (g 1) (g 2) (g 3) (g 4) (g 5) (g 6) (g 7) (g 8) (g 9) (g 10) (g 11) (g 12) (g 13) (g 14) (g 15) (g 16) (g 17) (g 18) (g 19) (g 20) (nT (w.1 15)) S x1 (hR.1.2.2.2.2.1.2.2.2.1.trans (rel_chk hR).1) (rel_chk hR).2) (zpc (fun _ e => by unfold zTr; simp only [List.count_append]; omega)) (fun x hx => hx.trans (compass_eq hR.1 (by decide : (100000 : Int) ≤ 1000000) x1))
set_option maxHeartbeats 4000000 in
theorem d_X9_turn (l : Launch) (D : va_G) (cA : Nat → ClassId) (g : Nat → Nat) {t : vTv} {w : vX10} (x1 : Int32) (x2 : Int32) (hR : Rel t w) : Met l yX9_turn wsX9_turn ({ frames := 1, cells := 0, slots := 0, locals := 25 }) (va_Pc [.ref (g 0), .int x1, .int x2] (zPreR D (zty cA) (zTr cA g t))) (vp_Si (fun x => x = (fm_turn w.1 x1 x2))) 0 0 (fun _ => False) := by
  obtain ⟨S, f, v, rs, pd⟩ := t
  exact zMet_r (wr := (wX7 cA (g 21) (g 22) (g 23) (g 24) (g 25) (g 26) (g 27) (g 28) (g 29) (g 30) (g 31) (g 32) (g 33) (g 34) (g 35) (g 36) (g 37) (g 38) (g 39) (g 40) f ++ wHist cA (g 41) (g 42) v ++ wRow cA (g 43) 2 rs ++ wX4 cA (g 44) (g 45) (g 46) (g 47) (g 48) (g 49) pd)) (c_X9_turn l D cA (g 0) (g 21) (g 41) (g 43) (g 44) (g 1) (g 2) (g 3) (g 4) (g 5) (g 6) (g 7) (g 8) (g 9) (g 10) (g 11) (g 12) (g 13) (g 14) (g 15) (g 16) (g 17) (g 18) (g 19) (g 20) S x1 x2) (zpc (fun _ e => by unfold zTr; simp only [List.count_append]; omega)) (fun x hx => hx.trans (turn_eq hR.1 x1 x2))
set_option maxHeartbeats 4000000 in
theorem d_X9_check (l : Launch) (D : va_G) (cA : Nat → ClassId) (g : Nat → Nat) {t : vTv} {w : vX10} (x1 : Int32) (hR : Rel t w) : Met l yX9_check wsX9_check ({ frames := 1, cells := 0, slots := 0, locals := 25 }) (va_Pc [.ref (g 0), .int x1] (zPreR D (zty cA) (zTr cA g t))) (vp_Si (fun x => x = (fm_check w.1 x1))) 0 0 (fun _ => False) := by
  obtain ⟨S, f, v, rs, pd⟩ := t
  exact zMet_r (wr := (wX7 cA (g 21) (g 22) (g 23) (g 24) (g 25) (g 26) (g 27) (g 28) (g 29) (g 30) (g 31) (g 32) (g 33) (g 34) (g 35) (g 36) (g 37) (g 38) (g 39) (g 40) f ++ wHist cA (g 41) (g 42) v ++ wRow cA (g 43) 2 rs ++ wX4 cA (g 44) (g 45) (g 46) (g 47) (g 48) (g 49) pd)) (c_X9_check l D cA (g 0) (g 21) (g 41) (g 43) (g 44) (g 1) (g 2) (g 3) (g 4) (g 5) (g 6) (g 7) (g 8) (g 9) (g 10) (g 11) (g 12) (g 13) (g 14) (g 15) (g 16) (g 17) (g 18) (g 19) (g 20) S x1) (zpc (fun _ e => by unfold zTr; simp only [List.count_append]; omega)) (fun x hx => hx.trans (check_eq hR.1 x1))
set_option maxHeartbeats 4000000 in
theorem d_X9_reason (l : Launch) (D : va_G) (cA : Nat → ClassId) (g : Nat → Nat) {t : vTv} {w : vX10} (hR : Rel t w) : Met l yX9_reason wsX9_reason ({ frames := 3, cells := 0, slots := 0, locals := 69 }) (va_Pc [.ref (g 0)] (zPreR D (zty cA) (zTr cA g t))) (vp_Si (fun x => x = (fm_reason w.1 w.2.1))) 0 0 (fun _ => False) := by
  obtain ⟨S, f, v, rs, pd⟩ := t
  exact zMet_r (wr := (wX7 cA (g 21) (g 22) (g 23) (g 24) (g 25) (g 26) (g 27) (g 28) (g 29) (g 30) (g 31) (g 32) (g 33) (g 34) (g 35) (g 36) (g 37) (g 38) (g 39) (g 40) f ++ wHist cA (g 41) (g 42) v ++ wRow cA (g 43) 2 rs ++ wX4 cA (g 44) (g 45) (g 46) (g 47) (g 48) (g 49) pd)) (c_X9_reason l D cA (g 0) (g 21) (g 41) (g 43) (g 44) (g 1) (g 2) (g 3) (g 4) (g 5) (g 6) (g 7) (g 8) (g 9) (g 10) (g 11) (g 12) (g 13) (g 14) (g 15) (g 16) (g 17) (g 18) (g 19) (g 20) (nT (w.1 15)) S (hR.1.2.2.2.2.1.2.2.2.1.trans (rel_chk hR).1) (rel_chk hR).2) (zpc (fun _ e => by unfold zTr; simp only [List.count_append]; omega)) (fun x hx => hx.trans (reason_eq hR.1 (by decide : (100000 : Int) ≤ 1000000)))
set_option maxHeartbeats 4000000 in
theorem d_X9_state (l : Launch) (D : va_G) (cA : Nat → ClassId) (g : Nat → Nat) {t : vTv} {w : vX10} (x1 : Int32) (hR : Rel t w) : Met l yX9_state wsX9_state ({ frames := 3, cells := 0, slots := 0, locals := 62 }) (va_Pc [.ref (g 0), .int x1] (zPreR D (zty cA) (zTr cA g t))) (vp_Si (fun x => x = (fm_state w.1 w.2.2.2.2.2.2.1 w.2.2.2.2.2.2.2.2.2.2.2.1 x1))) 0 0 (fun _ => False) := by
  obtain ⟨S, f, v, rs, pd⟩ := t
  obtain ⟨hc, hc6, hh⟩ := rel_pm hR
  have e1 : wX1 cA (g 41) (g 42) (zRf v.1, nI v.2.1, v.2.2) = [((g 41), .inr (1, [.ref (g 42), .int (nI v.2.1), .int v.2.2]))] ++ [((g 42), .inl ((cA 4), 6, .inr (.inr (.inr (.inr (zRf v.1))))))] := rfl
  refine zMet_r (wr := (wX7 cA (g 21) (g 22) (g 23) (g 24) (g 25) (g 26) (g 27) (g 28) (g 29) (g 30) (g 31) (g 32) (g 33) (g 34) (g 35) (g 36) (g 37) (g 38) (g 39) (g 40) f ++ zRow cA v.1 6 ++ wRow cA (g 43) 2 rs)) (c_X9_state l D cA (g 0) (g 21) (g 43) (g 1) (g 2) (g 3) (g 4) (g 5) (g 6) (g 7) (g 8) (g 9) (g 10) (g 11) (g 12) (g 13) (g 14) (g 15) (g 16) (g 17) (g 18) (g 19) (g 20) (g 41) (g 42) (g 44) (g 45) (g 46) (g 47) (g 48) (g 49) S (zRf v.1, nI v.2.1, v.2.2) pd x1) (zpc (fun _ e => by rw [e1]; unfold zTr wHist wRow; simp only [List.count_append]; omega)) (fun x hx => hx.trans ?_)
  exact state_eq hR.1 (by decide : (100000 : Int) ≤ 1000000) _ pd _ _ x1 hR.2.2.2.1 (hh.2.2.1.trans hc.symm)
set_option maxHeartbeats 4000000 in
theorem d_X9_wave (l : Launch) (D : va_G) (cA : Nat → ClassId) (g : Nat → Nat) {t : vTv} {w : vX10} (x1 : Int32) (x2 : Int32) (hR : Rel t w) : Met l yX9_wave wsX9_wave ({ frames := 2, cells := 0, slots := 0, locals := 50 }) (va_Pc [.ref (g 0), .int x1, .int x2] (zPreR D (zty cA) (zTr cA g t))) (vp_Si (fun x => x = (fm_wave x1 x2))) 0 0 (fun _ => False) := by
  obtain ⟨S, f, v, rs, pd⟩ := t
  exact zMet_r (wr := (wX7 cA (g 1) (g 2) (g 3) (g 4) (g 5) (g 6) (g 7) (g 8) (g 9) (g 10) (g 11) (g 12) (g 13) (g 14) (g 15) (g 16) (g 17) (g 18) (g 19) (g 20) S ++ wX7 cA (g 21) (g 22) (g 23) (g 24) (g 25) (g 26) (g 27) (g 28) (g 29) (g 30) (g 31) (g 32) (g 33) (g 34) (g 35) (g 36) (g 37) (g 38) (g 39) (g 40) f ++ wHist cA (g 41) (g 42) v ++ wRow cA (g 43) 2 rs ++ wX4 cA (g 44) (g 45) (g 46) (g 47) (g 48) (g 49) pd)) (c_X9_wave l D cA (g 0) (g 1) (g 21) (g 41) (g 43) (g 44) x1 x2) (zpc (fun _ e => by unfold zTr; simp only [List.count_append]; omega)) (fun x hx => hx.trans (wave_eq x1 x2))
set_option maxHeartbeats 4000000 in
theorem d_X9_restAt (l : Launch) (D : va_G) (cA : Nat → ClassId) (g : Nat → Nat) {t : vTv} {w : vX10} (x1 : Int32) (x2 : Int32) (x3 : Int32) (hR : Rel t w) : Met l yX9_restAt wsX9_restAt ({ frames := 3, cells := 0, slots := 0, locals := 83 }) (va_Pc [.ref (g 0), .int x1, .int x2, .int x3] (zPreR D (zty cA) (zTr cA g t))) (vp_Si (fun x => x = (fm_restAt w.1 x1 x2 x3))) 0 0 (fun _ => False) := by
  obtain ⟨S, f, v, rs, pd⟩ := t
  exact zMet_r (wr := (wX7 cA (g 21) (g 22) (g 23) (g 24) (g 25) (g 26) (g 27) (g 28) (g 29) (g 30) (g 31) (g 32) (g 33) (g 34) (g 35) (g 36) (g 37) (g 38) (g 39) (g 40) f ++ wHist cA (g 41) (g 42) v ++ wRow cA (g 43) 2 rs ++ wX4 cA (g 44) (g 45) (g 46) (g 47) (g 48) (g 49) pd)) (c_X9_restAt l D cA (g 0) (g 21) (g 41) (g 43) (g 44) (g 1) (g 2) (g 3) (g 4) (g 5) (g 6) (g 7) (g 8) (g 9) (g 10) (g 11) (g 12) (g 13) (g 14) (g 15) (g 16) (g 17) (g 18) (g 19) (g 20) S x1 x2 x3) (zpc (fun _ e => by unfold zTr; simp only [List.count_append]; omega)) (fun x hx => hx.trans (restAt_eq hR.1 x1 x2 x3))
set_option maxHeartbeats 4000000 in
theorem d_X9_calmIn (l : Launch) (D : va_G) (cA : Nat → ClassId) (g : Nat → Nat) (sz : Nat) {t : vTv} {w : vX10} (x1 : Int32) (x2 : Int32) (hR : Rel t w) : Met l yX9_calmIn wsX9_calmIn ({ frames := 6, cells := 0, slots := 0, locals := 153 }) (va_Pc [.ref (g 0), .int x1, .int x2] (zPre D (zty cA) (zTr cA g t) sz)) (va_Qi (fun (x : Int32) (u : vTv) => x = (fm_calmIn w x1 x2).1 ∧ Rel u (fm_calmIn w x1 x2).2) (fun u => zPost D (zty cA) (va_A (zTr cA g t) sz) (zTr cA g u)) (va_A (zTr cA g t) sz)) 0 0 (va_A (zTr cA g t) sz) := by
  obtain ⟨S, f, v, rs, pd⟩ := t
  obtain ⟨hc, hc6, hh⟩ := rel_pm hR
  refine zMet_i (wr := (wHist cA (g 41) (g 42) v ++ wRow cA (g 43) 2 rs ++ wX4 cA (g 44) (g 45) (g 46) (g 47) (g 48) (g 49) pd)) (c_X9_calmIn l D cA (g 0) (g 41) (g 43) (g 44) (g 1) (g 2) (g 3) (g 4) (g 5) (g 6) (g 7) (g 8) (g 9) (g 10) (g 11) (g 12) (g 13) (g 14) (g 15) (g 16) (g 17) (g 18) (g 19) (g 20) (g 21) (g 22) (g 23) (g 24) (g 25) (g 26) (g 27) (g 28) (g 29) (g 30) (g 31) (g 32) (g 33) (g 34) (g 35) (g 36) (g 37) (g 38) (g 39) (g 40) sz S f x1 x2 (rel_okC hR)) (zpc (fun _ e => by unfold zTr; simp only [List.count_append]; omega)) (fun r u p => ⟨(S, u, v, rs, pd), ?_, zpc (fun _ e => by unfold zTr; simp only [List.count_append]; omega)⟩)
  have ho := op_calmIn hR x1 x2
  obtain ⟨p1, p2⟩ := z_pr p
  rw [p1, p2]; exact ho
set_option maxHeartbeats 4000000 in
theorem d_X9_bestLevel (l : Launch) (D : va_G) (cA : Nat → ClassId) (g : Nat → Nat) (sz : Nat) {t : vTv} {w : vX10} (x1 : Int32) (x2 : Int32) (hR : Rel t w) : Met l yX9_bestLevel wsX9_bestLevel ({ frames := 6, cells := 0, slots := 0, locals := 153 }) (va_Pc [.ref (g 0), .int x1, .int x2] (zPre D (zty cA) (zTr cA g t) sz)) (va_Qi (fun (x : Int32) (u : vTv) => x = (fm_best w x1 x2).1 ∧ Rel u (fm_best w x1 x2).2) (fun u => zPost D (zty cA) (va_A (zTr cA g t) sz) (zTr cA g u)) (va_A (zTr cA g t) sz)) 0 0 (va_A (zTr cA g t) sz) := by
  obtain ⟨S, f, v, rs, pd⟩ := t
  obtain ⟨hc, hc6, hh⟩ := rel_pm hR
  refine zMet_i (wr := (wHist cA (g 41) (g 42) v ++ wRow cA (g 43) 2 rs ++ wX4 cA (g 44) (g 45) (g 46) (g 47) (g 48) (g 49) pd)) (c_X9_bestLevel l D cA (g 0) (g 41) (g 43) (g 44) (g 1) (g 2) (g 3) (g 4) (g 5) (g 6) (g 7) (g 8) (g 9) (g 10) (g 11) (g 12) (g 13) (g 14) (g 15) (g 16) (g 17) (g 18) (g 19) (g 20) (g 21) (g 22) (g 23) (g 24) (g 25) (g 26) (g 27) (g 28) (g 29) (g 30) (g 31) (g 32) (g 33) (g 34) (g 35) (g 36) (g 37) (g 38) (g 39) (g 40) sz S f x1 x2 (rel_okC hR)) (zpc (fun _ e => by unfold zTr; simp only [List.count_append]; omega)) (fun r u p => ⟨(S, u, v, rs, pd), ?_, zpc (fun _ e => by unfold zTr; simp only [List.count_append]; omega)⟩)
  have ho := op_best hR x1 x2
  obtain ⟨p1, p2⟩ := z_pr p
  rw [p1, p2]; exact ho
set_option maxHeartbeats 4000000 in
theorem d_X9_put (l : Launch) (D : va_G) (cA : Nat → ClassId) (g : Nat → Nat) (sz : Nat) {t : vTv} {w : vX10} (x1 : Int64) (hR : Rel t w) : Met l yX9_put wsX9_put ({ frames := 2, cells := 0, slots := 0, locals := 50 }) (va_Pc [.ref (g 0), .long x1] (zPre D (zty cA) (zTr cA g t) sz)) (va_Qi (fun (x : Int32) (u : vTv) => x = (fm_put (nT (fq w)) w x1).1 ∧ Rel u (fm_put (nT (fq w)) w x1).2) (fun u => zPost D (zty cA) (va_A (zTr cA g t) sz) (zTr cA g u)) (va_A (zTr cA g t) sz)) 0 0 (va_A (zTr cA g t) sz) := by
  obtain ⟨S, f, v, rs, pd⟩ := t
  obtain ⟨hc, hc6, hh⟩ := rel_pm hR
  refine zMet_i (wr := (wX7 cA (g 1) (g 2) (g 3) (g 4) (g 5) (g 6) (g 7) (g 8) (g 9) (g 10) (g 11) (g 12) (g 13) (g 14) (g 15) (g 16) (g 17) (g 18) (g 19) (g 20) S ++ wX7 cA (g 21) (g 22) (g 23) (g 24) (g 25) (g 26) (g 27) (g 28) (g 29) (g 30) (g 31) (g 32) (g 33) (g 34) (g 35) (g 36) (g 37) (g 38) (g 39) (g 40) f ++ wHist cA (g 41) (g 42) v ++ wRow cA (g 43) 2 rs)) (c_X9_put l D cA (g 0) (g 1) (g 21) (g 41) (g 43) (g 44) (g 45) (g 46) (g 47) (g 48) (g 49) sz pd x1) (zpc (fun _ e => by unfold zTr; simp only [List.count_append]; omega)) (fun r u p => ⟨(S, f, v, rs, u), ?_, zpc (fun _ e => by unfold zTr; simp only [List.count_append]; omega)⟩)
  have ho := op_put hR (rel_pad hR).1 (rel_pad hR).2 x1
  obtain ⟨p1, p2⟩ := z_pr p
  rw [p1, p2]; exact ho
set_option maxHeartbeats 4000000 in
theorem d_X9_wipe (l : Launch) (D : va_G) (cA : Nat → ClassId) (g : Nat → Nat) (sz : Nat) {t : vTv} {w : vX10} (hR : Rel t w) : Met l yX9_wipe wsX9_wipe ({ frames := 0, cells := 0, slots := 0, locals := 0 }) (va_Pc [.ref (g 0)] (zPre D (zty cA) (zTr cA g t) sz)) (va_Qi (fun (x : Int32) (u : vTv) => x = (fm_wipe w).1 ∧ Rel u (fm_wipe w).2) (fun u => zPost D (zty cA) (va_A (zTr cA g t) sz) (zTr cA g u)) (va_A (zTr cA g t) sz)) 0 0 (va_A (zTr cA g t) sz) := by
  obtain ⟨S, f, v, rs, pd⟩ := t
  obtain ⟨hc, hc6, hh⟩ := rel_pm hR
  refine zMet_i (wr := (wX7 cA (g 1) (g 2) (g 3) (g 4) (g 5) (g 6) (g 7) (g 8) (g 9) (g 10) (g 11) (g 12) (g 13) (g 14) (g 15) (g 16) (g 17) (g 18) (g 19) (g 20) S ++ wX7 cA (g 21) (g 22) (g 23) (g 24) (g 25) (g 26) (g 27) (g 28) (g 29) (g 30) (g 31) (g 32) (g 33) (g 34) (g 35) (g 36) (g 37) (g 38) (g 39) (g 40) f ++ wHist cA (g 41) (g 42) v ++ wRow cA (g 43) 2 rs)) (c_X9_wipe l D cA (g 0) (g 1) (g 21) (g 41) (g 43) (g 44) (g 45) (g 46) (g 47) (g 48) (g 49) sz pd) (zpc (fun _ e => by unfold zTr; simp only [List.count_append]; omega)) (fun r u p => ⟨(S, f, v, rs, u), ?_, zpc (fun _ e => by unfold zTr; simp only [List.count_append]; omega)⟩)
  have ho := op_wipe hR
  obtain ⟨p1, p2⟩ := z_pr p
  rw [p1, p2]; exact ho
set_option maxHeartbeats 4000000 in
theorem d_X9_fault (l : Launch) (D : va_G) (cA : Nat → ClassId) (g : Nat → Nat) (sz : Nat) {t : vTv} {w : vX10} (hR : Rel t w) : Met l yX9_fault wsX9_fault ({ frames := 5, cells := 0, slots := 0, locals := 111 }) (va_Pc [.ref (g 0)] (zPre D (zty cA) (zTr cA g t) sz)) (va_Qi (fun (x : Int32) (u : vTv) => x = (fm_fault w).1 ∧ Rel u (fm_fault w).2) (fun u => zPost D (zty cA) (va_A (zTr cA g t) sz) (zTr cA g u)) (va_A (zTr cA g t) sz)) 0 0 (va_A (zTr cA g t) sz) := by
  obtain ⟨S, f, v, rs, pd⟩ := t
  obtain ⟨hc, hc6, hh⟩ := rel_pm hR
  refine zMet_i (wr := (wX7 cA (g 1) (g 2) (g 3) (g 4) (g 5) (g 6) (g 7) (g 8) (g 9) (g 10) (g 11) (g 12) (g 13) (g 14) (g 15) (g 16) (g 17) (g 18) (g 19) (g 20) S ++ wX7 cA (g 21) (g 22) (g 23) (g 24) (g 25) (g 26) (g 27) (g 28) (g 29) (g 30) (g 31) (g 32) (g 33) (g 34) (g 35) (g 36) (g 37) (g 38) (g 39) (g 40) f ++ wHist cA (g 41) (g 42) v ++ wRow cA (g 43) 2 rs)) (c_X9_fault l D cA (g 0) (g 1) (g 21) (g 41) (g 43) (g 44) (g 45) (g 46) (g 47) (g 48) (g 49) sz pd (rel_ch hR)) (zpc (fun _ e => by unfold zTr; simp only [List.count_append]; omega)) (fun r u p => ⟨(S, f, v, rs, u), ?_, zpc (fun _ e => by unfold zTr; simp only [List.count_append]; omega)⟩)
  have ho := op_fault hR
  obtain ⟨p1, p2⟩ := z_pr p
  rw [p1, p2]; exact ho
set_option maxHeartbeats 4000000 in
theorem d_X9_load (l : Launch) (D : va_G) (cA : Nat → ClassId) (g : Nat → Nat) (sz : Nat) {t : vTv} {w : vX10} (hR : Rel t w) : Met l yX9_load wsX9_load ({ frames := 6, cells := 20, slots := 115, locals := 129 }) (va_Pc [.ref (g 0)] (zPre D (zty cA) (zTr cA g t) sz)) (va_Qi (fun (x : Int32) (u : vTv) => x = (fm_load (pmN w) (nT (w.1 3)) w).1 ∧ Rel u (fm_load (pmN w) (nT (w.1 3)) w).2) (fun u => zPost D (zty cA) (va_A (zTr cA g t) sz) (zTr cA g u)) (va_A (zTr cA g t) sz)) 20 115 (va_A (zTr cA g t) sz) := by
  obtain ⟨S, f, v, rs, pd⟩ := t
  obtain ⟨hc, hc6, hh⟩ := rel_pm hR
  obtain ⟨⟨-, -, n, hn13, hgn⟩, -⟩ := read_eq hR.2.2.2
  refine zMet_i (wr := (wX7 cA (g 21) (g 22) (g 23) (g 24) (g 25) (g 26) (g 27) (g 28) (g 29) (g 30) (g 31) (g 32) (g 33) (g 34) (g 35) (g 36) (g 37) (g 38) (g 39) (g 40) f ++ wRow cA (g 43) 2 rs)) (c_X9_load l D cA (g 0) (g 21) (g 43) (g 1) (g 2) (g 3) (g 4) (g 5) (g 6) (g 7) (g 8) (g 9) (g 10) (g 11) (g 12) (g 13) (g 14) (g 15) (g 16) (g 17) (g 18) (g 19) (g 20) (g 44) (g 45) (g 46) (g 47) (g 48) (g 49) (g 41) (g 42) sz S pd v n hh.1 (rel_ch hR) hn13 hgn) (zpc (fun _ e => by unfold zTr; simp only [List.count_append]; omega)) (fun r u p => ⟨(u.2.1, f, u.2.2.2, rs, u.2.2.1), ?_, zpc (fun _ e => by unfold zTr; simp only [List.count_append]; omega)⟩)
  have ho := op_load (aa := u.1) hR hc hc6 (rel_legs hR).1 (rel_legs hR).2
  obtain ⟨p1, p2⟩ := z_pr p
  rw [p1, p2]; exact ho
set_option maxHeartbeats 4000000 in
theorem d_X9_undo (l : Launch) (D : va_G) (cA : Nat → ClassId) (g : Nat → Nat) (sz : Nat) {t : vTv} {w : vX10} (hR : Rel t w) : Met l yX9_undo wsX9_undo ({ frames := 5, cells := 0, slots := 0, locals := 108 }) (va_Pc [.ref (g 0)] (zPre D (zty cA) (zTr cA g t) sz)) (va_Qi (fun (x : Int32) (u : vTv) => x = (fm_undo (pmN w) w).1 ∧ Rel u (fm_undo (pmN w) w).2) (fun u => zPost D (zty cA) (va_A (zTr cA g t) sz) (zTr cA g u)) (va_A (zTr cA g t) sz)) 0 0 (va_A (zTr cA g t) sz) := by
  obtain ⟨S, f, v, rs, pd⟩ := t
  obtain ⟨hc, hc6, hh⟩ := rel_pm hR
  have hV : ∃ (b : Nat → Nat) (V : vX7), (0 < pmN w → v.1 ((v.2.1 + 5) % 6) = some (b, V)) ∧ (0 < pmN w → RS 100000 V (zrd (85 * (pmN w - 1)) w.2.2.2.2.1) (zrd (9 * (pmN w - 1)) w.2.2.2.2.2.1)) := by
    by_cases c0 : 0 < pmN w
    · obtain ⟨b, V, h1, h2⟩ := undo_top hh c0
      exact ⟨b, V, fun _ => h1, fun _ => h2⟩
    · exact ⟨fun _ => 0, S, fun q => absurd q c0, fun q => absurd q c0⟩
  obtain ⟨b, V, hV1, hV2⟩ := hV
  refine zMet_i (wr := (wX7 cA (g 21) (g 22) (g 23) (g 24) (g 25) (g 26) (g 27) (g 28) (g 29) (g 30) (g 31) (g 32) (g 33) (g 34) (g 35) (g 36) (g 37) (g 38) (g 39) (g 40) f ++ wRow cA (g 43) 2 rs ++ wX4 cA (g 44) (g 45) (g 46) (g 47) (g 48) (g 49) pd)) (c_X9_undo l D cA (g 0) (g 21) (g 43) (g 44) (g 1) (g 2) (g 3) (g 4) (g 5) (g 6) (g 7) (g 8) (g 9) (g 10) (g 11) (g 12) (g 13) (g 14) (g 15) (g 16) (g 17) (g 18) (g 19) (g 20) (g 41) (g 42) sz S v V b (pmN w) hh.1 hh.2.2.1 hc6 hV1) (zpc (fun _ e => by unfold zTr; simp only [List.count_append]; omega)) (fun r u p => ⟨(u.2.1, f, u.2.2, rs, pd), ?_, zpc (fun _ e => by unfold zTr; simp only [List.count_append]; omega)⟩)
  have ho := op_undo hR hc hc6 hV2
  obtain ⟨p1, p2⟩ := z_pr p
  rw [p1, p2]; exact ho
set_option maxHeartbeats 4000000 in
theorem d_X9_save (l : Launch) (D : va_G) (cA : Nat → ClassId) (g : Nat → Nat) (sz : Nat) {t : vTv} {w : vX10} (x1 : Int32) (hR : Rel t w) : Met l yX9_save wsX9_save ({ frames := 5, cells := 20, slots := 115, locals := 108 }) (va_Pc [.ref (g 0), .int x1] (zPre D (zty cA) (zTr cA g t) sz)) (va_Qi (fun (x : Int32) (u : vTv) => x = (fm_saveX w x1).1 ∧ Rel u (fm_saveX w x1).2) (fun u => zPost D (zty cA) (va_A (zTr cA g t) sz) (zTr cA g u)) (va_A (zTr cA g t) sz)) 20 115 (va_A (zTr cA g t) sz) := by
  obtain ⟨S, f, v, rs, pd⟩ := t
  obtain ⟨hc, hc6, hh⟩ := rel_pm hR
  refine zMet_i (wr := (wX7 cA (g 21) (g 22) (g 23) (g 24) (g 25) (g 26) (g 27) (g 28) (g 29) (g 30) (g 31) (g 32) (g 33) (g 34) (g 35) (g 36) (g 37) (g 38) (g 39) (g 40) f ++ wHist cA (g 41) (g 42) v ++ wX4 cA (g 44) (g 45) (g 46) (g 47) (g 48) (g 49) pd)) (c_X9_save l D cA (g 0) (g 21) (g 41) (g 44) (g 1) (g 2) (g 3) (g 4) (g 5) (g 6) (g 7) (g 8) (g 9) (g 10) (g 11) (g 12) (g 13) (g 14) (g 15) (g 16) (g 17) (g 18) (g 19) (g 20) (g 43) sz S rs x1) (zpc (fun _ e => by unfold zTr wRow; simp only [List.count_append]; omega)) (fun r u p => ⟨(S, f, v, u.2, pd), ?_, zpc (fun _ e => by unfold zTr wRow; simp only [List.count_append]; omega)⟩)
  have ho := op_save (aa := u.1) hR x1
  obtain ⟨p1, p2⟩ := z_pr p
  rw [p1, p2]; exact ho
set_option maxHeartbeats 4000000 in
theorem d_X9_restore (l : Launch) (D : va_G) (cA : Nat → ClassId) (g : Nat → Nat) (sz : Nat) {t : vTv} {w : vX10} (x1 : Int32) (hR : Rel t w) : Met l yX9_restore wsX9_restore ({ frames := 6, cells := 20, slots := 115, locals := 129 }) (va_Pc [.ref (g 0), .int x1] (zPre D (zty cA) (zTr cA g t) sz)) (va_Qi (fun (x : Int32) (u : vTv) => x = (fm_restX (pmN w) w x1).1 ∧ Rel u (fm_restX (pmN w) w x1).2) (fun u => zPost D (zty cA) (va_A (zTr cA g t) sz) (zTr cA g u)) (va_A (zTr cA g t) sz)) 20 115 (va_A (zTr cA g t) sz) := by
  obtain ⟨S, f, v, rs, pd⟩ := t
  obtain ⟨hc, hc6, hh⟩ := rel_pm hR
  refine zMet_i (wr := (wX7 cA (g 21) (g 22) (g 23) (g 24) (g 25) (g 26) (g 27) (g 28) (g 29) (g 30) (g 31) (g 32) (g 33) (g 34) (g 35) (g 36) (g 37) (g 38) (g 39) (g 40) f ++ wX4 cA (g 44) (g 45) (g 46) (g 47) (g 48) (g 49) pd)) (c_X9_restore l D cA (g 0) (g 21) (g 44) (g 1) (g 2) (g 3) (g 4) (g 5) (g 6) (g 7) (g 8) (g 9) (g 10) (g 11) (g 12) (g 13) (g 14) (g 15) (g 16) (g 17) (g 18) (g 19) (g 20) (g 41) (g 42) (g 43) sz S v rs x1 hh.1) (zpc (fun _ e => by unfold zTr wRow; simp only [List.count_append]; omega)) (fun r u p => ⟨(u.2.1, f, u.2.2, rs, pd), ?_, zpc (fun _ e => by unfold zTr wRow; simp only [List.count_append]; omega)⟩)
  have ho := op_restore (aa := u.1) hR hc hc6 x1
  obtain ⟨p1, p2⟩ := z_pr p
  rw [p1, p2]; exact ho
