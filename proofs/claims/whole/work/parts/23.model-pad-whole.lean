/-! the other side's pad read whole -/
def fm_f0 (v : vX10) : vX10 := fm_sp v 0 0 (frd v) 0
def fm_s1 (v : vX10) : vX10 := fm_sp v (fs v + 1) (fw v) (frd v) (frm v)
def fm_fl : Nat → Nat → vX10 → vX10
  | 0, _, v => v
  | d + 1, r, v => if fw v = 0 then (if fm_nx (fp v) (fq v) (fs v) = 59 then fm_fl d (r + 1) (fm_tleg r (fm_s1 v)) else v) else v
theorem fm_fl_s {d r : Nat} {v : vX10} (h : 0 < d) (c1 : fw v = 0) (c2 : fm_nx (fp v) (fq v) (fs v) = 59) : fm_fl d r v = fm_fl (d - 1) (r + 1) (fm_tleg r (fm_s1 v)) := by
  obtain ⟨j, rfl⟩ : ∃ j, d = j + 1 := ⟨d - 1, by omega⟩
  show (if fw v = 0 then _ else _) = _
  rw [if_pos c1, if_pos c2, Nat.add_sub_cancel]
theorem fm_fl_e {d r : Nat} {v : vX10} (h : ¬ fw v = 0 ∨ ¬ fm_nx (fp v) (fq v) (fs v) = 59) : fm_fl d r v = v := by
  cases d
  · rfl
  · show (if fw v = 0 then _ else _) = _
    by_cases c1 : fw v = 0
    · rw [if_pos c1, if_neg (h.resolve_left (fun h => h c1))]
    · rw [if_neg c1]
theorem f0_B {q0 : Nat} {v : vX10} (hq : fq v = nI q0) : hB q0 (fm_f0 v) := ⟨hq, Int.le_refl 0, Int.natCast_nonneg q0⟩
theorem s1_B {q0 : Nat} {v : vX10} (h8 : q0 ≤ 80) (h : hB q0 v) (c2 : fm_nx (fp v) (fq v) (fs v) = 59) : (fs v).toInt < q0 ∧ hB q0 (fm_s1 v) ∧ (fs (fm_s1 v)).toInt = (fs v).toInt + 1 := by
  have h3 := z_nxk h.1 h8 h.2.1 (by decide) c2
  have h5 : (fs v + 1).toInt = (fs v).toInt + 1 := zi_add (by rw [show (1 : Int32).toInt = 1 from rfl]; have := h.2.1; omega) (by rw [show (1 : Int32).toInt = 1 from rfl]; omega)
  refine ⟨h3, ⟨h.1, ?_, ?_⟩, h5⟩
  · show 0 ≤ (fs v + 1).toInt; rw [h5]; have := h.2.1; omega
  · show (fs v + 1).toInt ≤ q0; rw [h5]; omega
/-- what a run of legs keeps: r legs read, w stands behind them -/
def hFL (q0 r : Nat) (w : vX10) : Prop := hB q0 w ∧ frm w = nI r ∧ r ≤ 12 ∧ 1 ≤ r ∧ (fw w = 0 → 7 * (r : Int) ≤ (fs w).toInt + 1)
theorem fl_0 {q0 : Nat} {v : vX10} (h8 : q0 ≤ 80) (hq : fq v = nI q0) : hFL q0 1 (fm_tleg 0 (fm_f0 v)) := by
  refine ⟨tleg_B h8 (f0_B hq), ?_, by omega, by omega, fun hw => ?_⟩
  · rw [tleg_m]; rfl
  · have h := tleg_p h8 (f0_B hq) hw
    have h0 : (fs (fm_f0 v)).toInt = 0 := rfl
    omega
theorem fl_1 {q0 r : Nat} {w : vX10} (h8 : q0 ≤ 80) (h : hFL q0 r w) (c1 : fw w = 0) (c2 : fm_nx (fp w) (fq w) (fs w) = 59) : r ≤ 11 ∧ hFL q0 (r + 1) (fm_tleg r (fm_s1 w)) := by
  obtain ⟨h1, h2, h3⟩ := s1_B h8 h.1 c2
  have h4 := h.2.2.2.2 c1
  have h5 : r ≤ 11 := by omega
  refine ⟨h5, tleg_B h8 h2, ?_, by omega, by omega, fun hw => ?_⟩
  · rw [tleg_m, show frm (fm_s1 w) = frm w from rfl, h.2.1]; exact nI_1 r
  · have h6 := tleg_p h8 h2 hw
    push_cast
    omega
theorem fl_n {q0 : Nat} (h8 : q0 ≤ 80) : ∀ (d r : Nat) (w : vX10), hFL q0 r w → ∃ r', hFL q0 r' (fm_fl d r w)
  | 0, r, w, h => ⟨r, h⟩
  | d + 1, r, w, h => by
    by_cases c1 : fw w = 0
    · by_cases c2 : fm_nx (fp w) (fq w) (fs w) = 59
      · rw [fm_fl_s (by omega) c1 c2]; exact fl_n h8 _ _ _ (fl_1 h8 h c1 c2).2
      · rw [fm_fl_e (Or.inr c2)]; exact ⟨r, h⟩
    · rw [fm_fl_e (Or.inl c1)]; exact ⟨r, h⟩
/-- two of them differ in what reading changes alone -/
def hSp (v w : vX10) : Prop := w = fm_sp v (fs w) (fw w) (frd w) (frm w)
theorem hSp.tr {u v w : vX10} (h1 : hSp u v) (h2 : hSp v w) : hSp u w := by
  unfold hSp at h1 h2 ⊢
  generalize fs w = a at h2 ⊢; generalize fw w = b at h2 ⊢; generalize frd w = c at h2 ⊢; generalize frm w = d at h2 ⊢
  rw [h2, h1]; rfl
theorem need_S (v : vX10) (c : Int32) : hSp v (fm_need v c) := rfl
theorem rd_S (v : vX10) (k : Nat) (x : Int32) : hSp v (fm_rd v k x) := rfl
theorem rm1_S (v : vX10) : hSp v (fm_rm1 v) := rfl
theorem s1_S (v : vX10) : hSp v (fm_s1 v) := rfl
theorem f0_S (v : vX10) : hSp v (fm_f0 v) := rfl
theorem tnum_S (v : vX10) (lo hi : Int32) : hSp v (fm_tnum v lo hi).2 := by
  unfold fm_tnum
  by_cases h : fm_tw (fp v) (fq v) (fs v) (fw v) lo = 0
  · rw [if_pos h]; exact rfl
  · rw [if_neg h]; exact rfl
theorem tleg_S (r0 : Nat) (v : vX10) : hSp v (fm_tleg r0 v) := by
  unfold fm_tleg
  refine hSp.tr ?_ (rm1_S _)
  refine hSp.tr ?_ (rd_S _ _ _)
  unfold fm_tl5
  refine hSp.tr ?_ (tnum_S _ _ _)
  unfold fm_tl4
  refine hSp.tr ?_ (need_S _ _)
  refine hSp.tr ?_ (rd_S _ _ _)
  unfold fm_tl3
  refine hSp.tr ?_ (tnum_S _ _ _)
  unfold fm_tl2
  refine hSp.tr ?_ (need_S _ _)
  refine hSp.tr ?_ (rd_S _ _ _)
  unfold fm_tl1
  exact hSp.tr (need_S _ _) (tnum_S _ _ _)
theorem fl_S : ∀ (d r : Nat) (v : vX10), hSp v (fm_fl d r v)
  | 0, r, v => rfl
  | d + 1, r, v => by
    by_cases c1 : fw v = 0
    · by_cases c2 : fm_nx (fp v) (fq v) (fs v) = 59
      · rw [fm_fl_s (by omega) c1 c2]; exact hSp.tr (hSp.tr (s1_S v) (tleg_S r _)) (fl_S _ _ _)
      · rw [fm_fl_e (Or.inr c2)]; rfl
    · rw [fm_fl_e (Or.inl c1)]; rfl
def fm_fW (v : vX10) : vX10 := fm_fl 12 1 (fm_tleg 0 (fm_f0 v))
def fm_fend (w : vX10) : Int32 := if fw w = 0 then (if fq w ≤ fs w then -6 else fs w) else fs w
def fm_fault (v : vX10) : Int32 × vX10 := (fm_fend (fm_fW v), fm_fW v)
theorem fW_S (v : vX10) : hSp v (fm_fW v) := hSp.tr (hSp.tr (f0_S v) (tleg_S 0 _)) (fl_S _ _ _)
theorem fW_n {q0 : Nat} {v : vX10} (h8 : q0 ≤ 80) (hq : fq v = nI q0) : ∃ r, hFL q0 r (fm_fW v) := fl_n h8 12 1 _ (fl_0 h8 hq)
theorem sp_1 {v w : vX10} (h : hSp v w) : w.1 = v.1 := by have h2 : w = fm_sp v (fs w) (fw w) (frd w) (frm w) := h; have h3 := congrArg (fun x : vX10 => x.1) h2; exact h3
theorem sp_pm {v w : vX10} (h : hSp v w) : w.2.2.2.2.2.2.1 = v.2.2.2.2.2.2.1 := by have h2 : w = fm_sp v (fs w) (fw w) (frd w) (frm w) := h; have h3 := congrArg (fun x : vX10 => x.2.2.2.2.2.2.1) h2; exact h3
theorem fW_1 (v : vX10) : (fm_fW v).1 = v.1 := sp_1 (fW_S v)
theorem fW_pm (v : vX10) : (fm_fW v).2.2.2.2.2.2.1 = v.2.2.2.2.2.2.1 := sp_pm (fW_S v)
theorem fau_1 (v : vX10) : (fm_fault v).2 = fm_fW v := by unfold fm_fault; dsimp only
def fm_lds (c0 : Nat) (f a : Nat → Int32) : Nat → Nat → Int32
  | 0 => a
  | k + 1 => fm_addLeg (c0 + k) (fm_lds c0 f a k) (f (3 * k)) (f (3 * k + 1)) (f (3 * k + 2))
theorem lds_3 {c0 : Nat} {f a : Nat → Int32} (h : a 3 = nI c0) : ∀ k, fm_lds c0 f a k 3 = nI (c0 + k)
  | 0 => h
  | k + 1 => by
    have h2 := lds_3 h (f := f) k
    show fm_addLeg (c0 + k) (fm_lds c0 f a k) (f (3 * k)) (f (3 * k + 1)) (f (3 * k + 2)) 3 = _
    unfold fm_addLeg upd
    rw [if_pos rfl, if_neg (by omega), if_neg (by omega), if_neg (by omega), h2]
    exact nI_1 (c0 + k)
def fm_q0 (v : vX10) : vX10 := fm_pput v (fp v) 0
def fm_ldx (c0 : Nat) (w : vX10) : vX10 := (fm_lds c0 (frd w) w.1 (nT (frm w)), w.2)
def fm_load (pm c0 : Nat) (v : vX10) : Int32 × vX10 :=
  if (fm_fault v).1 = -6 then (if (fm_fault v).2.1 3 + frm (fm_fault v).2 ≤ 8 then ((fm_ldx c0 (fm_keep pm (fm_fault v).2)).1 3, fm_q0 (fm_ldx c0 (fm_keep pm (fm_fault v).2))) else (-4, (fm_fault v).2)) else (-3, (fm_fault v).2)
theorem kp_m (pm : Nat) (v : vX10) : frm (fm_keep pm v) = frm v := rfl
theorem kp_1 (pm : Nat) (v : vX10) : (fm_keep pm v).1 = v.1 := rfl
theorem lds_r (c0 k : Nat) (w : vX10) : fm_addL (c0 + k) (fm_lds c0 (frd w) w.1 k, w.2) (frd w (3 * k)) (frd w (3 * k + 1)) (frd w (3 * k + 2)) = (fm_lds c0 (frd w) w.1 (k + 1), w.2) := rfl
theorem lds_e (c0 k : Nat) (w : vX10) (h : frm w = nI k) (h2 : k < 2 ^ 31) : fm_ldx c0 w = (fm_lds c0 (frd w) w.1 k, w.2) := by
  unfold fm_ldx nT; rw [h, nI_toInt h2]; rfl

set_option maxHeartbeats 4000000 in
set_option maxRecDepth 100000 in
theorem c_X10_fault (l : Launch) (D : va_G) (cA : Nat → ClassId) (h0 h1 h2 h3 h4 h5 h6 h7 h8 h9 h10 h11 : Nat) (sz : Nat) (q0 : Nat) (v : vX10) (hq0 : v.2.2.2.2.2.2.2.2.2.2.2.1 = nI q0) (hq8 : q0 ≤ 80) : Met l yX10_fault wsX10_fault ({ frames := 3, cells := 0, slots := 0, locals := 66 }) (va_Pc [.ref h0] (zPre D (zty cA) (wX10 cA h0 h1 h2 h3 h4 h5 h6 h7 h8 h9 h10 h11 v) sz)) (va_Qi (fun (x : Int32) (u : vX10) => (x, u) = (fm_fault v)) (fun u => zPost D (zty cA) (va_A (wX10 cA h0 h1 h2 h3 h4 h5 h6 h7 h8 h9 h10 h11 v) sz) (wX10 cA h0 h1 h2 h3 h4 h5 h6 h7 h8 h9 h10 h11 u)) (va_A (wX10 cA h0 h1 h2 h3 h4 h5 h6 h7 h8 h9 h10 h11 v) sz)) 0 0 (va_A (wX10 cA h0 h1 h2 h3 h4 h5 h6 h7 h8 h9 h10 h11 v) sz) := by
  refine Met.ofW (cc := cX10_fault) (maxL := 1) (ret := (some .int)) (by decide) rfl ?_
  intro p e s m args below meth c s₁ B hml hv
  obtain ⟨rfl, hsz, hP, hK, hD0, hE⟩ := hv
  have hx := B.exec
  have hb := B.bytes
  have hr := B.returns
  have hts := atoms_spec (ws := wsX10_fault) B.pre
  have hown : s.vm.findClass RX10 = some m.cls := findClass_of_methodNamed B.named
  have hlocks := B.notSynchronized
  have hinX10 : ∀ w ∈ u_ws RX10 TX10 16, w ∈ wsX10_fault := fun w h => List.mem_cons_of_mem _ (List.mem_append_right _ h)
  subst hsz
  have hD := hD0.self (sz := s.heap.size)
  generalize hAe : va_A (wX10 cA h0 h1 h2 h3 h4 h5 h6 h7 h8 h9 h10 h11 v) s.heap.size = A at hD hE ⊢
  have hA : ∀ q : Nat, s.heap.size ≤ q → A q := fun q h => by rw [← hAe]; exact Or.inr h
  have hS : va_S A s.heap s.heap [] := va_S.rf
  have hN : zN s := hE.1
  have hP : va_P D vwCl [(h0, .inr (10, [.ref h1, .ref h2, .ref h3, .ref h4, .ref h5, .ref h6, .int v.2.2.2.2.2.2.1, .ref h7, .ref h8, .ref h9, .ref h10, .int v.2.2.2.2.2.2.2.2.2.2.2.1, .int v.2.2.2.2.2.2.2.2.2.2.2.2.1, .int v.2.2.2.2.2.2.2.2.2.2.2.2.2.1, .ref h11, .int v.2.2.2.2.2.2.2.2.2.2.2.2.2.2.2])), (h1, .inl ((cA 1), 85, .inl v.1)), (h2, .inl ((cA 0), 9, .inr (.inl v.2.1))), (h3, .inl ((cA 1), 85, .inl v.2.2.1)), (h4, .inl ((cA 0), 9, .inr (.inl v.2.2.2.1))), (h5, .inl ((cA 1), 510, .inl v.2.2.2.2.1)), (h6, .inl ((cA 0), 54, .inr (.inl v.2.2.2.2.2.1))), (h7, .inl ((cA 1), 170, .inl v.2.2.2.2.2.2.2.1)), (h8, .inl ((cA 0), 18, .inr (.inl v.2.2.2.2.2.2.2.2.1))), (h9, .inl ((cA 2), 2, .inl v.2.2.2.2.2.2.2.2.2.1)), (h10, .inl ((cA 1), 80, .inl v.2.2.2.2.2.2.2.2.2.2.1)), (h11, .inl ((cA 1), 60, .inl v.2.2.2.2.2.2.2.2.2.2.2.2.2.2.1))] s.heap := hP
  have hD : va_D A [(h0, .inr (10, [.ref h1, .ref h2, .ref h3, .ref h4, .ref h5, .ref h6, .int v.2.2.2.2.2.2.1, .ref h7, .ref h8, .ref h9, .ref h10, .int v.2.2.2.2.2.2.2.2.2.2.2.1, .int v.2.2.2.2.2.2.2.2.2.2.2.2.1, .int v.2.2.2.2.2.2.2.2.2.2.2.2.2.1, .ref h11, .int v.2.2.2.2.2.2.2.2.2.2.2.2.2.2.2])), (h1, .inl ((cA 1), 85, .inl v.1)), (h2, .inl ((cA 0), 9, .inr (.inl v.2.1))), (h3, .inl ((cA 1), 85, .inl v.2.2.1)), (h4, .inl ((cA 0), 9, .inr (.inl v.2.2.2.1))), (h5, .inl ((cA 1), 510, .inl v.2.2.2.2.1)), (h6, .inl ((cA 0), 54, .inr (.inl v.2.2.2.2.2.1))), (h7, .inl ((cA 1), 170, .inl v.2.2.2.2.2.2.2.1)), (h8, .inl ((cA 0), 18, .inr (.inl v.2.2.2.2.2.2.2.2.1))), (h9, .inl ((cA 2), 2, .inl v.2.2.2.2.2.2.2.2.2.1)), (h10, .inl ((cA 1), 80, .inl v.2.2.2.2.2.2.2.2.2.2.1)), (h11, .inl ((cA 1), 60, .inl v.2.2.2.2.2.2.2.2.2.2.2.2.2.2.1))] := hD
  have hl := lv_entry ([.ref h0]) (n := 1) (Nat.le_of_ble_eq_true rfl)
  rw [lg_entry_eq]
  generalize (lg_sl ([.ref h0]) ++ List.replicate (1 - (lg_sl ([.ref h0])).length) Slot.unset).toArray = ls at hl ⊢
  have hl : lv_has ls 1 [(0, .ref h0)] := hl
  refine z_genQ (fun Q hQ => ?_)
  refine lv_aload_n hx hb dX10_fault_0 rfl (lv_at hl 0 rfl) ?_
  refine lv_iconst (v := 0) hx hb dX10_fault_1 (by decide) ?_
  refine va_put (D := D) (ci := 10) (v := .int (0 : Int32)) (ty := .int) (C := RX10) (T := TX10) (N := 16) hx hb hts hinX10 tyX10 tyX10_ok nmX10 hown hK hP hD hS 0 rfl rfl 12 (by decide) (hts (.fieldLink RX10 194 "GyroTrainerModel" "spot" "I") (List.mem_of_getElem? (i := 1) rfl)) (fun _ h9 => h9) rfl (by decide +kernel) rfl rfl (Nat.le_of_ble_eq_true rfl) dX10_fault_2 (fun H locs hP hD hS => ?_)
  have hP : va_P D vwCl [(h0, .inr (10, [.ref h1, .ref h2, .ref h3, .ref h4, .ref h5, .ref h6, .int v.2.2.2.2.2.2.1, .ref h7, .ref h8, .ref h9, .ref h10, .int v.2.2.2.2.2.2.2.2.2.2.2.1, .int (0 : Int32), .int v.2.2.2.2.2.2.2.2.2.2.2.2.2.1, .ref h11, .int v.2.2.2.2.2.2.2.2.2.2.2.2.2.2.2])), (h1, .inl ((cA 1), 85, .inl v.1)), (h2, .inl ((cA 0), 9, .inr (.inl v.2.1))), (h3, .inl ((cA 1), 85, .inl v.2.2.1)), (h4, .inl ((cA 0), 9, .inr (.inl v.2.2.2.1))), (h5, .inl ((cA 1), 510, .inl v.2.2.2.2.1)), (h6, .inl ((cA 0), 54, .inr (.inl v.2.2.2.2.2.1))), (h7, .inl ((cA 1), 170, .inl v.2.2.2.2.2.2.2.1)), (h8, .inl ((cA 0), 18, .inr (.inl v.2.2.2.2.2.2.2.2.1))), (h9, .inl ((cA 2), 2, .inl v.2.2.2.2.2.2.2.2.2.1)), (h10, .inl ((cA 1), 80, .inl v.2.2.2.2.2.2.2.2.2.2.1)), (h11, .inl ((cA 1), 60, .inl v.2.2.2.2.2.2.2.2.2.2.2.2.2.2.1))] H := hP
  have hD : va_D A [(h0, .inr (10, [.ref h1, .ref h2, .ref h3, .ref h4, .ref h5, .ref h6, .int v.2.2.2.2.2.2.1, .ref h7, .ref h8, .ref h9, .ref h10, .int v.2.2.2.2.2.2.2.2.2.2.2.1, .int (0 : Int32), .int v.2.2.2.2.2.2.2.2.2.2.2.2.2.1, .ref h11, .int v.2.2.2.2.2.2.2.2.2.2.2.2.2.2.2])), (h1, .inl ((cA 1), 85, .inl v.1)), (h2, .inl ((cA 0), 9, .inr (.inl v.2.1))), (h3, .inl ((cA 1), 85, .inl v.2.2.1)), (h4, .inl ((cA 0), 9, .inr (.inl v.2.2.2.1))), (h5, .inl ((cA 1), 510, .inl v.2.2.2.2.1)), (h6, .inl ((cA 0), 54, .inr (.inl v.2.2.2.2.2.1))), (h7, .inl ((cA 1), 170, .inl v.2.2.2.2.2.2.2.1)), (h8, .inl ((cA 0), 18, .inr (.inl v.2.2.2.2.2.2.2.2.1))), (h9, .inl ((cA 2), 2, .inl v.2.2.2.2.2.2.2.2.2.1)), (h10, .inl ((cA 1), 80, .inl v.2.2.2.2.2.2.2.2.2.2.1)), (h11, .inl ((cA 1), 60, .inl v.2.2.2.2.2.2.2.2.2.2.2.2.2.2.1))] := hD
  refine lv_aload_n hx hb dX10_fault_5 rfl (lv_at hl 0 rfl) ?_
  refine lv_iconst (v := 0) hx hb dX10_fault_6 (by decide) ?_
  refine va_put (D := D) (ci := 10) (v := .int (0 : Int32)) (ty := .boolean) (C := RX10) (T := TX10) (N := 16) hx hb hts hinX10 tyX10 tyX10_ok nmX10 hown hK hP hD hS 0 rfl rfl 13 (by decide) (hts (.fieldLink RX10 197 "GyroTrainerModel" "isWrong" "Z") (List.mem_of_getElem? (i := 2) rfl)) (fun _ h9 => h9) rfl (by decide +kernel) rfl rfl (Nat.le_of_ble_eq_true rfl) dX10_fault_7 (fun H locs hP hD hS => ?_)
  have hP : va_P D vwCl [(h0, .inr (10, [.ref h1, .ref h2, .ref h3, .ref h4, .ref h5, .ref h6, .int v.2.2.2.2.2.2.1, .ref h7, .ref h8, .ref h9, .ref h10, .int v.2.2.2.2.2.2.2.2.2.2.2.1, .int (0 : Int32), .int (0 : Int32), .ref h11, .int v.2.2.2.2.2.2.2.2.2.2.2.2.2.2.2])), (h1, .inl ((cA 1), 85, .inl v.1)), (h2, .inl ((cA 0), 9, .inr (.inl v.2.1))), (h3, .inl ((cA 1), 85, .inl v.2.2.1)), (h4, .inl ((cA 0), 9, .inr (.inl v.2.2.2.1))), (h5, .inl ((cA 1), 510, .inl v.2.2.2.2.1)), (h6, .inl ((cA 0), 54, .inr (.inl v.2.2.2.2.2.1))), (h7, .inl ((cA 1), 170, .inl v.2.2.2.2.2.2.2.1)), (h8, .inl ((cA 0), 18, .inr (.inl v.2.2.2.2.2.2.2.2.1))), (h9, .inl ((cA 2), 2, .inl v.2.2.2.2.2.2.2.2.2.1)), (h10, .inl ((cA 1), 80, .inl v.2.2.2.2.2.2.2.2.2.2.1)), (h11, .inl ((cA 1), 60, .inl v.2.2.2.2.2.2.2.2.2.2.2.2.2.2.1))] H := hP
  have hD : va_D A [(h0, .inr (10, [.ref h1, .ref h2, .ref h3, .ref h4, .ref h5, .ref h6, .int v.2.2.2.2.2.2.1, .ref h7, .ref h8, .ref h9, .ref h10, .int v.2.2.2.2.2.2.2.2.2.2.2.1, .int (0 : Int32), .int (0 : Int32), .ref h11, .int v.2.2.2.2.2.2.2.2.2.2.2.2.2.2.2])), (h1, .inl ((cA 1), 85, .inl v.1)), (h2, .inl ((cA 0), 9, .inr (.inl v.2.1))), (h3, .inl ((cA 1), 85, .inl v.2.2.1)), (h4, .inl ((cA 0), 9, .inr (.inl v.2.2.2.1))), (h5, .inl ((cA 1), 510, .inl v.2.2.2.2.1)), (h6, .inl ((cA 0), 54, .inr (.inl v.2.2.2.2.2.1))), (h7, .inl ((cA 1), 170, .inl v.2.2.2.2.2.2.2.1)), (h8, .inl ((cA 0), 18, .inr (.inl v.2.2.2.2.2.2.2.2.1))), (h9, .inl ((cA 2), 2, .inl v.2.2.2.2.2.2.2.2.2.1)), (h10, .inl ((cA 1), 80, .inl v.2.2.2.2.2.2.2.2.2.2.1)), (h11, .inl ((cA 1), 60, .inl v.2.2.2.2.2.2.2.2.2.2.2.2.2.2.1))] := hD
  refine lv_aload_n hx hb dX10_fault_10 rfl (lv_at hl 0 rfl) ?_
  refine lv_iconst (v := 0) hx hb dX10_fault_11 (by decide) ?_
  refine va_put (D := D) (ci := 10) (v := .int (0 : Int32)) (ty := .int) (C := RX10) (T := TX10) (N := 16) hx hb hts hinX10 tyX10 tyX10_ok nmX10 hown hK hP hD hS 0 rfl rfl 15 (by decide) (hts (.fieldLink RX10 204 "GyroTrainerModel" "readMany" "I") (List.mem_of_getElem? (i := 3) rfl)) (fun _ h9 => h9) rfl (by decide +kernel) rfl rfl (Nat.le_of_ble_eq_true rfl) dX10_fault_12 (fun H locs hP hD hS => ?_)
  have hP : va_P D vwCl [(h0, .inr (10, [.ref h1, .ref h2, .ref h3, .ref h4, .ref h5, .ref h6, .int v.2.2.2.2.2.2.1, .ref h7, .ref h8, .ref h9, .ref h10, .int v.2.2.2.2.2.2.2.2.2.2.2.1, .int (0 : Int32), .int (0 : Int32), .ref h11, .int (0 : Int32)])), (h1, .inl ((cA 1), 85, .inl v.1)), (h2, .inl ((cA 0), 9, .inr (.inl v.2.1))), (h3, .inl ((cA 1), 85, .inl v.2.2.1)), (h4, .inl ((cA 0), 9, .inr (.inl v.2.2.2.1))), (h5, .inl ((cA 1), 510, .inl v.2.2.2.2.1)), (h6, .inl ((cA 0), 54, .inr (.inl v.2.2.2.2.2.1))), (h7, .inl ((cA 1), 170, .inl v.2.2.2.2.2.2.2.1)), (h8, .inl ((cA 0), 18, .inr (.inl v.2.2.2.2.2.2.2.2.1))), (h9, .inl ((cA 2), 2, .inl v.2.2.2.2.2.2.2.2.2.1)), (h10, .inl ((cA 1), 80, .inl v.2.2.2.2.2.2.2.2.2.2.1)), (h11, .inl ((cA 1), 60, .inl v.2.2.2.2.2.2.2.2.2.2.2.2.2.2.1))] H := hP
  have hD : va_D A [(h0, .inr (10, [.ref h1, .ref h2, .ref h3, .ref h4, .ref h5, .ref h6, .int v.2.2.2.2.2.2.1, .ref h7, .ref h8, .ref h9, .ref h10, .int v.2.2.2.2.2.2.2.2.2.2.2.1, .int (0 : Int32), .int (0 : Int32), .ref h11, .int (0 : Int32)])), (h1, .inl ((cA 1), 85, .inl v.1)), (h2, .inl ((cA 0), 9, .inr (.inl v.2.1))), (h3, .inl ((cA 1), 85, .inl v.2.2.1)), (h4, .inl ((cA 0), 9, .inr (.inl v.2.2.2.1))), (h5, .inl ((cA 1), 510, .inl v.2.2.2.2.1)), (h6, .inl ((cA 0), 54, .inr (.inl v.2.2.2.2.2.1))), (h7, .inl ((cA 1), 170, .inl v.2.2.2.2.2.2.2.1)), (h8, .inl ((cA 0), 18, .inr (.inl v.2.2.2.2.2.2.2.2.1))), (h9, .inl ((cA 2), 2, .inl v.2.2.2.2.2.2.2.2.2.1)), (h10, .inl ((cA 1), 80, .inl v.2.2.2.2.2.2.2.2.2.2.1)), (h11, .inl ((cA 1), 60, .inl v.2.2.2.2.2.2.2.2.2.2.2.2.2.2.1))] := hD
  refine lv_aload_n hx hb dX10_fault_15 rfl (lv_at hl 0 rfl) ?_
  refine z_Hv (wt := fun (u_1 : vX10) => [(h0, .inr (10, [.ref h1, .ref h2, .ref h3, .ref h4, .ref h5, .ref h6, .int u_1.2.2.2.2.2.2.1, .ref h7, .ref h8, .ref h9, .ref h10, .int u_1.2.2.2.2.2.2.2.2.2.2.2.1, .int u_1.2.2.2.2.2.2.2.2.2.2.2.2.1, .int u_1.2.2.2.2.2.2.2.2.2.2.2.2.2.1, .ref h11, .int u_1.2.2.2.2.2.2.2.2.2.2.2.2.2.2.2])), (h1, .inl ((cA 1), 85, .inl u_1.1)), (h2, .inl ((cA 0), 9, .inr (.inl u_1.2.1))), (h3, .inl ((cA 1), 85, .inl u_1.2.2.1)), (h4, .inl ((cA 0), 9, .inr (.inl u_1.2.2.2.1))), (h5, .inl ((cA 1), 510, .inl u_1.2.2.2.2.1)), (h6, .inl ((cA 0), 54, .inr (.inl u_1.2.2.2.2.2.1))), (h7, .inl ((cA 1), 170, .inl u_1.2.2.2.2.2.2.2.1)), (h8, .inl ((cA 0), 18, .inr (.inl u_1.2.2.2.2.2.2.2.2.1))), (h9, .inl ((cA 2), 2, .inl u_1.2.2.2.2.2.2.2.2.2.1)), (h10, .inl ((cA 1), 80, .inl u_1.2.2.2.2.2.2.2.2.2.2.1)), (h11, .inl ((cA 1), 60, .inl u_1.2.2.2.2.2.2.2.2.2.2.2.2.2.2.1))]) (va_runV (As := []) (rest := []) ⟨hx, hb, hml, hown, hts⟩ (c_X10_takeLeg l D cA h0 h1 h2 h3 h4 h5 h6 h7 h8 h9 h10 h11 H.size q0 0 (v.1, v.2.1, v.2.2.1, v.2.2.2.1, v.2.2.2.2.1, v.2.2.2.2.2.1, v.2.2.2.2.2.2.1, v.2.2.2.2.2.2.2.1, v.2.2.2.2.2.2.2.2.1, v.2.2.2.2.2.2.2.2.2.1, v.2.2.2.2.2.2.2.2.2.2.1, v.2.2.2.2.2.2.2.2.2.2.2.1, (0 : Int32), (0 : Int32), v.2.2.2.2.2.2.2.2.2.2.2.2.2.2.1, (0 : Int32)) hq8 (f0_B hq0) rfl (by decide)) (cwV 0 hts gX10_fault_X10_takeLeg rfl rfl rfl (by decide +kernel) ⟨Nat.le_of_ble_eq_true rfl, Nat.le_of_ble_eq_true rfl⟩) (zqV hK hP hD hS hA hE (z_c1 (a := []) (b := []) rfl) 0 rfl rfl) rfl rfl hl.1 rfl (lv_room (Nat.le_of_ble_eq_true rfl)) dX10_fault_16 ⟨Nat.le_of_ble_eq_true rfl, Nat.le_of_ble_eq_true rfl⟩) hP hD hS hA (z_c1 (a := []) (b := []) rfl) (fun u_1 => (z_c1' (a := []) (b := []) rfl)) (fun u_1 H locs eu_1 hP hD hS => ?_)
  have hP : va_P D vwCl [(h0, .inr (10, [.ref h1, .ref h2, .ref h3, .ref h4, .ref h5, .ref h6, .int u_1.2.2.2.2.2.2.1, .ref h7, .ref h8, .ref h9, .ref h10, .int u_1.2.2.2.2.2.2.2.2.2.2.2.1, .int u_1.2.2.2.2.2.2.2.2.2.2.2.2.1, .int u_1.2.2.2.2.2.2.2.2.2.2.2.2.2.1, .ref h11, .int u_1.2.2.2.2.2.2.2.2.2.2.2.2.2.2.2])), (h1, .inl ((cA 1), 85, .inl u_1.1)), (h2, .inl ((cA 0), 9, .inr (.inl u_1.2.1))), (h3, .inl ((cA 1), 85, .inl u_1.2.2.1)), (h4, .inl ((cA 0), 9, .inr (.inl u_1.2.2.2.1))), (h5, .inl ((cA 1), 510, .inl u_1.2.2.2.2.1)), (h6, .inl ((cA 0), 54, .inr (.inl u_1.2.2.2.2.2.1))), (h7, .inl ((cA 1), 170, .inl u_1.2.2.2.2.2.2.2.1)), (h8, .inl ((cA 0), 18, .inr (.inl u_1.2.2.2.2.2.2.2.2.1))), (h9, .inl ((cA 2), 2, .inl u_1.2.2.2.2.2.2.2.2.2.1)), (h10, .inl ((cA 1), 80, .inl u_1.2.2.2.2.2.2.2.2.2.2.1)), (h11, .inl ((cA 1), 60, .inl u_1.2.2.2.2.2.2.2.2.2.2.2.2.2.2.1))] H := hP
  have hD : va_D A [(h0, .inr (10, [.ref h1, .ref h2, .ref h3, .ref h4, .ref h5, .ref h6, .int u_1.2.2.2.2.2.2.1, .ref h7, .ref h8, .ref h9, .ref h10, .int u_1.2.2.2.2.2.2.2.2.2.2.2.1, .int u_1.2.2.2.2.2.2.2.2.2.2.2.2.1, .int u_1.2.2.2.2.2.2.2.2.2.2.2.2.2.1, .ref h11, .int u_1.2.2.2.2.2.2.2.2.2.2.2.2.2.2.2])), (h1, .inl ((cA 1), 85, .inl u_1.1)), (h2, .inl ((cA 0), 9, .inr (.inl u_1.2.1))), (h3, .inl ((cA 1), 85, .inl u_1.2.2.1)), (h4, .inl ((cA 0), 9, .inr (.inl u_1.2.2.2.1))), (h5, .inl ((cA 1), 510, .inl u_1.2.2.2.2.1)), (h6, .inl ((cA 0), 54, .inr (.inl u_1.2.2.2.2.2.1))), (h7, .inl ((cA 1), 170, .inl u_1.2.2.2.2.2.2.2.1)), (h8, .inl ((cA 0), 18, .inr (.inl u_1.2.2.2.2.2.2.2.2.1))), (h9, .inl ((cA 2), 2, .inl u_1.2.2.2.2.2.2.2.2.2.1)), (h10, .inl ((cA 1), 80, .inl u_1.2.2.2.2.2.2.2.2.2.2.1)), (h11, .inl ((cA 1), 60, .inl u_1.2.2.2.2.2.2.2.2.2.2.2.2.2.2.1))] := hD
  have L19 : ∀ (zn : Nat) (r : Nat) (w : vX10), 12 - r < zn → (hFL q0 r w) → (fm_fl 12 1 (fm_tleg 0 (fm_f0 v)) = fm_fl (13 - r) r w) → ∀ (H : Heap) (locs : List Loc), va_P D vwCl [(h0, .inr (10, [.ref h1, .ref h2, .ref h3, .ref h4, .ref h5, .ref h6, .int w.2.2.2.2.2.2.1, .ref h7, .ref h8, .ref h9, .ref h10, .int w.2.2.2.2.2.2.2.2.2.2.2.1, .int w.2.2.2.2.2.2.2.2.2.2.2.2.1, .int w.2.2.2.2.2.2.2.2.2.2.2.2.2.1, .ref h11, .int w.2.2.2.2.2.2.2.2.2.2.2.2.2.2.2])), (h1, .inl ((cA 1), 85, .inl w.1)), (h2, .inl ((cA 0), 9, .inr (.inl w.2.1))), (h3, .inl ((cA 1), 85, .inl w.2.2.1)), (h4, .inl ((cA 0), 9, .inr (.inl w.2.2.2.1))), (h5, .inl ((cA 1), 510, .inl w.2.2.2.2.1)), (h6, .inl ((cA 0), 54, .inr (.inl w.2.2.2.2.2.1))), (h7, .inl ((cA 1), 170, .inl w.2.2.2.2.2.2.2.1)), (h8, .inl ((cA 0), 18, .inr (.inl w.2.2.2.2.2.2.2.2.1))), (h9, .inl ((cA 2), 2, .inl w.2.2.2.2.2.2.2.2.2.1)), (h10, .inl ((cA 1), 80, .inl w.2.2.2.2.2.2.2.2.2.2.1)), (h11, .inl ((cA 1), 60, .inl w.2.2.2.2.2.2.2.2.2.2.2.2.2.2.1))] H → va_D A [(h0, .inr (10, [.ref h1, .ref h2, .ref h3, .ref h4, .ref h5, .ref h6, .int w.2.2.2.2.2.2.1, .ref h7, .ref h8, .ref h9, .ref h10, .int w.2.2.2.2.2.2.2.2.2.2.2.1, .int w.2.2.2.2.2.2.2.2.2.2.2.2.1, .int w.2.2.2.2.2.2.2.2.2.2.2.2.2.1, .ref h11, .int w.2.2.2.2.2.2.2.2.2.2.2.2.2.2.2])), (h1, .inl ((cA 1), 85, .inl w.1)), (h2, .inl ((cA 0), 9, .inr (.inl w.2.1))), (h3, .inl ((cA 1), 85, .inl w.2.2.1)), (h4, .inl ((cA 0), 9, .inr (.inl w.2.2.2.1))), (h5, .inl ((cA 1), 510, .inl w.2.2.2.2.1)), (h6, .inl ((cA 0), 54, .inr (.inl w.2.2.2.2.2.1))), (h7, .inl ((cA 1), 170, .inl w.2.2.2.2.2.2.2.1)), (h8, .inl ((cA 0), 18, .inr (.inl w.2.2.2.2.2.2.2.2.1))), (h9, .inl ((cA 2), 2, .inl w.2.2.2.2.2.2.2.2.2.1)), (h10, .inl ((cA 1), 80, .inl w.2.2.2.2.2.2.2.2.2.2.1)), (h11, .inl ((cA 1), 60, .inl w.2.2.2.2.2.2.2.2.2.2.2.2.2.2.1))] → va_S A s.heap H locs → ∀ (ls : Array Slot), lv_has ls 1 [(0, .ref h0)] → W p l e (headSpec wsX10_fault ({ frames := 3, cells := 0, slots := 0, locals := 66 })).room s m (([.ref h0] : List Value).toArray) below meth c H locs 0 0 Q (F0 m 19 ls []) := by
    intro zn
    induction zn with
    | zero =>
      intro r w hm
      exact absurd hm (Nat.not_lt_zero _)
    | succ zn ih =>
      intro r w hm hfl hL H locs hP hD hS ls hl
      refine lv_aload_n hx hb dX10_fault_19 rfl (lv_at hl 0 rfl) ?_
      refine va_get (D := D) (ci := 10) (v := .int w.2.2.2.2.2.2.2.2.2.2.2.2.2.1) (C := RX10) (T := TX10) (N := 16) hx hb hts hinX10 hown hK hP 0 rfl rfl 13 (by decide) (hts (.fieldLink RX10 197 "GyroTrainerModel" "isWrong" "Z") (List.mem_of_getElem? (i := 2) rfl)) (fun _ h9 => h9) rfl dX10_fault_20 ?_
      refine lv_if_ne (tgt := 52) hx hb dX10_fault_23 (by decide) (fun c_3 => ?_) (fun c_3 => ?_)
      · skip
        refine lv_aload_n hx hb dX10_fault_52 rfl (lv_at hl 0 rfl) ?_
        refine va_get (D := D) (ci := 10) (v := .int w.2.2.2.2.2.2.2.2.2.2.2.2.2.1) (C := RX10) (T := TX10) (N := 16) hx hb hts hinX10 hown hK hP 0 rfl rfl 13 (by decide) (hts (.fieldLink RX10 197 "GyroTrainerModel" "isWrong" "Z") (List.mem_of_getElem? (i := 2) rfl)) (fun _ h9 => h9) rfl dX10_fault_53 ?_
        refine lv_if_ne (tgt := 70) hx hb dX10_fault_56 (by decide) (fun c_4 => ?_) (fun c_4 => ?_)
        · skip
          refine lv_aload_n hx hb dX10_fault_70 rfl (lv_at hl 0 rfl) ?_
          refine va_get (D := D) (ci := 10) (v := .int w.2.2.2.2.2.2.2.2.2.2.2.2.1) (C := RX10) (T := TX10) (N := 16) hx hb hts hinX10 hown hK hP 0 rfl rfl 12 (by decide) (hts (.fieldLink RX10 194 "GyroTrainerModel" "spot" "I") (List.mem_of_getElem? (i := 1) rfl)) (fun _ h9 => h9) rfl dX10_fault_71 ?_
          refine lv_goto (tgt := 79) hx hb dX10_fault_74 (by decide) ?_
          have e9 : (fm_fault v) = (w.2.2.2.2.2.2.2.2.2.2.2.2.1, w) := by unfold fm_fault fm_fW fm_fend; rw [hL, fm_fl_e (Or.inl c_3), if_neg c_3]
          have hP9 : va_P D vwCl (wX10 cA h0 h1 h2 h3 h4 h5 h6 h7 h8 h9 h10 h11 (w : vX10)) H := hP
          have hD9 : va_D A (wX10 cA h0 h1 h2 h3 h4 h5 h6 h7 h8 h9 h10 h11 (w : vX10)) := hD
          subst hQ
          exact W.iret (v := w.2.2.2.2.2.2.2.2.2.2.2.2.1) hx hb hr (fun t ht hW => ⟨⟨w.2.2.2.2.2.2.2.2.2.2.2.2.1, w, rfl, e9.symm, ⟨by rw [ht]; exact hP9, va_K.moved hW.alike hK, hD9⟩⟩, hS.F ht⟩) hS.2.2 dX10_fault_79
        · skip
          exact absurd c_4 c_3
      · skip
        refine lv_aload_n hx hb dX10_fault_26 rfl (lv_at hl 0 rfl) ?_
        refine z_Ri (va_runV (As := []) (rest := []) ⟨hx, hb, hml, hown, hts⟩ (c_X10_next l D cA h0 h1 h2 h3 h4 h5 h6 h7 h8 h9 h10 h11 q0 w hfl.1.1 hq8 hfl.1.2.1) (cwV 0 hts gX10_fault_X10_next rfl rfl rfl (by decide +kernel) ⟨Nat.le_of_ble_eq_true rfl, Nat.le_of_ble_eq_true rfl⟩) (zqVR hK hP hN (z_c1 (a := []) (b := []) rfl) 0 rfl rfl) rfl rfl hl.1 rfl (lv_room (Nat.le_of_ble_eq_true rfl)) dX10_fault_27 ⟨Nat.le_of_ble_eq_true rfl, Nat.le_of_ble_eq_true rfl⟩) ?_
        refine lv_bipush (v := 59) hx hb dX10_fault_30 (by decide) ?_
        refine lv_icmp_ne (tgt := 52) hx hb dX10_fault_32 (by decide) (fun c_5 => ?_) (fun c_5 => ?_)
        · skip
          refine lv_aload_n hx hb dX10_fault_52 rfl (lv_at hl 0 rfl) ?_
          refine va_get (D := D) (ci := 10) (v := .int w.2.2.2.2.2.2.2.2.2.2.2.2.2.1) (C := RX10) (T := TX10) (N := 16) hx hb hts hinX10 hown hK hP 0 rfl rfl 13 (by decide) (hts (.fieldLink RX10 197 "GyroTrainerModel" "isWrong" "Z") (List.mem_of_getElem? (i := 2) rfl)) (fun _ h9 => h9) rfl dX10_fault_53 ?_
          refine lv_if_ne (tgt := 70) hx hb dX10_fault_56 (by decide) (fun c_6 => ?_) (fun c_6 => ?_)
          · skip
            exact absurd c_3 c_6
          · skip
            refine lv_aload_n hx hb dX10_fault_59 rfl (lv_at hl 0 rfl) ?_
            refine va_get (D := D) (ci := 10) (v := .int w.2.2.2.2.2.2.2.2.2.2.2.2.1) (C := RX10) (T := TX10) (N := 16) hx hb hts hinX10 hown hK hP 0 rfl rfl 12 (by decide) (hts (.fieldLink RX10 194 "GyroTrainerModel" "spot" "I") (List.mem_of_getElem? (i := 1) rfl)) (fun _ h9 => h9) rfl dX10_fault_60 ?_
            refine lv_aload_n hx hb dX10_fault_63 rfl (lv_at hl 0 rfl) ?_
            refine va_get (D := D) (ci := 10) (v := .int w.2.2.2.2.2.2.2.2.2.2.2.1) (C := RX10) (T := TX10) (N := 16) hx hb hts hinX10 hown hK hP 0 rfl rfl 11 (by decide) (hts (.fieldLink RX10 177 "GyroTrainerModel" "padMany" "I") (List.mem_of_getElem? (i := 4) rfl)) (fun _ h9 => h9) rfl dX10_fault_64 ?_
            refine lv_icmp_ge (tgt := 77) hx hb dX10_fault_67 (by decide) (fun c_7 => ?_) (fun c_7 => ?_)
            · skip
              refine lv_bipush (v := -6) hx hb dX10_fault_77 (by decide) ?_
              have e9 : (fm_fault v) = ((-6 : Int32), w) := by unfold fm_fault fm_fW fm_fend; rw [hL, fm_fl_e (Or.inr c_5), if_pos c_3, if_pos c_7]
              have hP9 : va_P D vwCl (wX10 cA h0 h1 h2 h3 h4 h5 h6 h7 h8 h9 h10 h11 (w : vX10)) H := hP
              have hD9 : va_D A (wX10 cA h0 h1 h2 h3 h4 h5 h6 h7 h8 h9 h10 h11 (w : vX10)) := hD
              subst hQ
              exact W.iret (v := (-6 : Int32)) hx hb hr (fun t ht hW => ⟨⟨(-6 : Int32), w, rfl, e9.symm, ⟨by rw [ht]; exact hP9, va_K.moved hW.alike hK, hD9⟩⟩, hS.F ht⟩) hS.2.2 dX10_fault_79
            · skip
              refine lv_aload_n hx hb dX10_fault_70 rfl (lv_at hl 0 rfl) ?_
              refine va_get (D := D) (ci := 10) (v := .int w.2.2.2.2.2.2.2.2.2.2.2.2.1) (C := RX10) (T := TX10) (N := 16) hx hb hts hinX10 hown hK hP 0 rfl rfl 12 (by decide) (hts (.fieldLink RX10 194 "GyroTrainerModel" "spot" "I") (List.mem_of_getElem? (i := 1) rfl)) (fun _ h9 => h9) rfl dX10_fault_71 ?_
              refine lv_goto (tgt := 79) hx hb dX10_fault_74 (by decide) ?_
              have e9 : (fm_fault v) = (w.2.2.2.2.2.2.2.2.2.2.2.2.1, w) := by unfold fm_fault fm_fW fm_fend; rw [hL, fm_fl_e (Or.inr c_5), if_pos c_3, if_neg c_7]
              have hP9 : va_P D vwCl (wX10 cA h0 h1 h2 h3 h4 h5 h6 h7 h8 h9 h10 h11 (w : vX10)) H := hP
              have hD9 : va_D A (wX10 cA h0 h1 h2 h3 h4 h5 h6 h7 h8 h9 h10 h11 (w : vX10)) := hD
              subst hQ
              exact W.iret (v := w.2.2.2.2.2.2.2.2.2.2.2.2.1) hx hb hr (fun t ht hW => ⟨⟨w.2.2.2.2.2.2.2.2.2.2.2.2.1, w, rfl, e9.symm, ⟨by rw [ht]; exact hP9, va_K.moved hW.alike hK, hD9⟩⟩, hS.F ht⟩) hS.2.2 dX10_fault_79
        · skip
          refine lv_aload_n hx hb dX10_fault_35 rfl (lv_at hl 0 rfl) ?_
          refine lv_dup hx hb dX10_fault_36 rfl ?_
          refine va_get (D := D) (ci := 10) (v := .int w.2.2.2.2.2.2.2.2.2.2.2.2.1) (C := RX10) (T := TX10) (N := 16) hx hb hts hinX10 hown hK hP 0 rfl rfl 12 (by decide) (hts (.fieldLink RX10 194 "GyroTrainerModel" "spot" "I") (List.mem_of_getElem? (i := 1) rfl)) (fun _ h9 => h9) rfl dX10_fault_37 ?_
          refine lv_iconst (v := 1) hx hb dX10_fault_40 (by decide) ?_
          refine lv_iadd hx hb dX10_fault_41 ?_
          refine lv_topi (fun g_8 eg_8 => ?_)
          refine va_put (D := D) (ci := 10) (v := .int g_8) (ty := .int) (C := RX10) (T := TX10) (N := 16) hx hb hts hinX10 tyX10 tyX10_ok nmX10 hown hK hP hD hS 0 rfl rfl 12 (by decide) (hts (.fieldLink RX10 194 "GyroTrainerModel" "spot" "I") (List.mem_of_getElem? (i := 1) rfl)) (fun _ h9 => h9) rfl (by decide +kernel) rfl rfl (Nat.le_of_ble_eq_true rfl) dX10_fault_42 (fun H locs hP hD hS => ?_)
          have hP : va_P D vwCl [(h0, .inr (10, [.ref h1, .ref h2, .ref h3, .ref h4, .ref h5, .ref h6, .int w.2.2.2.2.2.2.1, .ref h7, .ref h8, .ref h9, .ref h10, .int w.2.2.2.2.2.2.2.2.2.2.2.1, .int g_8, .int w.2.2.2.2.2.2.2.2.2.2.2.2.2.1, .ref h11, .int w.2.2.2.2.2.2.2.2.2.2.2.2.2.2.2])), (h1, .inl ((cA 1), 85, .inl w.1)), (h2, .inl ((cA 0), 9, .inr (.inl w.2.1))), (h3, .inl ((cA 1), 85, .inl w.2.2.1)), (h4, .inl ((cA 0), 9, .inr (.inl w.2.2.2.1))), (h5, .inl ((cA 1), 510, .inl w.2.2.2.2.1)), (h6, .inl ((cA 0), 54, .inr (.inl w.2.2.2.2.2.1))), (h7, .inl ((cA 1), 170, .inl w.2.2.2.2.2.2.2.1)), (h8, .inl ((cA 0), 18, .inr (.inl w.2.2.2.2.2.2.2.2.1))), (h9, .inl ((cA 2), 2, .inl w.2.2.2.2.2.2.2.2.2.1)), (h10, .inl ((cA 1), 80, .inl w.2.2.2.2.2.2.2.2.2.2.1)), (h11, .inl ((cA 1), 60, .inl w.2.2.2.2.2.2.2.2.2.2.2.2.2.2.1))] H := hP
          have hD : va_D A [(h0, .inr (10, [.ref h1, .ref h2, .ref h3, .ref h4, .ref h5, .ref h6, .int w.2.2.2.2.2.2.1, .ref h7, .ref h8, .ref h9, .ref h10, .int w.2.2.2.2.2.2.2.2.2.2.2.1, .int g_8, .int w.2.2.2.2.2.2.2.2.2.2.2.2.2.1, .ref h11, .int w.2.2.2.2.2.2.2.2.2.2.2.2.2.2.2])), (h1, .inl ((cA 1), 85, .inl w.1)), (h2, .inl ((cA 0), 9, .inr (.inl w.2.1))), (h3, .inl ((cA 1), 85, .inl w.2.2.1)), (h4, .inl ((cA 0), 9, .inr (.inl w.2.2.2.1))), (h5, .inl ((cA 1), 510, .inl w.2.2.2.2.1)), (h6, .inl ((cA 0), 54, .inr (.inl w.2.2.2.2.2.1))), (h7, .inl ((cA 1), 170, .inl w.2.2.2.2.2.2.2.1)), (h8, .inl ((cA 0), 18, .inr (.inl w.2.2.2.2.2.2.2.2.1))), (h9, .inl ((cA 2), 2, .inl w.2.2.2.2.2.2.2.2.2.1)), (h10, .inl ((cA 1), 80, .inl w.2.2.2.2.2.2.2.2.2.2.1)), (h11, .inl ((cA 1), 60, .inl w.2.2.2.2.2.2.2.2.2.2.2.2.2.2.1))] := hD
          have bs : hB q0 (fm_s1 w) := (s1_B hq8 hfl.1 c_5).2.1
          have bf := fl_1 hq8 hfl c_3 c_5
          have r11 : r ≤ 11 := bf.1
          refine lv_aload_n hx hb dX10_fault_45 rfl (lv_at hl 0 rfl) ?_
          refine z_Hv (wt := fun (u_9 : vX10) => [(h0, .inr (10, [.ref h1, .ref h2, .ref h3, .ref h4, .ref h5, .ref h6, .int u_9.2.2.2.2.2.2.1, .ref h7, .ref h8, .ref h9, .ref h10, .int u_9.2.2.2.2.2.2.2.2.2.2.2.1, .int u_9.2.2.2.2.2.2.2.2.2.2.2.2.1, .int u_9.2.2.2.2.2.2.2.2.2.2.2.2.2.1, .ref h11, .int u_9.2.2.2.2.2.2.2.2.2.2.2.2.2.2.2])), (h1, .inl ((cA 1), 85, .inl u_9.1)), (h2, .inl ((cA 0), 9, .inr (.inl u_9.2.1))), (h3, .inl ((cA 1), 85, .inl u_9.2.2.1)), (h4, .inl ((cA 0), 9, .inr (.inl u_9.2.2.2.1))), (h5, .inl ((cA 1), 510, .inl u_9.2.2.2.2.1)), (h6, .inl ((cA 0), 54, .inr (.inl u_9.2.2.2.2.2.1))), (h7, .inl ((cA 1), 170, .inl u_9.2.2.2.2.2.2.2.1)), (h8, .inl ((cA 0), 18, .inr (.inl u_9.2.2.2.2.2.2.2.2.1))), (h9, .inl ((cA 2), 2, .inl u_9.2.2.2.2.2.2.2.2.2.1)), (h10, .inl ((cA 1), 80, .inl u_9.2.2.2.2.2.2.2.2.2.2.1)), (h11, .inl ((cA 1), 60, .inl u_9.2.2.2.2.2.2.2.2.2.2.2.2.2.2.1))]) (va_runV (As := []) (rest := []) ⟨hx, hb, hml, hown, hts⟩ (c_X10_takeLeg l D cA h0 h1 h2 h3 h4 h5 h6 h7 h8 h9 h10 h11 H.size q0 r (w.1, w.2.1, w.2.2.1, w.2.2.2.1, w.2.2.2.2.1, w.2.2.2.2.2.1, w.2.2.2.2.2.2.1, w.2.2.2.2.2.2.2.1, w.2.2.2.2.2.2.2.2.1, w.2.2.2.2.2.2.2.2.2.1, w.2.2.2.2.2.2.2.2.2.2.1, w.2.2.2.2.2.2.2.2.2.2.2.1, g_8, w.2.2.2.2.2.2.2.2.2.2.2.2.2) hq8 (by rw [eg_8]; exact bs) hfl.2.1 (by omega)) (cwV 0 hts gX10_fault_X10_takeLeg rfl rfl rfl (by decide +kernel) ⟨Nat.le_of_ble_eq_true rfl, Nat.le_of_ble_eq_true rfl⟩) (zqV hK hP hD hS hA hE (z_c1 (a := []) (b := []) rfl) 0 rfl rfl) rfl rfl hl.1 rfl (lv_room (Nat.le_of_ble_eq_true rfl)) dX10_fault_46 ⟨Nat.le_of_ble_eq_true rfl, Nat.le_of_ble_eq_true rfl⟩) hP hD hS hA (z_c1 (a := []) (b := []) rfl) (fun u_9 => (z_c1' (a := []) (b := []) rfl)) (fun u_9 H locs eu_9 hP hD hS => ?_)
          have hP : va_P D vwCl [(h0, .inr (10, [.ref h1, .ref h2, .ref h3, .ref h4, .ref h5, .ref h6, .int u_9.2.2.2.2.2.2.1, .ref h7, .ref h8, .ref h9, .ref h10, .int u_9.2.2.2.2.2.2.2.2.2.2.2.1, .int u_9.2.2.2.2.2.2.2.2.2.2.2.2.1, .int u_9.2.2.2.2.2.2.2.2.2.2.2.2.2.1, .ref h11, .int u_9.2.2.2.2.2.2.2.2.2.2.2.2.2.2.2])), (h1, .inl ((cA 1), 85, .inl u_9.1)), (h2, .inl ((cA 0), 9, .inr (.inl u_9.2.1))), (h3, .inl ((cA 1), 85, .inl u_9.2.2.1)), (h4, .inl ((cA 0), 9, .inr (.inl u_9.2.2.2.1))), (h5, .inl ((cA 1), 510, .inl u_9.2.2.2.2.1)), (h6, .inl ((cA 0), 54, .inr (.inl u_9.2.2.2.2.2.1))), (h7, .inl ((cA 1), 170, .inl u_9.2.2.2.2.2.2.2.1)), (h8, .inl ((cA 0), 18, .inr (.inl u_9.2.2.2.2.2.2.2.2.1))), (h9, .inl ((cA 2), 2, .inl u_9.2.2.2.2.2.2.2.2.2.1)), (h10, .inl ((cA 1), 80, .inl u_9.2.2.2.2.2.2.2.2.2.2.1)), (h11, .inl ((cA 1), 60, .inl u_9.2.2.2.2.2.2.2.2.2.2.2.2.2.2.1))] H := hP
          have hD : va_D A [(h0, .inr (10, [.ref h1, .ref h2, .ref h3, .ref h4, .ref h5, .ref h6, .int u_9.2.2.2.2.2.2.1, .ref h7, .ref h8, .ref h9, .ref h10, .int u_9.2.2.2.2.2.2.2.2.2.2.2.1, .int u_9.2.2.2.2.2.2.2.2.2.2.2.2.1, .int u_9.2.2.2.2.2.2.2.2.2.2.2.2.2.1, .ref h11, .int u_9.2.2.2.2.2.2.2.2.2.2.2.2.2.2.2])), (h1, .inl ((cA 1), 85, .inl u_9.1)), (h2, .inl ((cA 0), 9, .inr (.inl u_9.2.1))), (h3, .inl ((cA 1), 85, .inl u_9.2.2.1)), (h4, .inl ((cA 0), 9, .inr (.inl u_9.2.2.2.1))), (h5, .inl ((cA 1), 510, .inl u_9.2.2.2.2.1)), (h6, .inl ((cA 0), 54, .inr (.inl u_9.2.2.2.2.2.1))), (h7, .inl ((cA 1), 170, .inl u_9.2.2.2.2.2.2.2.1)), (h8, .inl ((cA 0), 18, .inr (.inl u_9.2.2.2.2.2.2.2.2.1))), (h9, .inl ((cA 2), 2, .inl u_9.2.2.2.2.2.2.2.2.2.1)), (h10, .inl ((cA 1), 80, .inl u_9.2.2.2.2.2.2.2.2.2.2.1)), (h11, .inl ((cA 1), 60, .inl u_9.2.2.2.2.2.2.2.2.2.2.2.2.2.2.1))] := hD
          refine lv_goto (tgt := 19) hx hb dX10_fault_49 (by decide) ?_
          exact ih (r + 1) (u_9) (by omega) (by rw [eu_9, eg_8]; exact bf.2) (by rw [eu_9, eg_8]; exact hL.trans (fm_fl_s (by omega) c_3 c_5)) _ _ hP hD hS ls (lv_sub hl [0] rfl)
  exact L19 (12 + 1) (1) (u_1) (by omega) (by rw [eu_1]; exact fl_0 hq8 hq0) (by rw [eu_1] <;> rfl) _ _ hP hD hS ls (lv_sub hl [0] rfl)
set_option maxHeartbeats 4000000 in
set_option maxRecDepth 100000 in
theorem c_X10_load (l : Launch) (D : va_G) (cA : Nat → ClassId) (h0 h1 h2 h3 h4 h5 h6 h7 h8 h9 h10 h11 : Nat) (sz : Nat) (q0 : Nat) (pm : Nat) (c0 : Nat) (v : vX10) (hq0 : v.2.2.2.2.2.2.2.2.2.2.2.1 = nI q0) (hq8 : q0 ≤ 80) (hpm : v.2.2.2.2.2.2.1 = nI pm) (hp6 : pm ≤ 6) (hk3 : v.1 3 = nI c0) (hc8 : c0 ≤ 8) : Met l yX10_load wsX10_load ({ frames := 4, cells := 0, slots := 0, locals := 86 }) (va_Pc [.ref h0] (zPre D (zty cA) (wX10 cA h0 h1 h2 h3 h4 h5 h6 h7 h8 h9 h10 h11 v) sz)) (va_Qi (fun (x : Int32) (u : vX10) => (x, u) = (fm_load pm c0 v)) (fun u => zPost D (zty cA) (va_A (wX10 cA h0 h1 h2 h3 h4 h5 h6 h7 h8 h9 h10 h11 v) sz) (wX10 cA h0 h1 h2 h3 h4 h5 h6 h7 h8 h9 h10 h11 u)) (va_A (wX10 cA h0 h1 h2 h3 h4 h5 h6 h7 h8 h9 h10 h11 v) sz)) 0 0 (va_A (wX10 cA h0 h1 h2 h3 h4 h5 h6 h7 h8 h9 h10 h11 v) sz) := by
  refine Met.ofW (cc := cX10_load) (maxL := 2) (ret := (some .int)) (by decide) rfl ?_
  intro p e s m args below meth c s₁ B hml hv
  obtain ⟨rfl, hsz, hP, hK, hD0, hE⟩ := hv
  have hx := B.exec
  have hb := B.bytes
  have hr := B.returns
  have hts := atoms_spec (ws := wsX10_load) B.pre
  have hown : s.vm.findClass RX10 = some m.cls := findClass_of_methodNamed B.named
  have hlocks := B.notSynchronized
  have hinX10 : ∀ w ∈ u_ws RX10 TX10 16, w ∈ wsX10_load := fun w h => List.mem_cons_of_mem _ (List.mem_append_right _ h)
  subst hsz
  have hD := hD0.self (sz := s.heap.size)
  generalize hAe : va_A (wX10 cA h0 h1 h2 h3 h4 h5 h6 h7 h8 h9 h10 h11 v) s.heap.size = A at hD hE ⊢
  have hA : ∀ q : Nat, s.heap.size ≤ q → A q := fun q h => by rw [← hAe]; exact Or.inr h
  have hS : va_S A s.heap s.heap [] := va_S.rf
  have hN : zN s := hE.1
  have hP : va_P D vwCl [(h0, .inr (10, [.ref h1, .ref h2, .ref h3, .ref h4, .ref h5, .ref h6, .int v.2.2.2.2.2.2.1, .ref h7, .ref h8, .ref h9, .ref h10, .int v.2.2.2.2.2.2.2.2.2.2.2.1, .int v.2.2.2.2.2.2.2.2.2.2.2.2.1, .int v.2.2.2.2.2.2.2.2.2.2.2.2.2.1, .ref h11, .int v.2.2.2.2.2.2.2.2.2.2.2.2.2.2.2])), (h1, .inl ((cA 1), 85, .inl v.1)), (h2, .inl ((cA 0), 9, .inr (.inl v.2.1))), (h3, .inl ((cA 1), 85, .inl v.2.2.1)), (h4, .inl ((cA 0), 9, .inr (.inl v.2.2.2.1))), (h5, .inl ((cA 1), 510, .inl v.2.2.2.2.1)), (h6, .inl ((cA 0), 54, .inr (.inl v.2.2.2.2.2.1))), (h7, .inl ((cA 1), 170, .inl v.2.2.2.2.2.2.2.1)), (h8, .inl ((cA 0), 18, .inr (.inl v.2.2.2.2.2.2.2.2.1))), (h9, .inl ((cA 2), 2, .inl v.2.2.2.2.2.2.2.2.2.1)), (h10, .inl ((cA 1), 80, .inl v.2.2.2.2.2.2.2.2.2.2.1)), (h11, .inl ((cA 1), 60, .inl v.2.2.2.2.2.2.2.2.2.2.2.2.2.2.1))] s.heap := hP
  have hD : va_D A [(h0, .inr (10, [.ref h1, .ref h2, .ref h3, .ref h4, .ref h5, .ref h6, .int v.2.2.2.2.2.2.1, .ref h7, .ref h8, .ref h9, .ref h10, .int v.2.2.2.2.2.2.2.2.2.2.2.1, .int v.2.2.2.2.2.2.2.2.2.2.2.2.1, .int v.2.2.2.2.2.2.2.2.2.2.2.2.2.1, .ref h11, .int v.2.2.2.2.2.2.2.2.2.2.2.2.2.2.2])), (h1, .inl ((cA 1), 85, .inl v.1)), (h2, .inl ((cA 0), 9, .inr (.inl v.2.1))), (h3, .inl ((cA 1), 85, .inl v.2.2.1)), (h4, .inl ((cA 0), 9, .inr (.inl v.2.2.2.1))), (h5, .inl ((cA 1), 510, .inl v.2.2.2.2.1)), (h6, .inl ((cA 0), 54, .inr (.inl v.2.2.2.2.2.1))), (h7, .inl ((cA 1), 170, .inl v.2.2.2.2.2.2.2.1)), (h8, .inl ((cA 0), 18, .inr (.inl v.2.2.2.2.2.2.2.2.1))), (h9, .inl ((cA 2), 2, .inl v.2.2.2.2.2.2.2.2.2.1)), (h10, .inl ((cA 1), 80, .inl v.2.2.2.2.2.2.2.2.2.2.1)), (h11, .inl ((cA 1), 60, .inl v.2.2.2.2.2.2.2.2.2.2.2.2.2.2.1))] := hD
  have hl := lv_entry ([.ref h0]) (n := 2) (Nat.le_of_ble_eq_true rfl)
  rw [lg_entry_eq]
  generalize (lg_sl ([.ref h0]) ++ List.replicate (2 - (lg_sl ([.ref h0])).length) Slot.unset).toArray = ls at hl ⊢
  have hl : lv_has ls 2 [(0, .ref h0)] := hl
  refine z_genQ (fun Q hQ => ?_)
  refine lv_aload_n hx hb dX10_load_0 rfl (lv_at hl 0 rfl) ?_
  refine z_Hi (wt := fun (u_1 : vX10) => [(h0, .inr (10, [.ref h1, .ref h2, .ref h3, .ref h4, .ref h5, .ref h6, .int u_1.2.2.2.2.2.2.1, .ref h7, .ref h8, .ref h9, .ref h10, .int u_1.2.2.2.2.2.2.2.2.2.2.2.1, .int u_1.2.2.2.2.2.2.2.2.2.2.2.2.1, .int u_1.2.2.2.2.2.2.2.2.2.2.2.2.2.1, .ref h11, .int u_1.2.2.2.2.2.2.2.2.2.2.2.2.2.2.2])), (h1, .inl ((cA 1), 85, .inl u_1.1)), (h2, .inl ((cA 0), 9, .inr (.inl u_1.2.1))), (h3, .inl ((cA 1), 85, .inl u_1.2.2.1)), (h4, .inl ((cA 0), 9, .inr (.inl u_1.2.2.2.1))), (h5, .inl ((cA 1), 510, .inl u_1.2.2.2.2.1)), (h6, .inl ((cA 0), 54, .inr (.inl u_1.2.2.2.2.2.1))), (h7, .inl ((cA 1), 170, .inl u_1.2.2.2.2.2.2.2.1)), (h8, .inl ((cA 0), 18, .inr (.inl u_1.2.2.2.2.2.2.2.2.1))), (h9, .inl ((cA 2), 2, .inl u_1.2.2.2.2.2.2.2.2.2.1)), (h10, .inl ((cA 1), 80, .inl u_1.2.2.2.2.2.2.2.2.2.2.1)), (h11, .inl ((cA 1), 60, .inl u_1.2.2.2.2.2.2.2.2.2.2.2.2.2.2.1))]) (va_runV (As := []) (rest := []) ⟨hx, hb, hml, hown, hts⟩ (c_X10_fault l D cA h0 h1 h2 h3 h4 h5 h6 h7 h8 h9 h10 h11 s.heap.size q0 v hq0 hq8) (cwV 0 hts gX10_load_X10_fault rfl rfl rfl (by decide +kernel) ⟨Nat.le_of_ble_eq_true rfl, Nat.le_of_ble_eq_true rfl⟩) (zqV hK hP hD hS hA hE (z_c1 (a := []) (b := []) rfl) 0 rfl rfl) rfl rfl hl.1 rfl (lv_room (Nat.le_of_ble_eq_true rfl)) dX10_load_1 ⟨Nat.le_of_ble_eq_true rfl, Nat.le_of_ble_eq_true rfl⟩) hP hD hS hA (z_c1 (a := []) (b := []) rfl) (fun u_1 => (z_c1' (a := []) (b := []) rfl)) (fun r_2 u_1 H locs eu_1 hP hD hS => ?_)
  have hP : va_P D vwCl [(h0, .inr (10, [.ref h1, .ref h2, .ref h3, .ref h4, .ref h5, .ref h6, .int u_1.2.2.2.2.2.2.1, .ref h7, .ref h8, .ref h9, .ref h10, .int u_1.2.2.2.2.2.2.2.2.2.2.2.1, .int u_1.2.2.2.2.2.2.2.2.2.2.2.2.1, .int u_1.2.2.2.2.2.2.2.2.2.2.2.2.2.1, .ref h11, .int u_1.2.2.2.2.2.2.2.2.2.2.2.2.2.2.2])), (h1, .inl ((cA 1), 85, .inl u_1.1)), (h2, .inl ((cA 0), 9, .inr (.inl u_1.2.1))), (h3, .inl ((cA 1), 85, .inl u_1.2.2.1)), (h4, .inl ((cA 0), 9, .inr (.inl u_1.2.2.2.1))), (h5, .inl ((cA 1), 510, .inl u_1.2.2.2.2.1)), (h6, .inl ((cA 0), 54, .inr (.inl u_1.2.2.2.2.2.1))), (h7, .inl ((cA 1), 170, .inl u_1.2.2.2.2.2.2.2.1)), (h8, .inl ((cA 0), 18, .inr (.inl u_1.2.2.2.2.2.2.2.2.1))), (h9, .inl ((cA 2), 2, .inl u_1.2.2.2.2.2.2.2.2.2.1)), (h10, .inl ((cA 1), 80, .inl u_1.2.2.2.2.2.2.2.2.2.2.1)), (h11, .inl ((cA 1), 60, .inl u_1.2.2.2.2.2.2.2.2.2.2.2.2.2.2.1))] H := hP
  have hD : va_D A [(h0, .inr (10, [.ref h1, .ref h2, .ref h3, .ref h4, .ref h5, .ref h6, .int u_1.2.2.2.2.2.2.1, .ref h7, .ref h8, .ref h9, .ref h10, .int u_1.2.2.2.2.2.2.2.2.2.2.2.1, .int u_1.2.2.2.2.2.2.2.2.2.2.2.2.1, .int u_1.2.2.2.2.2.2.2.2.2.2.2.2.2.1, .ref h11, .int u_1.2.2.2.2.2.2.2.2.2.2.2.2.2.2.2])), (h1, .inl ((cA 1), 85, .inl u_1.1)), (h2, .inl ((cA 0), 9, .inr (.inl u_1.2.1))), (h3, .inl ((cA 1), 85, .inl u_1.2.2.1)), (h4, .inl ((cA 0), 9, .inr (.inl u_1.2.2.2.1))), (h5, .inl ((cA 1), 510, .inl u_1.2.2.2.2.1)), (h6, .inl ((cA 0), 54, .inr (.inl u_1.2.2.2.2.2.1))), (h7, .inl ((cA 1), 170, .inl u_1.2.2.2.2.2.2.2.1)), (h8, .inl ((cA 0), 18, .inr (.inl u_1.2.2.2.2.2.2.2.2.1))), (h9, .inl ((cA 2), 2, .inl u_1.2.2.2.2.2.2.2.2.2.1)), (h10, .inl ((cA 1), 80, .inl u_1.2.2.2.2.2.2.2.2.2.2.1)), (h11, .inl ((cA 1), 60, .inl u_1.2.2.2.2.2.2.2.2.2.2.2.2.2.2.1))] := hD
  obtain ⟨er_2, eu_1⟩ := z_pr eu_1
  have Eu : u_1 = fm_fW v := eu_1.trans (fau_1 v)
  obtain ⟨r0, hfl⟩ := fW_n hq8 hq0
  rw [← Eu] at hfl
  have u1 : u_1.1 3 = nI c0 := by rw [Eu, fW_1]; exact hk3
  have u2 : u_1.2.2.2.2.2.2.1 = nI pm := by rw [Eu, fW_pm]; exact hpm
  have EF : fm_fault v = (r_2, u_1) := (Prod.ext er_2 eu_1).symm
  refine lv_bipush (v := -6) hx hb dX10_load_4 (by decide) ?_
  refine lv_icmp_eq (tgt := 12) hx hb dX10_load_6 (by decide) (fun c_3 => ?_) (fun c_3 => ?_)
  · skip
    refine lv_aload_n hx hb dX10_load_12 rfl (lv_at hl 0 rfl) ?_
    refine va_get (D := D) (ci := 10) (v := .ref h1) (C := RX10) (T := TX10) (N := 16) hx hb hts hinX10 hown hK hP 0 rfl rfl 0 (by decide) (hts (.fieldLink RX10 7 "GyroTrainerModel" "at" "[I") (List.mem_of_getElem? (i := 1) rfl)) (fun _ h9 => h9) rfl dX10_load_13 ?_
    refine lv_iconst (v := 3) hx hb dX10_load_16 (by decide) ?_
    refine z_iald (k := 3) hx hb hK hP 1 1 rfl rfl rfl (by decide) (by decide) dX10_load_17 ?_
    refine lv_aload_n hx hb dX10_load_18 rfl (lv_at hl 0 rfl) ?_
    refine va_get (D := D) (ci := 10) (v := .int u_1.2.2.2.2.2.2.2.2.2.2.2.2.2.2.2) (C := RX10) (T := TX10) (N := 16) hx hb hts hinX10 hown hK hP 0 rfl rfl 15 (by decide) (hts (.fieldLink RX10 204 "GyroTrainerModel" "readMany" "I") (List.mem_of_getElem? (i := 2) rfl)) (fun _ h9 => h9) rfl dX10_load_19 ?_
    refine lv_iadd hx hb dX10_load_22 ?_
    refine lv_bipush (v := 8) hx hb dX10_load_23 (by decide) ?_
    refine lv_icmp_le (tgt := 31) hx hb dX10_load_25 (by decide) (fun c_4 => ?_) (fun c_4 => ?_)
    · skip
      have h9z : nI (c0 + r0) ≤ 8 := by rw [← nI_add, ← u1, ← hfl.2.1]; exact c_4
      have hcr : c0 + r0 ≤ 8 := by exact (nI_leI (a := c0 + r0) (b := 8) (by have := hfl.2.2.1; omega) (by decide)).mp h9z
      refine lv_aload_n hx hb dX10_load_31 rfl (lv_at hl 0 rfl) ?_
      refine z_Hv (wt := fun (u_5 : vX10) => [(h0, .inr (10, [.ref h1, .ref h2, .ref h3, .ref h4, .ref h5, .ref h6, .int u_5.2.2.2.2.2.2.1, .ref h7, .ref h8, .ref h9, .ref h10, .int u_5.2.2.2.2.2.2.2.2.2.2.2.1, .int u_5.2.2.2.2.2.2.2.2.2.2.2.2.1, .int u_5.2.2.2.2.2.2.2.2.2.2.2.2.2.1, .ref h11, .int u_5.2.2.2.2.2.2.2.2.2.2.2.2.2.2.2])), (h1, .inl ((cA 1), 85, .inl u_5.1)), (h2, .inl ((cA 0), 9, .inr (.inl u_5.2.1))), (h3, .inl ((cA 1), 85, .inl u_5.2.2.1)), (h4, .inl ((cA 0), 9, .inr (.inl u_5.2.2.2.1))), (h5, .inl ((cA 1), 510, .inl u_5.2.2.2.2.1)), (h6, .inl ((cA 0), 54, .inr (.inl u_5.2.2.2.2.2.1))), (h7, .inl ((cA 1), 170, .inl u_5.2.2.2.2.2.2.2.1)), (h8, .inl ((cA 0), 18, .inr (.inl u_5.2.2.2.2.2.2.2.2.1))), (h9, .inl ((cA 2), 2, .inl u_5.2.2.2.2.2.2.2.2.2.1)), (h10, .inl ((cA 1), 80, .inl u_5.2.2.2.2.2.2.2.2.2.2.1)), (h11, .inl ((cA 1), 60, .inl u_5.2.2.2.2.2.2.2.2.2.2.2.2.2.2.1))]) (va_runV (As := []) (rest := []) ⟨hx, hb, hml, hown, hts⟩ (c_X10_keep l D cA h0 h1 h2 h3 h4 h5 h6 h7 h8 h9 h10 h11 H.size pm u_1 u2 hp6) (cwV 0 hts gX10_load_X10_keep rfl rfl rfl (by decide +kernel) ⟨Nat.le_of_ble_eq_true rfl, Nat.le_of_ble_eq_true rfl⟩) (zqV hK hP hD hS hA hE (z_c1 (a := []) (b := []) rfl) 0 rfl rfl) rfl rfl hl.1 rfl (lv_room (Nat.le_of_ble_eq_true rfl)) dX10_load_32 ⟨Nat.le_of_ble_eq_true rfl, Nat.le_of_ble_eq_true rfl⟩) hP hD hS hA (z_c1 (a := []) (b := []) rfl) (fun u_5 => (z_c1' (a := []) (b := []) rfl)) (fun u_5 H locs eu_5 hP hD hS => ?_)
      have hP : va_P D vwCl [(h0, .inr (10, [.ref h1, .ref h2, .ref h3, .ref h4, .ref h5, .ref h6, .int u_5.2.2.2.2.2.2.1, .ref h7, .ref h8, .ref h9, .ref h10, .int u_5.2.2.2.2.2.2.2.2.2.2.2.1, .int u_5.2.2.2.2.2.2.2.2.2.2.2.2.1, .int u_5.2.2.2.2.2.2.2.2.2.2.2.2.2.1, .ref h11, .int u_5.2.2.2.2.2.2.2.2.2.2.2.2.2.2.2])), (h1, .inl ((cA 1), 85, .inl u_5.1)), (h2, .inl ((cA 0), 9, .inr (.inl u_5.2.1))), (h3, .inl ((cA 1), 85, .inl u_5.2.2.1)), (h4, .inl ((cA 0), 9, .inr (.inl u_5.2.2.2.1))), (h5, .inl ((cA 1), 510, .inl u_5.2.2.2.2.1)), (h6, .inl ((cA 0), 54, .inr (.inl u_5.2.2.2.2.2.1))), (h7, .inl ((cA 1), 170, .inl u_5.2.2.2.2.2.2.2.1)), (h8, .inl ((cA 0), 18, .inr (.inl u_5.2.2.2.2.2.2.2.2.1))), (h9, .inl ((cA 2), 2, .inl u_5.2.2.2.2.2.2.2.2.2.1)), (h10, .inl ((cA 1), 80, .inl u_5.2.2.2.2.2.2.2.2.2.2.1)), (h11, .inl ((cA 1), 60, .inl u_5.2.2.2.2.2.2.2.2.2.2.2.2.2.2.1))] H := hP
      have hD : va_D A [(h0, .inr (10, [.ref h1, .ref h2, .ref h3, .ref h4, .ref h5, .ref h6, .int u_5.2.2.2.2.2.2.1, .ref h7, .ref h8, .ref h9, .ref h10, .int u_5.2.2.2.2.2.2.2.2.2.2.2.1, .int u_5.2.2.2.2.2.2.2.2.2.2.2.2.1, .int u_5.2.2.2.2.2.2.2.2.2.2.2.2.2.1, .ref h11, .int u_5.2.2.2.2.2.2.2.2.2.2.2.2.2.2.2])), (h1, .inl ((cA 1), 85, .inl u_5.1)), (h2, .inl ((cA 0), 9, .inr (.inl u_5.2.1))), (h3, .inl ((cA 1), 85, .inl u_5.2.2.1)), (h4, .inl ((cA 0), 9, .inr (.inl u_5.2.2.2.1))), (h5, .inl ((cA 1), 510, .inl u_5.2.2.2.2.1)), (h6, .inl ((cA 0), 54, .inr (.inl u_5.2.2.2.2.2.1))), (h7, .inl ((cA 1), 170, .inl u_5.2.2.2.2.2.2.2.1)), (h8, .inl ((cA 0), 18, .inr (.inl u_5.2.2.2.2.2.2.2.2.1))), (h9, .inl ((cA 2), 2, .inl u_5.2.2.2.2.2.2.2.2.2.1)), (h10, .inl ((cA 1), 80, .inl u_5.2.2.2.2.2.2.2.2.2.2.1)), (h11, .inl ((cA 1), 60, .inl u_5.2.2.2.2.2.2.2.2.2.2.2.2.2.2.1))] := hD
      have km : frm u_5 = nI r0 := by rw [eu_5, kp_m]; exact hfl.2.1
      have k1 : u_5.1 3 = nI c0 := by rw [eu_5, kp_1]; exact u1
      have r12 : r0 ≤ 12 := hfl.2.2.1
      refine lv_iconst (v := 0) hx hb dX10_load_35 (by decide) ?_
      refine lv_istore_n (lv' := [(1, .int (0 : Int32)), (0, .ref h0)]) hx hb dX10_load_36 rfl hl (by decide) rfl (fun ls hl => ?_)
      have L37 : ∀ (zn : Nat) (k : Nat), r0 - k < zn → (k ≤ r0) → ∀ (H : Heap) (locs : List Loc), va_P D vwCl [(h0, .inr (10, [.ref h1, .ref h2, .ref h3, .ref h4, .ref h5, .ref h6, .int (fm_lds c0 (frd u_5) u_5.1 k, u_5.2).2.2.2.2.2.2.1, .ref h7, .ref h8, .ref h9, .ref h10, .int (fm_lds c0 (frd u_5) u_5.1 k, u_5.2).2.2.2.2.2.2.2.2.2.2.2.1, .int (fm_lds c0 (frd u_5) u_5.1 k, u_5.2).2.2.2.2.2.2.2.2.2.2.2.2.1, .int (fm_lds c0 (frd u_5) u_5.1 k, u_5.2).2.2.2.2.2.2.2.2.2.2.2.2.2.1, .ref h11, .int (fm_lds c0 (frd u_5) u_5.1 k, u_5.2).2.2.2.2.2.2.2.2.2.2.2.2.2.2.2])), (h1, .inl ((cA 1), 85, .inl (fm_lds c0 (frd u_5) u_5.1 k, u_5.2).1)), (h2, .inl ((cA 0), 9, .inr (.inl (fm_lds c0 (frd u_5) u_5.1 k, u_5.2).2.1))), (h3, .inl ((cA 1), 85, .inl (fm_lds c0 (frd u_5) u_5.1 k, u_5.2).2.2.1)), (h4, .inl ((cA 0), 9, .inr (.inl (fm_lds c0 (frd u_5) u_5.1 k, u_5.2).2.2.2.1))), (h5, .inl ((cA 1), 510, .inl (fm_lds c0 (frd u_5) u_5.1 k, u_5.2).2.2.2.2.1)), (h6, .inl ((cA 0), 54, .inr (.inl (fm_lds c0 (frd u_5) u_5.1 k, u_5.2).2.2.2.2.2.1))), (h7, .inl ((cA 1), 170, .inl (fm_lds c0 (frd u_5) u_5.1 k, u_5.2).2.2.2.2.2.2.2.1)), (h8, .inl ((cA 0), 18, .inr (.inl (fm_lds c0 (frd u_5) u_5.1 k, u_5.2).2.2.2.2.2.2.2.2.1))), (h9, .inl ((cA 2), 2, .inl (fm_lds c0 (frd u_5) u_5.1 k, u_5.2).2.2.2.2.2.2.2.2.2.1)), (h10, .inl ((cA 1), 80, .inl (fm_lds c0 (frd u_5) u_5.1 k, u_5.2).2.2.2.2.2.2.2.2.2.2.1)), (h11, .inl ((cA 1), 60, .inl (fm_lds c0 (frd u_5) u_5.1 k, u_5.2).2.2.2.2.2.2.2.2.2.2.2.2.2.2.1))] H → va_D A [(h0, .inr (10, [.ref h1, .ref h2, .ref h3, .ref h4, .ref h5, .ref h6, .int (fm_lds c0 (frd u_5) u_5.1 k, u_5.2).2.2.2.2.2.2.1, .ref h7, .ref h8, .ref h9, .ref h10, .int (fm_lds c0 (frd u_5) u_5.1 k, u_5.2).2.2.2.2.2.2.2.2.2.2.2.1, .int (fm_lds c0 (frd u_5) u_5.1 k, u_5.2).2.2.2.2.2.2.2.2.2.2.2.2.1, .int (fm_lds c0 (frd u_5) u_5.1 k, u_5.2).2.2.2.2.2.2.2.2.2.2.2.2.2.1, .ref h11, .int (fm_lds c0 (frd u_5) u_5.1 k, u_5.2).2.2.2.2.2.2.2.2.2.2.2.2.2.2.2])), (h1, .inl ((cA 1), 85, .inl (fm_lds c0 (frd u_5) u_5.1 k, u_5.2).1)), (h2, .inl ((cA 0), 9, .inr (.inl (fm_lds c0 (frd u_5) u_5.1 k, u_5.2).2.1))), (h3, .inl ((cA 1), 85, .inl (fm_lds c0 (frd u_5) u_5.1 k, u_5.2).2.2.1)), (h4, .inl ((cA 0), 9, .inr (.inl (fm_lds c0 (frd u_5) u_5.1 k, u_5.2).2.2.2.1))), (h5, .inl ((cA 1), 510, .inl (fm_lds c0 (frd u_5) u_5.1 k, u_5.2).2.2.2.2.1)), (h6, .inl ((cA 0), 54, .inr (.inl (fm_lds c0 (frd u_5) u_5.1 k, u_5.2).2.2.2.2.2.1))), (h7, .inl ((cA 1), 170, .inl (fm_lds c0 (frd u_5) u_5.1 k, u_5.2).2.2.2.2.2.2.2.1)), (h8, .inl ((cA 0), 18, .inr (.inl (fm_lds c0 (frd u_5) u_5.1 k, u_5.2).2.2.2.2.2.2.2.2.1))), (h9, .inl ((cA 2), 2, .inl (fm_lds c0 (frd u_5) u_5.1 k, u_5.2).2.2.2.2.2.2.2.2.2.1)), (h10, .inl ((cA 1), 80, .inl (fm_lds c0 (frd u_5) u_5.1 k, u_5.2).2.2.2.2.2.2.2.2.2.2.1)), (h11, .inl ((cA 1), 60, .inl (fm_lds c0 (frd u_5) u_5.1 k, u_5.2).2.2.2.2.2.2.2.2.2.2.2.2.2.2.1))] → va_S A s.heap H locs → ∀ (ls : Array Slot), lv_has ls 2 [(1, .int (nI k)), (0, .ref h0)] → W p l e (headSpec wsX10_load ({ frames := 4, cells := 0, slots := 0, locals := 86 })).room s m (([.ref h0] : List Value).toArray) below meth c H locs 0 0 Q (F0 m 37 ls []) := by
        intro zn
        induction zn with
        | zero =>
          intro k hm
          exact absurd hm (Nat.not_lt_zero _)
        | succ zn ih =>
          intro k hm hk H locs hP hD hS ls hl
          refine lv_iload_n hx hb dX10_load_37 rfl (lv_at hl 0 rfl) ?_
          refine lv_aload_n hx hb dX10_load_38 rfl (lv_at hl 1 rfl) ?_
          refine va_get (D := D) (ci := 10) (v := .int (fm_lds c0 (frd u_5) u_5.1 k, u_5.2).2.2.2.2.2.2.2.2.2.2.2.2.2.2.2) (C := RX10) (T := TX10) (N := 16) hx hb hts hinX10 hown hK hP 0 rfl rfl 15 (by decide) (hts (.fieldLink RX10 204 "GyroTrainerModel" "readMany" "I") (List.mem_of_getElem? (i := 2) rfl)) (fun _ h9 => h9) rfl dX10_load_39 ?_
          refine lv_icmp_ge (tgt := 83) hx hb dX10_load_42 (by decide) (fun c_7 => ?_) (fun c_7 => ?_)
          · skip
            have ekr : r0 = k := Nat.le_antisymm ((nI_leI (a := r0) (b := k) (by omega) (by omega)).mp (by rw [← km]; exact c_7)) hk
            refine lv_aload_n hx hb dX10_load_83 rfl (lv_at hl 1 rfl) ?_
            refine lv_iconst (v := 0) hx hb dX10_load_84 (by decide) ?_
            refine va_put (D := D) (ci := 10) (v := .int (0 : Int32)) (ty := .int) (C := RX10) (T := TX10) (N := 16) hx hb hts hinX10 tyX10 tyX10_ok nmX10 hown hK hP hD hS 0 rfl rfl 11 (by decide) (hts (.fieldLink RX10 177 "GyroTrainerModel" "padMany" "I") (List.mem_of_getElem? (i := 4) rfl)) (fun _ h9 => h9) rfl (by decide +kernel) rfl rfl (Nat.le_of_ble_eq_true rfl) dX10_load_85 (fun H locs hP hD hS => ?_)
            have hP : va_P D vwCl [(h0, .inr (10, [.ref h1, .ref h2, .ref h3, .ref h4, .ref h5, .ref h6, .int (fm_lds c0 (frd u_5) u_5.1 k, u_5.2).2.2.2.2.2.2.1, .ref h7, .ref h8, .ref h9, .ref h10, .int (0 : Int32), .int (fm_lds c0 (frd u_5) u_5.1 k, u_5.2).2.2.2.2.2.2.2.2.2.2.2.2.1, .int (fm_lds c0 (frd u_5) u_5.1 k, u_5.2).2.2.2.2.2.2.2.2.2.2.2.2.2.1, .ref h11, .int (fm_lds c0 (frd u_5) u_5.1 k, u_5.2).2.2.2.2.2.2.2.2.2.2.2.2.2.2.2])), (h1, .inl ((cA 1), 85, .inl (fm_lds c0 (frd u_5) u_5.1 k, u_5.2).1)), (h2, .inl ((cA 0), 9, .inr (.inl (fm_lds c0 (frd u_5) u_5.1 k, u_5.2).2.1))), (h3, .inl ((cA 1), 85, .inl (fm_lds c0 (frd u_5) u_5.1 k, u_5.2).2.2.1)), (h4, .inl ((cA 0), 9, .inr (.inl (fm_lds c0 (frd u_5) u_5.1 k, u_5.2).2.2.2.1))), (h5, .inl ((cA 1), 510, .inl (fm_lds c0 (frd u_5) u_5.1 k, u_5.2).2.2.2.2.1)), (h6, .inl ((cA 0), 54, .inr (.inl (fm_lds c0 (frd u_5) u_5.1 k, u_5.2).2.2.2.2.2.1))), (h7, .inl ((cA 1), 170, .inl (fm_lds c0 (frd u_5) u_5.1 k, u_5.2).2.2.2.2.2.2.2.1)), (h8, .inl ((cA 0), 18, .inr (.inl (fm_lds c0 (frd u_5) u_5.1 k, u_5.2).2.2.2.2.2.2.2.2.1))), (h9, .inl ((cA 2), 2, .inl (fm_lds c0 (frd u_5) u_5.1 k, u_5.2).2.2.2.2.2.2.2.2.2.1)), (h10, .inl ((cA 1), 80, .inl (fm_lds c0 (frd u_5) u_5.1 k, u_5.2).2.2.2.2.2.2.2.2.2.2.1)), (h11, .inl ((cA 1), 60, .inl (fm_lds c0 (frd u_5) u_5.1 k, u_5.2).2.2.2.2.2.2.2.2.2.2.2.2.2.2.1))] H := hP
            have hD : va_D A [(h0, .inr (10, [.ref h1, .ref h2, .ref h3, .ref h4, .ref h5, .ref h6, .int (fm_lds c0 (frd u_5) u_5.1 k, u_5.2).2.2.2.2.2.2.1, .ref h7, .ref h8, .ref h9, .ref h10, .int (0 : Int32), .int (fm_lds c0 (frd u_5) u_5.1 k, u_5.2).2.2.2.2.2.2.2.2.2.2.2.2.1, .int (fm_lds c0 (frd u_5) u_5.1 k, u_5.2).2.2.2.2.2.2.2.2.2.2.2.2.2.1, .ref h11, .int (fm_lds c0 (frd u_5) u_5.1 k, u_5.2).2.2.2.2.2.2.2.2.2.2.2.2.2.2.2])), (h1, .inl ((cA 1), 85, .inl (fm_lds c0 (frd u_5) u_5.1 k, u_5.2).1)), (h2, .inl ((cA 0), 9, .inr (.inl (fm_lds c0 (frd u_5) u_5.1 k, u_5.2).2.1))), (h3, .inl ((cA 1), 85, .inl (fm_lds c0 (frd u_5) u_5.1 k, u_5.2).2.2.1)), (h4, .inl ((cA 0), 9, .inr (.inl (fm_lds c0 (frd u_5) u_5.1 k, u_5.2).2.2.2.1))), (h5, .inl ((cA 1), 510, .inl (fm_lds c0 (frd u_5) u_5.1 k, u_5.2).2.2.2.2.1)), (h6, .inl ((cA 0), 54, .inr (.inl (fm_lds c0 (frd u_5) u_5.1 k, u_5.2).2.2.2.2.2.1))), (h7, .inl ((cA 1), 170, .inl (fm_lds c0 (frd u_5) u_5.1 k, u_5.2).2.2.2.2.2.2.2.1)), (h8, .inl ((cA 0), 18, .inr (.inl (fm_lds c0 (frd u_5) u_5.1 k, u_5.2).2.2.2.2.2.2.2.2.1))), (h9, .inl ((cA 2), 2, .inl (fm_lds c0 (frd u_5) u_5.1 k, u_5.2).2.2.2.2.2.2.2.2.2.1)), (h10, .inl ((cA 1), 80, .inl (fm_lds c0 (frd u_5) u_5.1 k, u_5.2).2.2.2.2.2.2.2.2.2.2.1)), (h11, .inl ((cA 1), 60, .inl (fm_lds c0 (frd u_5) u_5.1 k, u_5.2).2.2.2.2.2.2.2.2.2.2.2.2.2.2.1))] := hD
            refine lv_aload_n hx hb dX10_load_88 rfl (lv_at hl 1 rfl) ?_
            refine va_get (D := D) (ci := 10) (v := .ref h1) (C := RX10) (T := TX10) (N := 16) hx hb hts hinX10 hown hK hP 0 rfl rfl 0 (by decide) (hts (.fieldLink RX10 7 "GyroTrainerModel" "at" "[I") (List.mem_of_getElem? (i := 1) rfl)) (fun _ h9 => h9) rfl dX10_load_89 ?_
            refine lv_iconst (v := 3) hx hb dX10_load_92 (by decide) ?_
            refine z_iald (k := 3) hx hb hK hP 1 1 rfl rfl rfl (by decide) (by decide) dX10_load_93 ?_
            have e9 : (fm_load pm c0 v) = (((fm_lds c0 (frd u_5) u_5.1 k, u_5.2).1 3), ((fm_lds c0 (frd u_5) u_5.1 k, u_5.2).1, (fm_lds c0 (frd u_5) u_5.1 k, u_5.2).2.1, (fm_lds c0 (frd u_5) u_5.1 k, u_5.2).2.2.1, (fm_lds c0 (frd u_5) u_5.1 k, u_5.2).2.2.2.1, (fm_lds c0 (frd u_5) u_5.1 k, u_5.2).2.2.2.2.1, (fm_lds c0 (frd u_5) u_5.1 k, u_5.2).2.2.2.2.2.1, (fm_lds c0 (frd u_5) u_5.1 k, u_5.2).2.2.2.2.2.2.1, (fm_lds c0 (frd u_5) u_5.1 k, u_5.2).2.2.2.2.2.2.2.1, (fm_lds c0 (frd u_5) u_5.1 k, u_5.2).2.2.2.2.2.2.2.2.1, (fm_lds c0 (frd u_5) u_5.1 k, u_5.2).2.2.2.2.2.2.2.2.2.1, (fm_lds c0 (frd u_5) u_5.1 k, u_5.2).2.2.2.2.2.2.2.2.2.2.1, (0 : Int32), (fm_lds c0 (frd u_5) u_5.1 k, u_5.2).2.2.2.2.2.2.2.2.2.2.2.2)) := by unfold fm_load; rw [EF, if_pos c_3, if_pos c_4, ← eu_5, lds_e c0 k u_5 (km.trans (congrArg nI ekr)) (by omega)] <;> rfl
            have hP9 : va_P D vwCl (wX10 cA h0 h1 h2 h3 h4 h5 h6 h7 h8 h9 h10 h11 (((fm_lds c0 (frd u_5) u_5.1 k, u_5.2).1, (fm_lds c0 (frd u_5) u_5.1 k, u_5.2).2.1, (fm_lds c0 (frd u_5) u_5.1 k, u_5.2).2.2.1, (fm_lds c0 (frd u_5) u_5.1 k, u_5.2).2.2.2.1, (fm_lds c0 (frd u_5) u_5.1 k, u_5.2).2.2.2.2.1, (fm_lds c0 (frd u_5) u_5.1 k, u_5.2).2.2.2.2.2.1, (fm_lds c0 (frd u_5) u_5.1 k, u_5.2).2.2.2.2.2.2.1, (fm_lds c0 (frd u_5) u_5.1 k, u_5.2).2.2.2.2.2.2.2.1, (fm_lds c0 (frd u_5) u_5.1 k, u_5.2).2.2.2.2.2.2.2.2.1, (fm_lds c0 (frd u_5) u_5.1 k, u_5.2).2.2.2.2.2.2.2.2.2.1, (fm_lds c0 (frd u_5) u_5.1 k, u_5.2).2.2.2.2.2.2.2.2.2.2.1, (0 : Int32), (fm_lds c0 (frd u_5) u_5.1 k, u_5.2).2.2.2.2.2.2.2.2.2.2.2.2) : vX10)) H := hP
            have hD9 : va_D A (wX10 cA h0 h1 h2 h3 h4 h5 h6 h7 h8 h9 h10 h11 (((fm_lds c0 (frd u_5) u_5.1 k, u_5.2).1, (fm_lds c0 (frd u_5) u_5.1 k, u_5.2).2.1, (fm_lds c0 (frd u_5) u_5.1 k, u_5.2).2.2.1, (fm_lds c0 (frd u_5) u_5.1 k, u_5.2).2.2.2.1, (fm_lds c0 (frd u_5) u_5.1 k, u_5.2).2.2.2.2.1, (fm_lds c0 (frd u_5) u_5.1 k, u_5.2).2.2.2.2.2.1, (fm_lds c0 (frd u_5) u_5.1 k, u_5.2).2.2.2.2.2.2.1, (fm_lds c0 (frd u_5) u_5.1 k, u_5.2).2.2.2.2.2.2.2.1, (fm_lds c0 (frd u_5) u_5.1 k, u_5.2).2.2.2.2.2.2.2.2.1, (fm_lds c0 (frd u_5) u_5.1 k, u_5.2).2.2.2.2.2.2.2.2.2.1, (fm_lds c0 (frd u_5) u_5.1 k, u_5.2).2.2.2.2.2.2.2.2.2.2.1, (0 : Int32), (fm_lds c0 (frd u_5) u_5.1 k, u_5.2).2.2.2.2.2.2.2.2.2.2.2.2) : vX10)) := hD
            subst hQ
            exact W.iret (v := ((fm_lds c0 (frd u_5) u_5.1 k, u_5.2).1 3)) hx hb hr (fun t ht hW => ⟨⟨((fm_lds c0 (frd u_5) u_5.1 k, u_5.2).1 3), ((fm_lds c0 (frd u_5) u_5.1 k, u_5.2).1, (fm_lds c0 (frd u_5) u_5.1 k, u_5.2).2.1, (fm_lds c0 (frd u_5) u_5.1 k, u_5.2).2.2.1, (fm_lds c0 (frd u_5) u_5.1 k, u_5.2).2.2.2.1, (fm_lds c0 (frd u_5) u_5.1 k, u_5.2).2.2.2.2.1, (fm_lds c0 (frd u_5) u_5.1 k, u_5.2).2.2.2.2.2.1, (fm_lds c0 (frd u_5) u_5.1 k, u_5.2).2.2.2.2.2.2.1, (fm_lds c0 (frd u_5) u_5.1 k, u_5.2).2.2.2.2.2.2.2.1, (fm_lds c0 (frd u_5) u_5.1 k, u_5.2).2.2.2.2.2.2.2.2.1, (fm_lds c0 (frd u_5) u_5.1 k, u_5.2).2.2.2.2.2.2.2.2.2.1, (fm_lds c0 (frd u_5) u_5.1 k, u_5.2).2.2.2.2.2.2.2.2.2.2.1, (0 : Int32), (fm_lds c0 (frd u_5) u_5.1 k, u_5.2).2.2.2.2.2.2.2.2.2.2.2.2), rfl, e9.symm, ⟨by rw [ht]; exact hP9, va_K.moved hW.alike hK, hD9⟩⟩, hS.F ht⟩) hS.2.2 dX10_load_94
          · skip
            have hkr : k < r0 := Nat.lt_of_not_le (fun h => c_7 (Eq.subst (motive := fun z => z ≤ nI k) km.symm (nI_le (a := r0) (b := k) h (by omega))))
            refine lv_aload_n hx hb dX10_load_45 rfl (lv_at hl 1 rfl) ?_
            refine lv_aload_n hx hb dX10_load_46 rfl (lv_at hl 1 rfl) ?_
            refine va_get (D := D) (ci := 10) (v := .ref h11) (C := RX10) (T := TX10) (N := 16) hx hb hts hinX10 hown hK hP 0 rfl rfl 14 (by decide) (hts (.fieldLink RX10 42 "GyroTrainerModel" "read" "[I") (List.mem_of_getElem? (i := 3) rfl)) (fun _ h9 => h9) rfl dX10_load_47 ?_
            refine lv_iconst (v := 3) hx hb dX10_load_50 (by decide) ?_
            refine lv_iload_n hx hb dX10_load_51 rfl (lv_at hl 0 rfl) ?_
            refine lv_imul hx hb dX10_load_52 ?_
            refine z_iald (k := (3 * k)) hx hb hK hP 11 1 rfl rfl (pk_mul 3 k) (by omega) (by decide) dX10_load_53 ?_
            refine lv_aload_n hx hb dX10_load_54 rfl (lv_at hl 1 rfl) ?_
            refine va_get (D := D) (ci := 10) (v := .ref h11) (C := RX10) (T := TX10) (N := 16) hx hb hts hinX10 hown hK hP 0 rfl rfl 14 (by decide) (hts (.fieldLink RX10 42 "GyroTrainerModel" "read" "[I") (List.mem_of_getElem? (i := 3) rfl)) (fun _ h9 => h9) rfl dX10_load_55 ?_
            refine lv_iconst (v := 3) hx hb dX10_load_58 (by decide) ?_
            refine lv_iload_n hx hb dX10_load_59 rfl (lv_at hl 0 rfl) ?_
            refine lv_imul hx hb dX10_load_60 ?_
            refine lv_iconst (v := 1) hx hb dX10_load_61 (by decide) ?_
            refine lv_iadd hx hb dX10_load_62 ?_
            refine z_iald (k := (3 * k + 1)) hx hb hK hP 11 1 rfl rfl (by rw [show (3 : Int32) * nI k = nI (3 * k) from pk_mul 3 k]; exact nI_add (3 * k) 1) (by omega) (by decide) dX10_load_63 ?_
            refine lv_aload_n hx hb dX10_load_64 rfl (lv_at hl 1 rfl) ?_
            refine va_get (D := D) (ci := 10) (v := .ref h11) (C := RX10) (T := TX10) (N := 16) hx hb hts hinX10 hown hK hP 0 rfl rfl 14 (by decide) (hts (.fieldLink RX10 42 "GyroTrainerModel" "read" "[I") (List.mem_of_getElem? (i := 3) rfl)) (fun _ h9 => h9) rfl dX10_load_65 ?_
            refine lv_iconst (v := 3) hx hb dX10_load_68 (by decide) ?_
            refine lv_iload_n hx hb dX10_load_69 rfl (lv_at hl 0 rfl) ?_
            refine lv_imul hx hb dX10_load_70 ?_
            refine lv_iconst (v := 2) hx hb dX10_load_71 (by decide) ?_
            refine lv_iadd hx hb dX10_load_72 ?_
            refine z_iald (k := (3 * k + 2)) hx hb hK hP 11 1 rfl rfl (by rw [show (3 : Int32) * nI k = nI (3 * k) from pk_mul 3 k]; exact nI_add (3 * k) 2) (by omega) (by decide) dX10_load_73 ?_
            refine z_Hv (wt := fun (u_8 : vX10) => [(h0, .inr (10, [.ref h1, .ref h2, .ref h3, .ref h4, .ref h5, .ref h6, .int u_8.2.2.2.2.2.2.1, .ref h7, .ref h8, .ref h9, .ref h10, .int u_8.2.2.2.2.2.2.2.2.2.2.2.1, .int u_8.2.2.2.2.2.2.2.2.2.2.2.2.1, .int u_8.2.2.2.2.2.2.2.2.2.2.2.2.2.1, .ref h11, .int u_8.2.2.2.2.2.2.2.2.2.2.2.2.2.2.2])), (h1, .inl ((cA 1), 85, .inl u_8.1)), (h2, .inl ((cA 0), 9, .inr (.inl u_8.2.1))), (h3, .inl ((cA 1), 85, .inl u_8.2.2.1)), (h4, .inl ((cA 0), 9, .inr (.inl u_8.2.2.2.1))), (h5, .inl ((cA 1), 510, .inl u_8.2.2.2.2.1)), (h6, .inl ((cA 0), 54, .inr (.inl u_8.2.2.2.2.2.1))), (h7, .inl ((cA 1), 170, .inl u_8.2.2.2.2.2.2.2.1)), (h8, .inl ((cA 0), 18, .inr (.inl u_8.2.2.2.2.2.2.2.2.1))), (h9, .inl ((cA 2), 2, .inl u_8.2.2.2.2.2.2.2.2.2.1)), (h10, .inl ((cA 1), 80, .inl u_8.2.2.2.2.2.2.2.2.2.2.1)), (h11, .inl ((cA 1), 60, .inl u_8.2.2.2.2.2.2.2.2.2.2.2.2.2.2.1))]) (va_runV (As := [.int ((fm_lds c0 (frd u_5) u_5.1 k, u_5.2).2.2.2.2.2.2.2.2.2.2.2.2.2.2.1 ((3 * k))), .int ((fm_lds c0 (frd u_5) u_5.1 k, u_5.2).2.2.2.2.2.2.2.2.2.2.2.2.2.2.1 ((3 * k + 1))), .int ((fm_lds c0 (frd u_5) u_5.1 k, u_5.2).2.2.2.2.2.2.2.2.2.2.2.2.2.2.1 ((3 * k + 2)))]) (rest := []) ⟨hx, hb, hml, hown, hts⟩ (c_X10_addLeg l D cA h0 h1 h2 h3 h4 h5 h6 h7 h8 h9 h10 h11 H.size (c0 + k) (fm_lds c0 (frd u_5) u_5.1 k, u_5.2) ((fm_lds c0 (frd u_5) u_5.1 k, u_5.2).2.2.2.2.2.2.2.2.2.2.2.2.2.2.1 ((3 * k))) ((fm_lds c0 (frd u_5) u_5.1 k, u_5.2).2.2.2.2.2.2.2.2.2.2.2.2.2.2.1 ((3 * k + 1))) ((fm_lds c0 (frd u_5) u_5.1 k, u_5.2).2.2.2.2.2.2.2.2.2.2.2.2.2.2.1 ((3 * k + 2))) (lds_3 k1 k) (by omega)) (cwV 3 hts gX10_load_X10_addLeg rfl rfl rfl (by decide +kernel) ⟨Nat.le_of_ble_eq_true rfl, Nat.le_of_ble_eq_true rfl⟩) (zqV hK hP hD hS hA hE (z_c1 (a := []) (b := []) rfl) 0 rfl rfl) rfl rfl hl.1 rfl (lv_room (Nat.le_of_ble_eq_true rfl)) dX10_load_74 ⟨Nat.le_of_ble_eq_true rfl, Nat.le_of_ble_eq_true rfl⟩) hP hD hS hA (z_c1 (a := []) (b := []) rfl) (fun u_8 => (z_c1' (a := []) (b := []) rfl)) (fun u_8 H locs eu_8 hP hD hS => ?_)
            have hP : va_P D vwCl [(h0, .inr (10, [.ref h1, .ref h2, .ref h3, .ref h4, .ref h5, .ref h6, .int u_8.2.2.2.2.2.2.1, .ref h7, .ref h8, .ref h9, .ref h10, .int u_8.2.2.2.2.2.2.2.2.2.2.2.1, .int u_8.2.2.2.2.2.2.2.2.2.2.2.2.1, .int u_8.2.2.2.2.2.2.2.2.2.2.2.2.2.1, .ref h11, .int u_8.2.2.2.2.2.2.2.2.2.2.2.2.2.2.2])), (h1, .inl ((cA 1), 85, .inl u_8.1)), (h2, .inl ((cA 0), 9, .inr (.inl u_8.2.1))), (h3, .inl ((cA 1), 85, .inl u_8.2.2.1)), (h4, .inl ((cA 0), 9, .inr (.inl u_8.2.2.2.1))), (h5, .inl ((cA 1), 510, .inl u_8.2.2.2.2.1)), (h6, .inl ((cA 0), 54, .inr (.inl u_8.2.2.2.2.2.1))), (h7, .inl ((cA 1), 170, .inl u_8.2.2.2.2.2.2.2.1)), (h8, .inl ((cA 0), 18, .inr (.inl u_8.2.2.2.2.2.2.2.2.1))), (h9, .inl ((cA 2), 2, .inl u_8.2.2.2.2.2.2.2.2.2.1)), (h10, .inl ((cA 1), 80, .inl u_8.2.2.2.2.2.2.2.2.2.2.1)), (h11, .inl ((cA 1), 60, .inl u_8.2.2.2.2.2.2.2.2.2.2.2.2.2.2.1))] H := hP
            have hD : va_D A [(h0, .inr (10, [.ref h1, .ref h2, .ref h3, .ref h4, .ref h5, .ref h6, .int u_8.2.2.2.2.2.2.1, .ref h7, .ref h8, .ref h9, .ref h10, .int u_8.2.2.2.2.2.2.2.2.2.2.2.1, .int u_8.2.2.2.2.2.2.2.2.2.2.2.2.1, .int u_8.2.2.2.2.2.2.2.2.2.2.2.2.2.1, .ref h11, .int u_8.2.2.2.2.2.2.2.2.2.2.2.2.2.2.2])), (h1, .inl ((cA 1), 85, .inl u_8.1)), (h2, .inl ((cA 0), 9, .inr (.inl u_8.2.1))), (h3, .inl ((cA 1), 85, .inl u_8.2.2.1)), (h4, .inl ((cA 0), 9, .inr (.inl u_8.2.2.2.1))), (h5, .inl ((cA 1), 510, .inl u_8.2.2.2.2.1)), (h6, .inl ((cA 0), 54, .inr (.inl u_8.2.2.2.2.2.1))), (h7, .inl ((cA 1), 170, .inl u_8.2.2.2.2.2.2.2.1)), (h8, .inl ((cA 0), 18, .inr (.inl u_8.2.2.2.2.2.2.2.2.1))), (h9, .inl ((cA 2), 2, .inl u_8.2.2.2.2.2.2.2.2.2.1)), (h10, .inl ((cA 1), 80, .inl u_8.2.2.2.2.2.2.2.2.2.2.1)), (h11, .inl ((cA 1), 60, .inl u_8.2.2.2.2.2.2.2.2.2.2.2.2.2.2.1))] := hD
            refine lv_iinc (v := (nI (k + 1))) (lv' := [(1, .int (nI (k + 1))), (0, .ref h0)]) hx hb dX10_load_77 hl (k := 0) rfl (nI_1 k) (by decide) rfl (fun ls hl => ?_)
            refine lv_goto (tgt := 37) hx hb dX10_load_80 (by decide) ?_
            have e9z : u_8 = (fm_lds c0 (frd u_5) u_5.1 (k + 1), u_5.2) := eu_8.trans (lds_r c0 k u_5)
            subst e9z
            exact ih (k + 1) (by omega) (by omega) _ _ hP hD hS ls (lv_sub hl [0, 1] rfl)
      exact L37 (r0 + 1) (0) (by omega) (Nat.zero_le _) _ _ hP hD hS ls (lv_sub hl [0, 1] rfl)
    · skip
      refine lv_bipush (v := -4) hx hb dX10_load_28 (by decide) ?_
      have e9 : (fm_load pm c0 v) = ((-4 : Int32), u_1) := by unfold fm_load; rw [EF, if_pos c_3, if_neg c_4]
      have hP9 : va_P D vwCl (wX10 cA h0 h1 h2 h3 h4 h5 h6 h7 h8 h9 h10 h11 (u_1 : vX10)) H := hP
      have hD9 : va_D A (wX10 cA h0 h1 h2 h3 h4 h5 h6 h7 h8 h9 h10 h11 (u_1 : vX10)) := hD
      subst hQ
      exact W.iret (v := (-4 : Int32)) hx hb hr (fun t ht hW => ⟨⟨(-4 : Int32), u_1, rfl, e9.symm, ⟨by rw [ht]; exact hP9, va_K.moved hW.alike hK, hD9⟩⟩, hS.F ht⟩) hS.2.2 dX10_load_30
  · skip
    refine lv_bipush (v := -3) hx hb dX10_load_9 (by decide) ?_
    have e9 : (fm_load pm c0 v) = ((-3 : Int32), u_1) := by unfold fm_load; rw [EF, if_neg c_3]
    have hP9 : va_P D vwCl (wX10 cA h0 h1 h2 h3 h4 h5 h6 h7 h8 h9 h10 h11 (u_1 : vX10)) H := hP
    have hD9 : va_D A (wX10 cA h0 h1 h2 h3 h4 h5 h6 h7 h8 h9 h10 h11 (u_1 : vX10)) := hD
    subst hQ
    exact W.iret (v := (-3 : Int32)) hx hb hr (fun t ht hW => ⟨⟨(-3 : Int32), u_1, rfl, e9.symm, ⟨by rw [ht]; exact hP9, va_K.moved hW.alike hK, hD9⟩⟩, hS.F ht⟩) hS.2.2 dX10_load_11
