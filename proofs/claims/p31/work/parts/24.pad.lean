/-! the class's pad -/
def fc_sg (f : Nat → Int32) (ln ix : Int32) : Int32 := if ix < 0 then 0 else if ln ≤ ix then 0 else if nI 80 ≤ ix then 0 else f ix.toNatClampNeg
def fc_app (v : vX4) (x : Int32) : vX4 := if v.2.2.1 < 0 then v else if v.2.2.1 < nI 80 then (upd v.1 v.2.2.1.toNatClampNeg (vp_nar .char x), v.2.1, v.2.2.1 + 1, v.2.2.2) else v
def fc_rs (v : vX4) (x : Int32) : Int32 × vX4 := if fc_sg v.1 v.2.2.1 v.2.2.2.1 = x then (1, (v.1, v.2.1, v.2.2.1, v.2.2.2.1 + 1, v.2.2.2.2)) else (0, v)
def fc_td (sg : Int32) (n : Int64) (hi : Int32) : Int32 := if sg < 48 then 0 else if 57 < sg then 0 else if hi.toInt64 < n * 10 + (sg - 48).toInt64 then 0 else 1
def hCh (f : Nat → Int32) : Prop := ∀ k, k < 80 → narrow .char (.int (f k)) = .int (f k)

set_option maxHeartbeats 4000000 in
set_option maxRecDepth 100000 in
theorem c_X4_append (l : Launch) (D : va_G) (cA : Nat → ClassId) (h0 h1 h2 h3 h4 h5 : Nat) (sz : Nat) (v : vX4) (x1 : Int32)  : Met l yX4_append wsX4_append ({ frames := 0, cells := 0, slots := 0, locals := 0 }) (va_Pc [.ref h0, .int x1] (zPre D (zty cA) (wX4 cA h0 h1 h2 h3 h4 h5 v) sz)) (va_Qv (fun (u : vX4) => u = (fc_app v x1)) (fun u => zPost D (zty cA) (va_A (wX4 cA h0 h1 h2 h3 h4 h5 v) sz) (wX4 cA h0 h1 h2 h3 h4 h5 u)) (va_A (wX4 cA h0 h1 h2 h3 h4 h5 v) sz)) 0 0 (va_A (wX4 cA h0 h1 h2 h3 h4 h5 v) sz) := by
  refine Met.ofW (cc := cX4_append) (maxL := 2) (ret := none) (by decide) rfl ?_
  intro p e s m args below meth c s₁ B hml hv
  obtain ⟨rfl, hsz, hP, hK, hD0, hE⟩ := hv
  have hx := B.exec
  have hb := B.bytes
  have hr := B.returns
  have hts := atoms_spec (ws := wsX4_append) B.pre
  have hown : s.vm.findClass RX4 = some m.cls := findClass_of_methodNamed B.named
  have hlocks := B.notSynchronized
  have hinX4 : ∀ w ∈ u_ws RX4 TX4 5, w ∈ wsX4_append := fun w h => List.mem_cons_of_mem _ (List.mem_append_right _ h)
  subst hsz
  have hD := hD0.self (sz := s.heap.size)
  generalize hAe : va_A (wX4 cA h0 h1 h2 h3 h4 h5 v) s.heap.size = A at hD hE ⊢
  have hA : ∀ q : Nat, s.heap.size ≤ q → A q := fun q h => by rw [← hAe]; exact Or.inr h
  have hS : va_S A s.heap s.heap [] := va_S.rf
  have hN : zN s := hE.1
  have hP : va_P D vwCl [(h0, .inr (4, [.ref h1, .ref h2, .int v.2.2.1, .int v.2.2.2.1, .long v.2.2.2.2])), (h1, .inl ((cA 3), 80, .inl v.1)), (h2, .inr (3, [.ref h3, .ref h4, .ref h5, .int v.2.1.2.2.2])), (h3, .inl ((cA 0), 13, .inr (.inl v.2.1.1))), (h4, .inl ((cA 0), 13, .inr (.inl v.2.1.2.1))), (h5, .inl ((cA 0), 13, .inr (.inl v.2.1.2.2.1)))] s.heap := hP
  have hD : va_D A [(h0, .inr (4, [.ref h1, .ref h2, .int v.2.2.1, .int v.2.2.2.1, .long v.2.2.2.2])), (h1, .inl ((cA 3), 80, .inl v.1)), (h2, .inr (3, [.ref h3, .ref h4, .ref h5, .int v.2.1.2.2.2])), (h3, .inl ((cA 0), 13, .inr (.inl v.2.1.1))), (h4, .inl ((cA 0), 13, .inr (.inl v.2.1.2.1))), (h5, .inl ((cA 0), 13, .inr (.inl v.2.1.2.2.1)))] := hD
  have hl := lv_entry ([.ref h0, .int x1]) (n := 2) (Nat.le_of_ble_eq_true rfl)
  rw [lg_entry_eq]
  generalize (lg_sl ([.ref h0, .int x1]) ++ List.replicate (2 - (lg_sl ([.ref h0, .int x1])).length) Slot.unset).toArray = ls at hl ⊢
  have hl : lv_has ls 2 [(0, .ref h0), (1, .int x1)] := hl
  refine z_genQ (fun Q hQ => ?_)
  refine lv_aload_n hx hb dX4_append_0 rfl (lv_at hl 0 rfl) ?_
  refine va_get (D := D) (ci := 4) (v := .int v.2.2.1) (C := RX4) (T := TX4) (N := 5) hx hb hts hinX4 hown hK hP 0 rfl rfl 2 (by decide) (hts (.fieldLink RX4 24 "GyroTrainer$Pad" "length" "I") (List.mem_of_getElem? (i := 1) rfl)) (fun _ h9 => h9) rfl dX4_append_1 ?_
  refine lv_if_lt (tgt := 19) hx hb dX4_append_4 (by decide) (fun c_1 => ?_) (fun c_1 => ?_)
  · skip
    have e9 : (fc_app v x1) = v := by unfold fc_app; simp only [if_pos c_1] <;> rfl
    have hP9 : va_P D vwCl (wX4 cA h0 h1 h2 h3 h4 h5 (v : vX4)) s.heap := hP
    have hD9 : va_D A (wX4 cA h0 h1 h2 h3 h4 h5 (v : vX4)) := hD
    subst hQ
    exact W.vret hx hb hr (fun t ht hW => ⟨⟨v, rfl, e9.symm, ⟨by rw [ht]; exact hP9, va_K.moved hW.alike hK, hD9⟩⟩, hS.F ht⟩) hS.2.2 dX4_append_19
  · skip
    refine lv_aload_n hx hb dX4_append_7 rfl (lv_at hl 0 rfl) ?_
    refine va_get (D := D) (ci := 4) (v := .int v.2.2.1) (C := RX4) (T := TX4) (N := 5) hx hb hts hinX4 hown hK hP 0 rfl rfl 2 (by decide) (hts (.fieldLink RX4 24 "GyroTrainer$Pad" "length" "I") (List.mem_of_getElem? (i := 1) rfl)) (fun _ h9 => h9) rfl dX4_append_8 ?_
    refine lv_aload_n hx hb dX4_append_11 rfl (lv_at hl 0 rfl) ?_
    refine va_get (D := D) (ci := 4) (v := .ref h1) (C := RX4) (T := TX4) (N := 5) hx hb hts hinX4 hown hK hP 0 rfl rfl 0 (by decide) (hts (.fieldLink RX4 9 "GyroTrainer$Pad" "signs" "[C") (List.mem_of_getElem? (i := 2) rfl)) (fun _ h9 => h9) rfl dX4_append_12 ?_
    refine va_alen (v := (nI 80)) hx hb hK hP 1 3 rfl rfl rfl dX4_append_15 ?_
    refine lv_icmp_lt (tgt := 20) hx hb dX4_append_16 (by decide) (fun c_2 => ?_) (fun c_2 => ?_)
    · skip
      obtain ⟨q, hq, eq⟩ := z_ix13 (n := 80) c_1 c_2 (by decide)
      refine lv_aload_n hx hb dX4_append_20 rfl (lv_at hl 0 rfl) ?_
      refine va_get (D := D) (ci := 4) (v := .ref h1) (C := RX4) (T := TX4) (N := 5) hx hb hts hinX4 hown hK hP 0 rfl rfl 0 (by decide) (hts (.fieldLink RX4 9 "GyroTrainer$Pad" "signs" "[C") (List.mem_of_getElem? (i := 2) rfl)) (fun _ h9 => h9) rfl dX4_append_21 ?_
      refine lv_aload_n hx hb dX4_append_24 rfl (lv_at hl 0 rfl) ?_
      refine va_get (D := D) (ci := 4) (v := .int v.2.2.1) (C := RX4) (T := TX4) (N := 5) hx hb hts hinX4 hown hK hP 0 rfl rfl 2 (by decide) (hts (.fieldLink RX4 24 "GyroTrainer$Pad" "length" "I") (List.mem_of_getElem? (i := 1) rfl)) (fun _ h9 => h9) rfl dX4_append_25 ?_
      refine lv_iload_n hx hb dX4_append_28 rfl (lv_at hl 1 rfl) ?_
      refine z_cast (k := q) hx hb hK hP hD hS 1 3 rfl rfl eq hq (by decide) dX4_append_29 (fun g_3 eg_3 H locs hP hD hS => ?_)
      have hP : va_P D vwCl [(h0, .inr (4, [.ref h1, .ref h2, .int v.2.2.1, .int v.2.2.2.1, .long v.2.2.2.2])), (h1, .inl ((cA 3), 80, .inl g_3)), (h2, .inr (3, [.ref h3, .ref h4, .ref h5, .int v.2.1.2.2.2])), (h3, .inl ((cA 0), 13, .inr (.inl v.2.1.1))), (h4, .inl ((cA 0), 13, .inr (.inl v.2.1.2.1))), (h5, .inl ((cA 0), 13, .inr (.inl v.2.1.2.2.1)))] H := hP
      have hD : va_D A [(h0, .inr (4, [.ref h1, .ref h2, .int v.2.2.1, .int v.2.2.2.1, .long v.2.2.2.2])), (h1, .inl ((cA 3), 80, .inl g_3)), (h2, .inr (3, [.ref h3, .ref h4, .ref h5, .int v.2.1.2.2.2])), (h3, .inl ((cA 0), 13, .inr (.inl v.2.1.1))), (h4, .inl ((cA 0), 13, .inr (.inl v.2.1.2.1))), (h5, .inl ((cA 0), 13, .inr (.inl v.2.1.2.2.1)))] := hD
      refine lv_aload_n hx hb dX4_append_30 rfl (lv_at hl 0 rfl) ?_
      refine lv_dup hx hb dX4_append_31 rfl ?_
      refine va_get (D := D) (ci := 4) (v := .int v.2.2.1) (C := RX4) (T := TX4) (N := 5) hx hb hts hinX4 hown hK hP 0 rfl rfl 2 (by decide) (hts (.fieldLink RX4 24 "GyroTrainer$Pad" "length" "I") (List.mem_of_getElem? (i := 1) rfl)) (fun _ h9 => h9) rfl dX4_append_32 ?_
      refine lv_iconst (v := 1) hx hb dX4_append_35 (by decide) ?_
      refine lv_iadd hx hb dX4_append_36 ?_
      refine lv_topi (fun g_4 eg_4 => ?_)
      refine va_put (D := D) (ci := 4) (v := .int g_4) (ty := .int) (C := RX4) (T := TX4) (N := 5) hx hb hts hinX4 tyX4 tyX4_ok nmX4 hown hK hP hD hS 0 rfl rfl 2 (by decide) (hts (.fieldLink RX4 24 "GyroTrainer$Pad" "length" "I") (List.mem_of_getElem? (i := 1) rfl)) (fun _ h9 => h9) rfl (by decide +kernel) rfl rfl (Nat.le_of_ble_eq_true rfl) dX4_append_37 (fun H locs hP hD hS => ?_)
      have hP : va_P D vwCl [(h0, .inr (4, [.ref h1, .ref h2, .int g_4, .int v.2.2.2.1, .long v.2.2.2.2])), (h1, .inl ((cA 3), 80, .inl g_3)), (h2, .inr (3, [.ref h3, .ref h4, .ref h5, .int v.2.1.2.2.2])), (h3, .inl ((cA 0), 13, .inr (.inl v.2.1.1))), (h4, .inl ((cA 0), 13, .inr (.inl v.2.1.2.1))), (h5, .inl ((cA 0), 13, .inr (.inl v.2.1.2.2.1)))] H := hP
      have hD : va_D A [(h0, .inr (4, [.ref h1, .ref h2, .int g_4, .int v.2.2.2.1, .long v.2.2.2.2])), (h1, .inl ((cA 3), 80, .inl g_3)), (h2, .inr (3, [.ref h3, .ref h4, .ref h5, .int v.2.1.2.2.2])), (h3, .inl ((cA 0), 13, .inr (.inl v.2.1.1))), (h4, .inl ((cA 0), 13, .inr (.inl v.2.1.2.1))), (h5, .inl ((cA 0), 13, .inr (.inl v.2.1.2.2.1)))] := hD
      have e9 : (fc_app v x1) = (g_3, v.2.1, g_4, v.2.2.2) := by unfold fc_app; rw [if_neg c_1, if_pos c_2]; rw [show v.2.2.1.toNatClampNeg = q from by rw [eq]; exact nI_clamp (by omega)]; rw [eg_3, eg_4]
      have hP9 : va_P D vwCl (wX4 cA h0 h1 h2 h3 h4 h5 ((g_3, v.2.1, g_4, v.2.2.2) : vX4)) H := hP
      have hD9 : va_D A (wX4 cA h0 h1 h2 h3 h4 h5 ((g_3, v.2.1, g_4, v.2.2.2) : vX4)) := hD
      subst hQ
      exact W.vret hx hb hr (fun t ht hW => ⟨⟨(g_3, v.2.1, g_4, v.2.2.2), rfl, e9.symm, ⟨by rw [ht]; exact hP9, va_K.moved hW.alike hK, hD9⟩⟩, hS.F ht⟩) hS.2.2 dX4_append_40
    · skip
      have e9 : (fc_app v x1) = v := by unfold fc_app; simp only [if_neg c_1, if_neg c_2] <;> rfl
      have hP9 : va_P D vwCl (wX4 cA h0 h1 h2 h3 h4 h5 (v : vX4)) s.heap := hP
      have hD9 : va_D A (wX4 cA h0 h1 h2 h3 h4 h5 (v : vX4)) := hD
      subst hQ
      exact W.vret hx hb hr (fun t ht hW => ⟨⟨v, rfl, e9.symm, ⟨by rw [ht]; exact hP9, va_K.moved hW.alike hK, hD9⟩⟩, hS.F ht⟩) hS.2.2 dX4_append_19
set_option maxHeartbeats 4000000 in
set_option maxRecDepth 100000 in
theorem c_X4_signAtIndex (l : Launch) (D : va_G) (cA : Nat → ClassId) (h0 h1 h2 h3 h4 h5 : Nat) (v : vX4) (hch : hCh v.1) : Met l yX4_signAtIndex wsX4_signAtIndex ({ frames := 0, cells := 0, slots := 0, locals := 0 }) (va_Pc [.ref h0] (zPreR D (zty cA) (wX4 cA h0 h1 h2 h3 h4 h5 v))) (vp_Si (fun x => x = (fc_sg v.1 v.2.2.1 v.2.2.2.1))) 0 0 (fun _ => False) := by
  refine Met.ofW (cc := cX4_signAtIndex) (maxL := 1) (ret := (some .char)) (by decide) rfl ?_
  intro p e s m args below meth c s₁ B hml hv
  obtain ⟨rfl, hP, hK, hN⟩ := hv
  have hx := B.exec
  have hb := B.bytes
  have hr := B.returns
  have hts := atoms_spec (ws := wsX4_signAtIndex) B.pre
  have hown : s.vm.findClass RX4 = some m.cls := findClass_of_methodNamed B.named
  have hlocks := B.notSynchronized
  have hinX4 : ∀ w ∈ u_ws RX4 TX4 5, w ∈ wsX4_signAtIndex := fun w h => List.mem_cons_of_mem _ (List.mem_append_right _ h)
  have hP : va_P D vwCl [(h0, .inr (4, [.ref h1, .ref h2, .int v.2.2.1, .int v.2.2.2.1, .long v.2.2.2.2])), (h1, .inl ((cA 3), 80, .inl v.1)), (h2, .inr (3, [.ref h3, .ref h4, .ref h5, .int v.2.1.2.2.2])), (h3, .inl ((cA 0), 13, .inr (.inl v.2.1.1))), (h4, .inl ((cA 0), 13, .inr (.inl v.2.1.2.1))), (h5, .inl ((cA 0), 13, .inr (.inl v.2.1.2.2.1)))] s.heap := hP
  have hl := lv_entry ([.ref h0]) (n := 1) (Nat.le_of_ble_eq_true rfl)
  rw [lg_entry_eq]
  generalize (lg_sl ([.ref h0]) ++ List.replicate (1 - (lg_sl ([.ref h0])).length) Slot.unset).toArray = ls at hl ⊢
  have hl : lv_has ls 1 [(0, .ref h0)] := hl
  refine z_genQ (fun Q hQ => ?_)
  refine lv_aload_n hx hb dX4_signAtIndex_0 rfl (lv_at hl 0 rfl) ?_
  refine va_get (D := D) (ci := 4) (v := .int v.2.2.2.1) (C := RX4) (T := TX4) (N := 5) hx hb hts hinX4 hown hK hP 0 rfl rfl 3 (by decide) (hts (.fieldLink RX4 28 "GyroTrainer$Pad" "index" "I") (List.mem_of_getElem? (i := 1) rfl)) (fun _ h9 => h9) rfl dX4_signAtIndex_1 ?_
  refine lv_if_lt (tgt := 42) hx hb dX4_signAtIndex_4 (by decide) (fun c_1 => ?_) (fun c_1 => ?_)
  · skip
    refine lv_iconst (v := 0) hx hb dX4_signAtIndex_42 (by decide) ?_
    have e9 : (fc_sg v.1 v.2.2.1 v.2.2.2.1) = (0 : Int32) := by unfold fc_sg; simp only [if_pos c_1] <;> rfl
    subst hQ
    exact W.zret (ty := .char) (v := (0 : Int32)) hx hb hr (by decide) (fun t ht hW => ⟨_, rfl, e9.symm, ht⟩) (fun q h => by cases h) dX4_signAtIndex_43
  · skip
    refine lv_aload_n hx hb dX4_signAtIndex_7 rfl (lv_at hl 0 rfl) ?_
    refine va_get (D := D) (ci := 4) (v := .int v.2.2.2.1) (C := RX4) (T := TX4) (N := 5) hx hb hts hinX4 hown hK hP 0 rfl rfl 3 (by decide) (hts (.fieldLink RX4 28 "GyroTrainer$Pad" "index" "I") (List.mem_of_getElem? (i := 1) rfl)) (fun _ h9 => h9) rfl dX4_signAtIndex_8 ?_
    refine lv_aload_n hx hb dX4_signAtIndex_11 rfl (lv_at hl 0 rfl) ?_
    refine va_get (D := D) (ci := 4) (v := .int v.2.2.1) (C := RX4) (T := TX4) (N := 5) hx hb hts hinX4 hown hK hP 0 rfl rfl 2 (by decide) (hts (.fieldLink RX4 24 "GyroTrainer$Pad" "length" "I") (List.mem_of_getElem? (i := 2) rfl)) (fun _ h9 => h9) rfl dX4_signAtIndex_12 ?_
    refine lv_icmp_ge (tgt := 42) hx hb dX4_signAtIndex_15 (by decide) (fun c_2 => ?_) (fun c_2 => ?_)
    · skip
      refine lv_iconst (v := 0) hx hb dX4_signAtIndex_42 (by decide) ?_
      have e9 : (fc_sg v.1 v.2.2.1 v.2.2.2.1) = (0 : Int32) := by unfold fc_sg; simp only [if_neg c_1, if_pos c_2] <;> rfl
      subst hQ
      exact W.zret (ty := .char) (v := (0 : Int32)) hx hb hr (by decide) (fun t ht hW => ⟨_, rfl, e9.symm, ht⟩) (fun q h => by cases h) dX4_signAtIndex_43
    · skip
      refine lv_aload_n hx hb dX4_signAtIndex_18 rfl (lv_at hl 0 rfl) ?_
      refine va_get (D := D) (ci := 4) (v := .int v.2.2.2.1) (C := RX4) (T := TX4) (N := 5) hx hb hts hinX4 hown hK hP 0 rfl rfl 3 (by decide) (hts (.fieldLink RX4 28 "GyroTrainer$Pad" "index" "I") (List.mem_of_getElem? (i := 1) rfl)) (fun _ h9 => h9) rfl dX4_signAtIndex_19 ?_
      refine lv_aload_n hx hb dX4_signAtIndex_22 rfl (lv_at hl 0 rfl) ?_
      refine va_get (D := D) (ci := 4) (v := .ref h1) (C := RX4) (T := TX4) (N := 5) hx hb hts hinX4 hown hK hP 0 rfl rfl 0 (by decide) (hts (.fieldLink RX4 9 "GyroTrainer$Pad" "signs" "[C") (List.mem_of_getElem? (i := 3) rfl)) (fun _ h9 => h9) rfl dX4_signAtIndex_23 ?_
      refine va_alen (v := (nI 80)) hx hb hK hP 1 3 rfl rfl rfl dX4_signAtIndex_26 ?_
      refine lv_icmp_ge (tgt := 42) hx hb dX4_signAtIndex_27 (by decide) (fun c_3 => ?_) (fun c_3 => ?_)
      · skip
        refine lv_iconst (v := 0) hx hb dX4_signAtIndex_42 (by decide) ?_
        have e9 : (fc_sg v.1 v.2.2.1 v.2.2.2.1) = (0 : Int32) := by unfold fc_sg; simp only [if_neg c_1, if_neg c_2, if_pos c_3] <;> rfl
        subst hQ
        exact W.zret (ty := .char) (v := (0 : Int32)) hx hb hr (by decide) (fun t ht hW => ⟨_, rfl, e9.symm, ht⟩) (fun q h => by cases h) dX4_signAtIndex_43
      · skip
        obtain ⟨q, hq, eq⟩ := z_ix13 (x := v.2.2.2.1) (y := 80) (n := 80) c_1 (by rw [Int32.lt_iff_toInt_lt]; exact Int.lt_of_not_ge (fun h => c_3 (Int32.le_iff_toInt_le.mpr h))) (by decide)
        refine lv_aload_n hx hb dX4_signAtIndex_30 rfl (lv_at hl 0 rfl) ?_
        refine va_get (D := D) (ci := 4) (v := .ref h1) (C := RX4) (T := TX4) (N := 5) hx hb hts hinX4 hown hK hP 0 rfl rfl 0 (by decide) (hts (.fieldLink RX4 9 "GyroTrainer$Pad" "signs" "[C") (List.mem_of_getElem? (i := 3) rfl)) (fun _ h9 => h9) rfl dX4_signAtIndex_31 ?_
        refine lv_aload_n hx hb dX4_signAtIndex_34 rfl (lv_at hl 0 rfl) ?_
        refine va_get (D := D) (ci := 4) (v := .int v.2.2.2.1) (C := RX4) (T := TX4) (N := 5) hx hb hts hinX4 hown hK hP 0 rfl rfl 3 (by decide) (hts (.fieldLink RX4 28 "GyroTrainer$Pad" "index" "I") (List.mem_of_getElem? (i := 1) rfl)) (fun _ h9 => h9) rfl dX4_signAtIndex_35 ?_
        refine z_cald (k := q) hx hb hK hP 1 3 rfl rfl eq hq (by decide) dX4_signAtIndex_38 ?_
        refine lv_goto (tgt := 43) hx hb dX4_signAtIndex_39 (by decide) ?_
        have e9 : (fc_sg v.1 v.2.2.1 v.2.2.2.1) = (v.1 q) := by unfold fc_sg; rw [if_neg c_1, if_neg c_2, if_neg c_3, show v.2.2.2.1.toNatClampNeg = q from by rw [eq]; exact nI_clamp (by omega)]
        subst hQ
        exact W.zret (ty := .char) (v := (v.1 q)) hx hb hr (hch q hq) (fun t ht hW => ⟨_, rfl, e9.symm, ht⟩) (fun q h => by cases h) dX4_signAtIndex_43
set_option maxHeartbeats 4000000 in
set_option maxRecDepth 100000 in
theorem c_X4_readSign (l : Launch) (D : va_G) (cA : Nat → ClassId) (h0 h1 h2 h3 h4 h5 : Nat) (sz : Nat) (v : vX4) (x1 : Int32) (hch : hCh v.1) : Met l yX4_readSign wsX4_readSign ({ frames := 1, cells := 0, slots := 0, locals := 20 }) (va_Pc [.ref h0, .int x1] (zPre D (zty cA) (wX4 cA h0 h1 h2 h3 h4 h5 v) sz)) (va_Qi (fun (x : Int32) (u : vX4) => (x, u) = (fc_rs v x1)) (fun u => zPost D (zty cA) (va_A (wX4 cA h0 h1 h2 h3 h4 h5 v) sz) (wX4 cA h0 h1 h2 h3 h4 h5 u)) (va_A (wX4 cA h0 h1 h2 h3 h4 h5 v) sz)) 0 0 (va_A (wX4 cA h0 h1 h2 h3 h4 h5 v) sz) := by
  refine Met.ofW (cc := cX4_readSign) (maxL := 2) (ret := (some .boolean)) (by decide) rfl ?_
  intro p e s m args below meth c s₁ B hml hv
  obtain ⟨rfl, hsz, hP, hK, hD0, hE⟩ := hv
  have hx := B.exec
  have hb := B.bytes
  have hr := B.returns
  have hts := atoms_spec (ws := wsX4_readSign) B.pre
  have hown : s.vm.findClass RX4 = some m.cls := findClass_of_methodNamed B.named
  have hlocks := B.notSynchronized
  have hinX4 : ∀ w ∈ u_ws RX4 TX4 5, w ∈ wsX4_readSign := fun w h => List.mem_cons_of_mem _ (List.mem_append_right _ h)
  subst hsz
  have hD := hD0.self (sz := s.heap.size)
  generalize hAe : va_A (wX4 cA h0 h1 h2 h3 h4 h5 v) s.heap.size = A at hD hE ⊢
  have hA : ∀ q : Nat, s.heap.size ≤ q → A q := fun q h => by rw [← hAe]; exact Or.inr h
  have hS : va_S A s.heap s.heap [] := va_S.rf
  have hN : zN s := hE.1
  have hP : va_P D vwCl [(h0, .inr (4, [.ref h1, .ref h2, .int v.2.2.1, .int v.2.2.2.1, .long v.2.2.2.2])), (h1, .inl ((cA 3), 80, .inl v.1)), (h2, .inr (3, [.ref h3, .ref h4, .ref h5, .int v.2.1.2.2.2])), (h3, .inl ((cA 0), 13, .inr (.inl v.2.1.1))), (h4, .inl ((cA 0), 13, .inr (.inl v.2.1.2.1))), (h5, .inl ((cA 0), 13, .inr (.inl v.2.1.2.2.1)))] s.heap := hP
  have hD : va_D A [(h0, .inr (4, [.ref h1, .ref h2, .int v.2.2.1, .int v.2.2.2.1, .long v.2.2.2.2])), (h1, .inl ((cA 3), 80, .inl v.1)), (h2, .inr (3, [.ref h3, .ref h4, .ref h5, .int v.2.1.2.2.2])), (h3, .inl ((cA 0), 13, .inr (.inl v.2.1.1))), (h4, .inl ((cA 0), 13, .inr (.inl v.2.1.2.1))), (h5, .inl ((cA 0), 13, .inr (.inl v.2.1.2.2.1)))] := hD
  have hl := lv_entry ([.ref h0, .int x1]) (n := 2) (Nat.le_of_ble_eq_true rfl)
  rw [lg_entry_eq]
  generalize (lg_sl ([.ref h0, .int x1]) ++ List.replicate (2 - (lg_sl ([.ref h0, .int x1])).length) Slot.unset).toArray = ls at hl ⊢
  have hl : lv_has ls 2 [(0, .ref h0), (1, .int x1)] := hl
  refine z_genQ (fun Q hQ => ?_)
  refine lv_aload_n hx hb dX4_readSign_0 rfl (lv_at hl 0 rfl) ?_
  refine z_Ri (va_runV (As := []) (rest := []) ⟨hx, hb, hml, hown, hts⟩ (c_X4_signAtIndex l D cA h0 h1 h2 h3 h4 h5 v hch) (cwV 0 hts gX4_readSign_X4_signAtIndex rfl rfl rfl (by decide +kernel) ⟨Nat.le_of_ble_eq_true rfl, Nat.le_of_ble_eq_true rfl⟩) (zqVR hK hP hN (z_c1 (a := []) (b := []) rfl) 0 rfl rfl) rfl rfl hl.1 rfl (lv_room (Nat.le_of_ble_eq_true rfl)) dX4_readSign_1 ⟨Nat.le_of_ble_eq_true rfl, Nat.le_of_ble_eq_true rfl⟩) ?_
  refine lv_iload_n hx hb dX4_readSign_4 rfl (lv_at hl 1 rfl) ?_
  refine lv_icmp_eq (tgt := 10) hx hb dX4_readSign_5 (by decide) (fun c_1 => ?_) (fun c_1 => ?_)
  · skip
    refine lv_aload_n hx hb dX4_readSign_10 rfl (lv_at hl 0 rfl) ?_
    refine lv_dup hx hb dX4_readSign_11 rfl ?_
    refine va_get (D := D) (ci := 4) (v := .int v.2.2.2.1) (C := RX4) (T := TX4) (N := 5) hx hb hts hinX4 hown hK hP 0 rfl rfl 3 (by decide) (hts (.fieldLink RX4 28 "GyroTrainer$Pad" "index" "I") (List.mem_of_getElem? (i := 1) rfl)) (fun _ h9 => h9) rfl dX4_readSign_12 ?_
    refine lv_iconst (v := 1) hx hb dX4_readSign_15 (by decide) ?_
    refine lv_iadd hx hb dX4_readSign_16 ?_
    refine lv_topi (fun g_2 eg_2 => ?_)
    refine va_put (D := D) (ci := 4) (v := .int g_2) (ty := .int) (C := RX4) (T := TX4) (N := 5) hx hb hts hinX4 tyX4 tyX4_ok nmX4 hown hK hP hD hS 0 rfl rfl 3 (by decide) (hts (.fieldLink RX4 28 "GyroTrainer$Pad" "index" "I") (List.mem_of_getElem? (i := 1) rfl)) (fun _ h9 => h9) rfl (by decide +kernel) rfl rfl (Nat.le_of_ble_eq_true rfl) dX4_readSign_17 (fun H locs hP hD hS => ?_)
    have hP : va_P D vwCl [(h0, .inr (4, [.ref h1, .ref h2, .int v.2.2.1, .int g_2, .long v.2.2.2.2])), (h1, .inl ((cA 3), 80, .inl v.1)), (h2, .inr (3, [.ref h3, .ref h4, .ref h5, .int v.2.1.2.2.2])), (h3, .inl ((cA 0), 13, .inr (.inl v.2.1.1))), (h4, .inl ((cA 0), 13, .inr (.inl v.2.1.2.1))), (h5, .inl ((cA 0), 13, .inr (.inl v.2.1.2.2.1)))] H := hP
    have hD : va_D A [(h0, .inr (4, [.ref h1, .ref h2, .int v.2.2.1, .int g_2, .long v.2.2.2.2])), (h1, .inl ((cA 3), 80, .inl v.1)), (h2, .inr (3, [.ref h3, .ref h4, .ref h5, .int v.2.1.2.2.2])), (h3, .inl ((cA 0), 13, .inr (.inl v.2.1.1))), (h4, .inl ((cA 0), 13, .inr (.inl v.2.1.2.1))), (h5, .inl ((cA 0), 13, .inr (.inl v.2.1.2.2.1)))] := hD
    refine lv_iconst (v := 1) hx hb dX4_readSign_20 (by decide) ?_
    have e9 : (fc_rs v x1) = ((1 : Int32), (v.1, v.2.1, v.2.2.1, g_2, v.2.2.2.2)) := by unfold fc_rs; rw [if_pos c_1, eg_2]
    have hP9 : va_P D vwCl (wX4 cA h0 h1 h2 h3 h4 h5 ((v.1, v.2.1, v.2.2.1, g_2, v.2.2.2.2) : vX4)) H := hP
    have hD9 : va_D A (wX4 cA h0 h1 h2 h3 h4 h5 ((v.1, v.2.1, v.2.2.1, g_2, v.2.2.2.2) : vX4)) := hD
    subst hQ
    exact W.zret (ty := .boolean) (v := (1 : Int32)) hx hb hr rfl (fun t ht hW => ⟨⟨(1 : Int32), (v.1, v.2.1, v.2.2.1, g_2, v.2.2.2.2), rfl, e9.symm, ⟨by rw [ht]; exact hP9, va_K.moved hW.alike hK, hD9⟩⟩, hS.F ht⟩) hS.2.2 dX4_readSign_21
  · skip
    refine lv_iconst (v := 0) hx hb dX4_readSign_8 (by decide) ?_
    have e9 : (fc_rs v x1) = ((0 : Int32), v) := by unfold fc_rs; rw [if_neg c_1]
    have hP9 : va_P D vwCl (wX4 cA h0 h1 h2 h3 h4 h5 (v : vX4)) s.heap := hP
    have hD9 : va_D A (wX4 cA h0 h1 h2 h3 h4 h5 (v : vX4)) := hD
    subst hQ
    exact W.zret (ty := .boolean) (v := (0 : Int32)) hx hb hr rfl (fun t ht hW => ⟨⟨(0 : Int32), v, rfl, e9.symm, ⟨by rw [ht]; exact hP9, va_K.moved hW.alike hK, hD9⟩⟩, hS.F ht⟩) hS.2.2 dX4_readSign_9
set_option maxHeartbeats 4000000 in
set_option maxRecDepth 100000 in
theorem c_X4_canTakeDigit (l : Launch) (D : va_G) (cA : Nat → ClassId) (h0 h1 h2 h3 h4 h5 : Nat) (v : vX4) (x1 : Int32) (hch : hCh v.1) : Met l yX4_canTakeDigit wsX4_canTakeDigit ({ frames := 1, cells := 0, slots := 0, locals := 20 }) (va_Pc [.ref h0, .int x1] (zPreR D (zty cA) (wX4 cA h0 h1 h2 h3 h4 h5 v))) (vp_Si (fun x => x = (fc_td (fc_sg v.1 v.2.2.1 v.2.2.2.1) v.2.2.2.2 x1))) 0 0 (fun _ => False) := by
  refine Met.ofW (cc := cX4_canTakeDigit) (maxL := 3) (ret := (some .boolean)) (by decide) rfl ?_
  intro p e s m args below meth c s₁ B hml hv
  obtain ⟨rfl, hP, hK, hN⟩ := hv
  have hx := B.exec
  have hb := B.bytes
  have hr := B.returns
  have hts := atoms_spec (ws := wsX4_canTakeDigit) B.pre
  have hown : s.vm.findClass RX4 = some m.cls := findClass_of_methodNamed B.named
  have hlocks := B.notSynchronized
  have hinX4 : ∀ w ∈ u_ws RX4 TX4 5, w ∈ wsX4_canTakeDigit := fun w h => List.mem_cons_of_mem _ (List.mem_append_right _ h)
  have hP : va_P D vwCl [(h0, .inr (4, [.ref h1, .ref h2, .int v.2.2.1, .int v.2.2.2.1, .long v.2.2.2.2])), (h1, .inl ((cA 3), 80, .inl v.1)), (h2, .inr (3, [.ref h3, .ref h4, .ref h5, .int v.2.1.2.2.2])), (h3, .inl ((cA 0), 13, .inr (.inl v.2.1.1))), (h4, .inl ((cA 0), 13, .inr (.inl v.2.1.2.1))), (h5, .inl ((cA 0), 13, .inr (.inl v.2.1.2.2.1)))] s.heap := hP
  have hl := lv_entry ([.ref h0, .int x1]) (n := 3) (Nat.le_of_ble_eq_true rfl)
  rw [lg_entry_eq]
  generalize (lg_sl ([.ref h0, .int x1]) ++ List.replicate (3 - (lg_sl ([.ref h0, .int x1])).length) Slot.unset).toArray = ls at hl ⊢
  have hl : lv_has ls 3 [(0, .ref h0), (1, .int x1)] := hl
  refine z_genQ (fun Q hQ => ?_)
  refine lv_aload_n hx hb dX4_canTakeDigit_0 rfl (lv_at hl 0 rfl) ?_
  refine z_Ri (va_runV (As := []) (rest := []) ⟨hx, hb, hml, hown, hts⟩ (c_X4_signAtIndex l D cA h0 h1 h2 h3 h4 h5 v hch) (cwV 0 hts gX4_canTakeDigit_X4_signAtIndex rfl rfl rfl (by decide +kernel) ⟨Nat.le_of_ble_eq_true rfl, Nat.le_of_ble_eq_true rfl⟩) (zqVR hK hP hN (z_c1 (a := []) (b := []) rfl) 0 rfl rfl) rfl rfl hl.1 rfl (lv_room (Nat.le_of_ble_eq_true rfl)) dX4_canTakeDigit_1 ⟨Nat.le_of_ble_eq_true rfl, Nat.le_of_ble_eq_true rfl⟩) ?_
  refine lv_istore_n (lv' := [(2, .int (fc_sg v.1 v.2.2.1 v.2.2.2.1)), (0, .ref h0), (1, .int x1)]) hx hb dX4_canTakeDigit_4 rfl hl (by decide) rfl (fun ls hl => ?_)
  refine lv_iload_n hx hb dX4_canTakeDigit_5 rfl (lv_at hl 0 rfl) ?_
  refine lv_bipush (v := 48) hx hb dX4_canTakeDigit_6 (by decide) ?_
  refine lv_icmp_lt (tgt := 41) hx hb dX4_canTakeDigit_8 (by decide) (fun c_1 => ?_) (fun c_1 => ?_)
  · skip
    refine lv_iconst (v := 0) hx hb dX4_canTakeDigit_41 (by decide) ?_
    have e9 : (fc_td (fc_sg v.1 v.2.2.1 v.2.2.2.1) v.2.2.2.2 x1) = (0 : Int32) := by unfold fc_td; rw [if_pos c_1]
    subst hQ
    exact W.zret (ty := .boolean) (v := (0 : Int32)) hx hb hr rfl (fun t ht hW => ⟨_, rfl, e9.symm, ht⟩) (fun q h => by cases h) dX4_canTakeDigit_42
  · skip
    refine lv_iload_n hx hb dX4_canTakeDigit_11 rfl (lv_at hl 0 rfl) ?_
    refine lv_bipush (v := 57) hx hb dX4_canTakeDigit_12 (by decide) ?_
    refine lv_icmp_gt (tgt := 41) hx hb dX4_canTakeDigit_14 (by decide) (fun c_2 => ?_) (fun c_2 => ?_)
    · skip
      refine lv_iconst (v := 0) hx hb dX4_canTakeDigit_41 (by decide) ?_
      have e9 : (fc_td (fc_sg v.1 v.2.2.1 v.2.2.2.1) v.2.2.2.2 x1) = (0 : Int32) := by unfold fc_td; rw [if_neg c_1, if_pos c_2]
      subst hQ
      exact W.zret (ty := .boolean) (v := (0 : Int32)) hx hb hr rfl (fun t ht hW => ⟨_, rfl, e9.symm, ht⟩) (fun q h => by cases h) dX4_canTakeDigit_42
    · skip
      refine lv_aload_n hx hb dX4_canTakeDigit_17 rfl (lv_at hl 1 rfl) ?_
      refine va_get (D := D) (ci := 4) (v := .long v.2.2.2.2) (C := RX4) (T := TX4) (N := 5) hx hb hts hinX4 hown hK hP 0 rfl rfl 4 (by decide) (hts (.fieldLink RX4 46 "GyroTrainer$Pad" "number" "J") (List.mem_of_getElem? (i := 1) rfl)) (fun _ h9 => h9) rfl dX4_canTakeDigit_18 ?_
      refine lv_ldc2 hx hb hown (hts (.constantLong RX4 64 (10)) (List.mem_of_getElem? (i := 2) rfl)) dX4_canTakeDigit_21 ?_
      refine lv_lmul hx hb dX4_canTakeDigit_24 ?_
      refine lv_iload_n hx hb dX4_canTakeDigit_25 rfl (lv_at hl 0 rfl) ?_
      refine lv_bipush (v := 48) hx hb dX4_canTakeDigit_26 (by decide) ?_
      refine lv_isub hx hb dX4_canTakeDigit_28 ?_
      refine lv_i2l hx hb dX4_canTakeDigit_29 rfl ?_
      refine lv_ladd hx hb dX4_canTakeDigit_30 ?_
      refine lv_iload_n hx hb dX4_canTakeDigit_31 rfl (lv_at hl 2 rfl) ?_
      refine lv_i2l hx hb dX4_canTakeDigit_32 rfl ?_
      refine W.lcmp hx hb dX4_canTakeDigit_33 ?_
      refine lv_if_gt (tgt := 41) hx hb dX4_canTakeDigit_34 (by decide) (fun kc_3 => ?_) (fun kc_3 => ?_)
      · skip
        have c_3 : (x1.toInt64) < ((v.2.2.2.2 * (10 : Int64)) + (((fc_sg v.1 v.2.2.1 v.2.2.2.1) - (48 : Int32)).toInt64)) := (lg_cmp_gt _ _).mp kc_3
        refine lv_iconst (v := 0) hx hb dX4_canTakeDigit_41 (by decide) ?_
        have e9 : (fc_td (fc_sg v.1 v.2.2.1 v.2.2.2.1) v.2.2.2.2 x1) = (0 : Int32) := by unfold fc_td; rw [if_neg c_1, if_neg c_2, if_pos c_3]
        subst hQ
        exact W.zret (ty := .boolean) (v := (0 : Int32)) hx hb hr rfl (fun t ht hW => ⟨_, rfl, e9.symm, ht⟩) (fun q h => by cases h) dX4_canTakeDigit_42
      · skip
        have c_3 : ¬ ((x1.toInt64) < ((v.2.2.2.2 * (10 : Int64)) + (((fc_sg v.1 v.2.2.1 v.2.2.2.1) - (48 : Int32)).toInt64))) := fun h => kc_3 ((lg_cmp_gt _ _).mpr h)
        refine lv_iconst (v := 1) hx hb dX4_canTakeDigit_37 (by decide) ?_
        refine lv_goto (tgt := 42) hx hb dX4_canTakeDigit_38 (by decide) ?_
        have e9 : (fc_td (fc_sg v.1 v.2.2.1 v.2.2.2.1) v.2.2.2.2 x1) = (1 : Int32) := by unfold fc_td; rw [if_neg c_1, if_neg c_2, if_neg c_3]
        subst hQ
        exact W.zret (ty := .boolean) (v := (1 : Int32)) hx hb hr rfl (fun t ht hW => ⟨_, rfl, e9.symm, ht⟩) (fun q h => by cases h) dX4_canTakeDigit_42
