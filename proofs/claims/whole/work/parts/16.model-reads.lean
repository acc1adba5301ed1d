theorem z_ix13 {x y : Int32} {n : Nat} (h0 : ¬ x < 0) (h : x < y) (hy : y.toInt ≤ n) : ∃ k : Nat, k < n ∧ x = nI k := by
  have a0 : ¬ x.toInt < (0 : Int32).toInt := fun q => h0 (Int32.lt_iff_toInt_lt.mpr q)
  have z : (0 : Int32).toInt = 0 := by decide
  have a1 := Int32.lt_iff_toInt_lt.mp h
  exact z_nIof (by omega) (by omega)
theorem z_ix01 {x : Int32} (h : ¬ fm_in x 0 1 = 0) : ∃ k : Nat, k < 2 ∧ x = nI k := by
  have h1 := fm_in1 h
  have z : (0 : Int32).toInt = 0 := by decide
  have z1 : (1 : Int32).toInt = 1 := by decide
  exact z_nIof (by omega) (by omega)
theorem zm_ix2 (a b w q : Nat) : nI a + nI b * nI w + nI q = nI (a + b * w + q) := by rw [pk_mul, nI_add, nI_add]
theorem z_ixs {x : Int32} (h : (8 : Int32).toInt ≤ x.toInt ∧ x.toInt ≤ (12 : Int32).toInt) : ∃ k : Nat, k < 34 ∧ 29 + x - 8 = nI k := by
  have z : (8 : Int32).toInt = 8 := by decide
  have z1 : (12 : Int32).toInt = 12 := by decide
  obtain ⟨j, hj, rfl⟩ := z_nIof (x := x) (n := 13) (by omega) (by omega)
  refine ⟨29 + j - 8, by omega, ?_⟩
  rw [nI_toInt (by omega)] at h
  have e : (29 : Int32) + nI j = nI (29 + j) := nI_add 29 j
  rw [e]
  exact pk_sub (a := 29 + j) (b := 8) (by omega)
theorem z_ixt {x : Int32} (h : (22 : Int32).toInt ≤ x.toInt ∧ x.toInt ≤ (30 : Int32).toInt) : ∃ k : Nat, k < 9 ∧ x - 22 = nI k := by
  have z : (22 : Int32).toInt = 22 := by decide
  have z1 : (30 : Int32).toInt = 30 := by decide
  obtain ⟨j, hj, rfl⟩ := z_nIof (x := x) (n := 31) (by omega) (by omega)
  rw [nI_toInt (by omega)] at h
  exact ⟨j - 22, by omega, pk_sub (a := j) (b := 22) (by omega)⟩
theorem zcR_of {x : Int32} (h : ¬ fm_in x 0 35999 = 0) : zcR x := by
  have h1 := fm_in1 h
  have z : (0 : Int32).toInt = 0 := by decide
  have z1 : (35999 : Int32).toInt = 35999 := by decide
  exact ⟨by omega, by omega⟩
theorem zdR_of {x : Int32} (h : ¬ fm_in x (-70) 70 = 0) : -70 ≤ x.toInt ∧ x.toInt ≤ 70 := by
  have h1 := fm_in1 h
  have z : (-70 : Int32).toInt = -70 := by decide
  have z1 : (70 : Int32).toInt = 70 := by decide
  exact ⟨by omega, by omega⟩

set_option maxHeartbeats 4000000 in
set_option maxRecDepth 100000 in
theorem c_X10_in (l : Launch) (D : va_G) (cA : Nat → ClassId) (x0 : Int32) (x1 : Int32) (x2 : Int32)  : Met l yX10_in wsX10_in ({ frames := 0, cells := 0, slots := 0, locals := 0 }) (va_Pc [.int x0, .int x1, .int x2] (zPreR D (zty cA) ([]))) (vp_Si (fun x => x = (fm_in x0 x1 x2))) 0 0 (fun _ => False) := by
  refine Met.ofW (cc := cX10_in) (maxL := 3) (ret := (some .boolean)) (by decide) rfl ?_
  intro p e s m args below meth c s₁ B hml hv
  obtain ⟨rfl, hP, hK, hN⟩ := hv
  have hx := B.exec
  have hb := B.bytes
  have hr := B.returns
  have hts := atoms_spec (ws := wsX10_in) B.pre
  have hown : s.vm.findClass RX10 = some m.cls := findClass_of_methodNamed B.named
  have hlocks := B.notSynchronized
  have hP : va_P D vwCl [] s.heap := hP
  have hl := lv_entry ([.int x0, .int x1, .int x2]) (n := 3) (Nat.le_of_ble_eq_true rfl)
  rw [lg_entry_eq]
  generalize (lg_sl ([.int x0, .int x1, .int x2]) ++ List.replicate (3 - (lg_sl ([.int x0, .int x1, .int x2])).length) Slot.unset).toArray = ls at hl ⊢
  have hl : lv_has ls 3 [(0, .int x0), (1, .int x1), (2, .int x2)] := hl
  refine z_genQ (fun Q hQ => ?_)
  refine lv_iload_n hx hb dX10_in_0 rfl (lv_at hl 0 rfl) ?_
  refine lv_iload_n hx hb dX10_in_1 rfl (lv_at hl 1 rfl) ?_
  refine lv_icmp_lt (tgt := 14) hx hb dX10_in_2 (by decide) (fun c_1 => ?_) (fun c_1 => ?_)
  · skip
    refine lv_iconst (v := 0) hx hb dX10_in_14 (by decide) ?_
    have e9 : (fm_in x0 x1 x2) = (0 : Int32) := by unfold fm_in; simp only [if_pos c_1] <;> rfl
    subst hQ
    exact W.zret (ty := .boolean) (v := (0 : Int32)) hx hb hr rfl (fun t ht hW => ⟨_, rfl, e9.symm, ht⟩) (fun q h => by cases h) dX10_in_15
  · skip
    refine lv_iload_n hx hb dX10_in_5 rfl (lv_at hl 0 rfl) ?_
    refine lv_iload_n hx hb dX10_in_6 rfl (lv_at hl 2 rfl) ?_
    refine lv_icmp_gt (tgt := 14) hx hb dX10_in_7 (by decide) (fun c_2 => ?_) (fun c_2 => ?_)
    · skip
      refine lv_iconst (v := 0) hx hb dX10_in_14 (by decide) ?_
      have e9 : (fm_in x0 x1 x2) = (0 : Int32) := by unfold fm_in; simp only [if_neg c_1, if_pos c_2] <;> rfl
      subst hQ
      exact W.zret (ty := .boolean) (v := (0 : Int32)) hx hb hr rfl (fun t ht hW => ⟨_, rfl, e9.symm, ht⟩) (fun q h => by cases h) dX10_in_15
    · skip
      refine lv_iconst (v := 1) hx hb dX10_in_10 (by decide) ?_
      refine lv_goto (tgt := 15) hx hb dX10_in_11 (by decide) ?_
      have e9 : (fm_in x0 x1 x2) = (1 : Int32) := by unfold fm_in; simp only [if_neg c_1, if_neg c_2] <;> rfl
      subst hQ
      exact W.zret (ty := .boolean) (v := (1 : Int32)) hx hb hr rfl (fun t ht hW => ⟨_, rfl, e9.symm, ht⟩) (fun q h => by cases h) dX10_in_15
set_option maxHeartbeats 4000000 in
set_option maxRecDepth 100000 in
theorem c_X10_sizeOf (l : Launch) (D : va_G) (cA : Nat → ClassId) (x0 : Int32)  : Met l yX10_sizeOf wsX10_sizeOf ({ frames := 0, cells := 0, slots := 0, locals := 0 }) (va_Pc [.int x0] (zPreR D (zty cA) ([]))) (vp_Si (fun x => x = (fm_size x0))) 0 0 (fun _ => False) := by
  refine Met.ofW (cc := cX10_sizeOf) (maxL := 1) (ret := (some .int)) (by decide) rfl ?_
  intro p e s m args below meth c s₁ B hml hv
  obtain ⟨rfl, hP, hK, hN⟩ := hv
  have hx := B.exec
  have hb := B.bytes
  have hr := B.returns
  have hts := atoms_spec (ws := wsX10_sizeOf) B.pre
  have hown : s.vm.findClass RX10 = some m.cls := findClass_of_methodNamed B.named
  have hlocks := B.notSynchronized
  have hP : va_P D vwCl [] s.heap := hP
  have hl := lv_entry ([.int x0]) (n := 1) (Nat.le_of_ble_eq_true rfl)
  rw [lg_entry_eq]
  generalize (lg_sl ([.int x0]) ++ List.replicate (1 - (lg_sl ([.int x0])).length) Slot.unset).toArray = ls at hl ⊢
  have hl : lv_has ls 1 [(0, .int x0)] := hl
  refine z_genQ (fun Q hQ => ?_)
  refine lv_iload_n hx hb dX10_sizeOf_0 rfl (lv_at hl 0 rfl) ?_
  refine lv_if_ge (tgt := 9) hx hb dX10_sizeOf_1 (by decide) (fun c_1 => ?_) (fun c_1 => ?_)
  · skip
    refine lv_iload_n hx hb dX10_sizeOf_9 rfl (lv_at hl 0 rfl) ?_
    have e9 : (fm_size x0) = x0 := by unfold fm_size; simp only [if_pos c_1] <;> rfl
    subst hQ
    exact W.iret (v := x0) hx hb hr (fun t ht hW => ⟨_, rfl, e9.symm, ht⟩) (fun q h => by cases h) dX10_sizeOf_10
  · skip
    refine lv_iload_n hx hb dX10_sizeOf_4 rfl (lv_at hl 0 rfl) ?_
    refine lv_ineg hx hb dX10_sizeOf_5 ?_
    refine lv_goto (tgt := 10) hx hb dX10_sizeOf_6 (by decide) ?_
    have e9 : (fm_size x0) = (-x0) := by unfold fm_size; simp only [if_neg c_1] <;> rfl
    subst hQ
    exact W.iret (v := (-x0)) hx hb hr (fun t ht hW => ⟨_, rfl, e9.symm, ht⟩) (fun q h => by cases h) dX10_sizeOf_10
set_option maxHeartbeats 4000000 in
set_option maxRecDepth 100000 in
theorem c_X10_limited (l : Launch) (D : va_G) (cA : Nat → ClassId) (x0 : Int64) (x1 : Int32)  : Met l yX10_limited wsX10_limited ({ frames := 0, cells := 0, slots := 0, locals := 0 }) (va_Pc [.long x0, .int x1] (zPreR D (zty cA) ([]))) (vp_Si (fun x => x = (fm_lim x0 x1))) 0 0 (fun _ => False) := by
  refine Met.ofW (cc := cX10_limited) (maxL := 3) (ret := (some .int)) (by decide) rfl ?_
  intro p e s m args below meth c s₁ B hml hv
  obtain ⟨rfl, hP, hK, hN⟩ := hv
  have hx := B.exec
  have hb := B.bytes
  have hr := B.returns
  have hts := atoms_spec (ws := wsX10_limited) B.pre
  have hown : s.vm.findClass RX10 = some m.cls := findClass_of_methodNamed B.named
  have hlocks := B.notSynchronized
  have hP : va_P D vwCl [] s.heap := hP
  have hl := lv_entry ([.long x0, .int x1]) (n := 3) (Nat.le_of_ble_eq_true rfl)
  rw [lg_entry_eq]
  generalize (lg_sl ([.long x0, .int x1]) ++ List.replicate (3 - (lg_sl ([.long x0, .int x1])).length) Slot.unset).toArray = ls at hl ⊢
  have hl : lv_has ls 3 [(0, .long x0), (2, .int x1)] := hl
  refine z_genQ (fun Q hQ => ?_)
  refine lv_lload_n hx hb dX10_limited_0 rfl (lv_at hl 0 rfl) ?_
  refine lv_iload_n hx hb dX10_limited_1 rfl (lv_at hl 1 rfl) ?_
  refine lv_i2l hx hb dX10_limited_2 rfl ?_
  refine W.lcmp hx hb dX10_limited_3 ?_
  refine lv_if_le (tgt := 12) hx hb dX10_limited_4 (by decide) (fun kc_1 => ?_) (fun kc_1 => ?_)
  · skip
    have c_1 : x0 ≤ (x1.toInt64) := (lg_cmp_le _ _).mp kc_1
    refine lv_lload_n hx hb dX10_limited_12 rfl (lv_at hl 0 rfl) ?_
    refine lv_iload_n hx hb dX10_limited_13 rfl (lv_at hl 1 rfl) ?_
    refine lv_ineg hx hb dX10_limited_14 ?_
    refine lv_i2l hx hb dX10_limited_15 rfl ?_
    refine W.lcmp hx hb dX10_limited_16 ?_
    refine lv_if_ge (tgt := 26) hx hb dX10_limited_17 (by decide) (fun kc_2 => ?_) (fun kc_2 => ?_)
    · skip
      have c_2 : ((-x1).toInt64) ≤ x0 := (lg_cmp_ge _ _).mp kc_2
      refine lv_lload_n hx hb dX10_limited_26 rfl (lv_at hl 0 rfl) ?_
      refine lv_l2i hx hb dX10_limited_27 rfl ?_
      have e9 : (fm_lim x0 x1) = (x0.toInt32) := by unfold fm_lim; simp only [if_pos c_1, if_pos c_2] <;> rfl
      subst hQ
      exact W.iret (v := (x0.toInt32)) hx hb hr (fun t ht hW => ⟨_, rfl, e9.symm, ht⟩) (fun q h => by cases h) dX10_limited_28
    · skip
      have c_2 : ¬ (((-x1).toInt64) ≤ x0) := fun h => kc_2 ((lg_cmp_ge _ _).mpr h)
      refine lv_iload_n hx hb dX10_limited_20 rfl (lv_at hl 1 rfl) ?_
      refine lv_ineg hx hb dX10_limited_21 ?_
      refine lv_i2l hx hb dX10_limited_22 rfl ?_
      refine lv_goto (tgt := 27) hx hb dX10_limited_23 (by decide) ?_
      refine lv_l2i hx hb dX10_limited_27 rfl ?_
      have e9 : (fm_lim x0 x1) = (((-x1).toInt64).toInt32) := by unfold fm_lim; simp only [if_pos c_1, if_neg c_2] <;> rfl
      subst hQ
      exact W.iret (v := (((-x1).toInt64).toInt32)) hx hb hr (fun t ht hW => ⟨_, rfl, e9.symm, ht⟩) (fun q h => by cases h) dX10_limited_28
  · skip
    have c_1 : ¬ (x0 ≤ (x1.toInt64)) := fun h => kc_1 ((lg_cmp_le _ _).mpr h)
    refine lv_iload_n hx hb dX10_limited_7 rfl (lv_at hl 1 rfl) ?_
    refine lv_i2l hx hb dX10_limited_8 rfl ?_
    refine lv_goto (tgt := 27) hx hb dX10_limited_9 (by decide) ?_
    refine lv_l2i hx hb dX10_limited_27 rfl ?_
    have e9 : (fm_lim x0 x1) = ((x1.toInt64).toInt32) := by unfold fm_lim; simp only [if_neg c_1] <;> rfl
    subst hQ
    exact W.iret (v := ((x1.toInt64).toInt32)) hx hb hr (fun t ht hW => ⟨_, rfl, e9.symm, ht⟩) (fun q h => by cases h) dX10_limited_28
set_option maxHeartbeats 4000000 in
set_option maxRecDepth 100000 in
theorem c_X10_halfSine (l : Launch) (D : va_G) (cA : Nat → ClassId) (x0 : Int32) (hh : 0 ≤ x0.toInt ∧ x0.toInt < 18001) : Met l yX10_halfSine wsX10_halfSine ({ frames := 0, cells := 0, slots := 0, locals := 0 }) (va_Pc [.int x0] (zPreR D (zty cA) ([]))) (vp_Si (fun x => x = (fm_half x0))) 0 0 (fun _ => False) := by
  refine Met.ofW (cc := cX10_halfSine) (maxL := 3) (ret := (some .int)) (by decide) rfl ?_
  intro p e s m args below meth c s₁ B hml hv
  obtain ⟨rfl, hP, hK, hN⟩ := hv
  have hx := B.exec
  have hb := B.bytes
  have hr := B.returns
  have hts := atoms_spec (ws := wsX10_halfSine) B.pre
  have hown : s.vm.findClass RX10 = some m.cls := findClass_of_methodNamed B.named
  have hlocks := B.notSynchronized
  have hP : va_P D vwCl [] s.heap := hP
  have hl := lv_entry ([.int x0]) (n := 3) (Nat.le_of_ble_eq_true rfl)
  rw [lg_entry_eq]
  generalize (lg_sl ([.int x0]) ++ List.replicate (3 - (lg_sl ([.int x0])).length) Slot.unset).toArray = ls at hl ⊢
  have hl : lv_has ls 3 [(0, .int x0)] := hl
  refine z_genQ (fun Q hQ => ?_)
  refine lv_iload_n hx hb dX10_halfSine_0 rfl (lv_at hl 0 rfl) ?_
  refine lv_i2l hx hb dX10_halfSine_1 rfl ?_
  refine lv_sipush (v := 18000) hx hb dX10_halfSine_2 (by decide) ?_
  refine lv_iload_n hx hb dX10_halfSine_5 rfl (lv_at hl 0 rfl) ?_
  refine lv_isub hx hb dX10_halfSine_6 ?_
  refine lv_i2l hx hb dX10_halfSine_7 rfl ?_
  refine lv_lmul hx hb dX10_halfSine_8 ?_
  refine lv_lstore_n (lv' := [(1, .long ((x0.toInt64) * (((18000 : Int32) - x0).toInt64))), (0, .int x0)]) hx hb dX10_halfSine_9 rfl hl (by decide) rfl (fun ls hl => ?_)
  refine lv_ldc2 hx hb hown (hts (.constantLong RX10 49 (4000000)) (List.mem_of_getElem? (i := 1) rfl)) dX10_halfSine_10 ?_
  refine lv_lload_n hx hb dX10_halfSine_13 rfl (lv_at hl 0 rfl) ?_
  refine lv_lmul hx hb dX10_halfSine_14 ?_
  refine lv_ldc2 hx hb hown (hts (.constantLong RX10 51 (405000000)) (List.mem_of_getElem? (i := 2) rfl)) dX10_halfSine_15 ?_
  refine lv_lload_n hx hb dX10_halfSine_18 rfl (lv_at hl 0 rfl) ?_
  refine lv_lsub hx hb dX10_halfSine_19 ?_
  refine lv_ldiv hx hb dX10_halfSine_20 (z_half_ne hh.1 hh.2) ?_
  refine lv_l2i hx hb dX10_halfSine_21 rfl ?_
  have e9 : (fm_half x0) = ((((4000000 : Int64) * ((x0.toInt64) * (((18000 : Int32) - x0).toInt64))) / ((405000000 : Int64) - ((x0.toInt64) * (((18000 : Int32) - x0).toInt64)))).toInt32) := by rfl
  subst hQ
  exact W.iret (v := ((((4000000 : Int64) * ((x0.toInt64) * (((18000 : Int32) - x0).toInt64))) / ((405000000 : Int64) - ((x0.toInt64) * (((18000 : Int32) - x0).toInt64)))).toInt32)) hx hb hr (fun t ht hW => ⟨_, rfl, e9.symm, ht⟩) (fun q h => by cases h) dX10_halfSine_22
set_option maxHeartbeats 4000000 in
set_option maxRecDepth 100000 in
theorem c_X10_sine (l : Launch) (D : va_G) (cA : Nat → ClassId) (x0 : Int32) (hc : zcR x0) : Met l yX10_sine wsX10_sine ({ frames := 1, cells := 0, slots := 0, locals := 22 }) (va_Pc [.int x0] (zPreR D (zty cA) ([]))) (vp_Si (fun x => x = (fm_sine x0))) 0 0 (fun _ => False) := by
  refine Met.ofW (cc := cX10_sine) (maxL := 1) (ret := (some .int)) (by decide) rfl ?_
  intro p e s m args below meth c s₁ B hml hv
  obtain ⟨rfl, hP, hK, hN⟩ := hv
  have hx := B.exec
  have hb := B.bytes
  have hr := B.returns
  have hts := atoms_spec (ws := wsX10_sine) B.pre
  have hown : s.vm.findClass RX10 = some m.cls := findClass_of_methodNamed B.named
  have hlocks := B.notSynchronized
  have hP : va_P D vwCl [] s.heap := hP
  have hl := lv_entry ([.int x0]) (n := 1) (Nat.le_of_ble_eq_true rfl)
  rw [lg_entry_eq]
  generalize (lg_sl ([.int x0]) ++ List.replicate (1 - (lg_sl ([.int x0])).length) Slot.unset).toArray = ls at hl ⊢
  have hl : lv_has ls 1 [(0, .int x0)] := hl
  refine z_genQ (fun Q hQ => ?_)
  refine lv_iload_n hx hb dX10_sine_0 rfl (lv_at hl 0 rfl) ?_
  refine lv_sipush (v := 18000) hx hb dX10_sine_1 (by decide) ?_
  refine lv_icmp_gt (tgt := 14) hx hb dX10_sine_4 (by decide) (fun c_1 => ?_) (fun c_1 => ?_)
  · skip
    refine lv_iload_n hx hb dX10_sine_14 rfl (lv_at hl 0 rfl) ?_
    refine lv_sipush (v := 18000) hx hb dX10_sine_15 (by decide) ?_
    refine lv_isub hx hb dX10_sine_18 ?_
    refine z_Ri (va_runS (As := [.int (x0 - (18000 : Int32))]) (rest := []) ⟨hx, hb, hml, hown, hts⟩ (c_X10_halfSine l D cA  (x0 - (18000 : Int32)) (z_half2 hc c_1)) (va_cwS 1 hts gX10_sine_X10_halfSine rfl rfl rfl (by decide +kernel) ⟨Nat.le_of_ble_eq_true rfl, Nat.le_of_ble_eq_true rfl⟩) (zqSR0 hK hN) rfl rfl hl.1 rfl (lv_room (Nat.le_of_ble_eq_true rfl)) dX10_sine_19 ⟨Nat.le_of_ble_eq_true rfl, Nat.le_of_ble_eq_true rfl⟩) ?_
    refine lv_ineg hx hb dX10_sine_22 ?_
    have e9 : (fm_sine x0) = (-(fm_half (x0 - (18000 : Int32)))) := by unfold fm_sine; simp only [if_pos c_1] <;> rfl
    subst hQ
    exact W.iret (v := (-(fm_half (x0 - (18000 : Int32))))) hx hb hr (fun t ht hW => ⟨_, rfl, e9.symm, ht⟩) (fun q h => by cases h) dX10_sine_23
  · skip
    refine lv_iload_n hx hb dX10_sine_7 rfl (lv_at hl 0 rfl) ?_
    refine z_Ri (va_runS (As := [.int x0]) (rest := []) ⟨hx, hb, hml, hown, hts⟩ (c_X10_halfSine l D cA  x0 (z_half1 hc c_1)) (va_cwS 1 hts gX10_sine_X10_halfSine rfl rfl rfl (by decide +kernel) ⟨Nat.le_of_ble_eq_true rfl, Nat.le_of_ble_eq_true rfl⟩) (zqSR0 hK hN) rfl rfl hl.1 rfl (lv_room (Nat.le_of_ble_eq_true rfl)) dX10_sine_8 ⟨Nat.le_of_ble_eq_true rfl, Nat.le_of_ble_eq_true rfl⟩) ?_
    refine lv_goto (tgt := 23) hx hb dX10_sine_11 (by decide) ?_
    have e9 : (fm_sine x0) = (fm_half x0) := by unfold fm_sine; simp only [if_neg c_1] <;> rfl
    subst hQ
    exact W.iret (v := (fm_half x0)) hx hb hr (fun t ht hW => ⟨_, rfl, e9.symm, ht⟩) (fun q h => by cases h) dX10_sine_23
set_option maxHeartbeats 4000000 in
set_option maxRecDepth 100000 in
theorem c_X10_cosine (l : Launch) (D : va_G) (cA : Nat → ClassId) (x0 : Int32) (hc : zcR x0) : Met l yX10_cosine wsX10_cosine ({ frames := 2, cells := 0, slots := 0, locals := 42 }) (va_Pc [.int x0] (zPreR D (zty cA) ([]))) (vp_Si (fun x => x = (fm_cosine x0))) 0 0 (fun _ => False) := by
  refine Met.ofW (cc := cX10_cosine) (maxL := 1) (ret := (some .int)) (by decide) rfl ?_
  intro p e s m args below meth c s₁ B hml hv
  obtain ⟨rfl, hP, hK, hN⟩ := hv
  have hx := B.exec
  have hb := B.bytes
  have hr := B.returns
  have hts := atoms_spec (ws := wsX10_cosine) B.pre
  have hown : s.vm.findClass RX10 = some m.cls := findClass_of_methodNamed B.named
  have hlocks := B.notSynchronized
  have hP : va_P D vwCl [] s.heap := hP
  have hl := lv_entry ([.int x0]) (n := 1) (Nat.le_of_ble_eq_true rfl)
  rw [lg_entry_eq]
  generalize (lg_sl ([.int x0]) ++ List.replicate (1 - (lg_sl ([.int x0])).length) Slot.unset).toArray = ls at hl ⊢
  have hl : lv_has ls 1 [(0, .int x0)] := hl
  refine z_genQ (fun Q hQ => ?_)
  refine lv_iload_n hx hb dX10_cosine_0 rfl (lv_at hl 0 rfl) ?_
  refine lv_sipush (v := 9000) hx hb dX10_cosine_1 (by decide) ?_
  refine lv_iadd hx hb dX10_cosine_4 ?_
  refine lv_ldc hx hb hown (hts (.constant RX10 57 (36000)) (List.mem_of_getElem? (i := 1) rfl)) dX10_cosine_5 ?_
  refine lv_irem hx hb dX10_cosine_7 (by decide) ?_
  refine z_Ri (va_runS (As := [.int ((x0 + (9000 : Int32)) - (x0 + (9000 : Int32)) / (36000 : Int32) * (36000 : Int32))]) (rest := []) ⟨hx, hb, hml, hown, hts⟩ (c_X10_sine l D cA  ((x0 + (9000 : Int32)) - (x0 + (9000 : Int32)) / (36000 : Int32) * (36000 : Int32)) (z_cosIx hc)) (va_cwS 1 hts gX10_cosine_X10_sine rfl rfl rfl (by decide +kernel) ⟨Nat.le_of_ble_eq_true rfl, Nat.le_of_ble_eq_true rfl⟩) (zqSR0 hK hN) rfl rfl hl.1 rfl (lv_room (Nat.le_of_ble_eq_true rfl)) dX10_cosine_8 ⟨Nat.le_of_ble_eq_true rfl, Nat.le_of_ble_eq_true rfl⟩) ?_
  have e9 : (fm_cosine x0) = (fm_sine ((x0 + (9000 : Int32)) - (x0 + (9000 : Int32)) / (36000 : Int32) * (36000 : Int32))) := by rfl
  subst hQ
  exact W.iret (v := (fm_sine ((x0 + (9000 : Int32)) - (x0 + (9000 : Int32)) / (36000 : Int32) * (36000 : Int32)))) hx hb hr (fun t ht hW => ⟨_, rfl, e9.symm, ht⟩) (fun q h => by cases h) dX10_cosine_11
set_option maxHeartbeats 4000000 in
set_option maxRecDepth 100000 in
theorem c_X10_courseOf (l : Launch) (D : va_G) (cA : Nat → ClassId) (x0 : Int32)  : Met l yX10_courseOf wsX10_courseOf ({ frames := 1, cells := 0, slots := 0, locals := 20 }) (va_Pc [.int x0] (zPreR D (zty cA) ([]))) (vp_Si (fun x => x = (fm_cof x0))) 0 0 (fun _ => False) := by
  refine Met.ofW (cc := cX10_courseOf) (maxL := 1) (ret := (some .int)) (by decide) rfl ?_
  intro p e s m args below meth c s₁ B hml hv
  obtain ⟨rfl, hP, hK, hN⟩ := hv
  have hx := B.exec
  have hb := B.bytes
  have hr := B.returns
  have hts := atoms_spec (ws := wsX10_courseOf) B.pre
  have hown : s.vm.findClass RX10 = some m.cls := findClass_of_methodNamed B.named
  have hlocks := B.notSynchronized
  have hP : va_P D vwCl [] s.heap := hP
  have hl := lv_entry ([.int x0]) (n := 1) (Nat.le_of_ble_eq_true rfl)
  rw [lg_entry_eq]
  generalize (lg_sl ([.int x0]) ++ List.replicate (1 - (lg_sl ([.int x0])).length) Slot.unset).toArray = ls at hl ⊢
  have hl : lv_has ls 1 [(0, .int x0)] := hl
  refine z_genQ (fun Q hQ => ?_)
  refine lv_iload_n hx hb dX10_courseOf_0 rfl (lv_at hl 0 rfl) ?_
  refine z_Ri (va_runS (As := [.int x0]) (rest := []) ⟨hx, hb, hml, hown, hts⟩ (c_X10_sizeOf l D cA  x0) (va_cwS 1 hts gX10_courseOf_X10_sizeOf rfl rfl rfl (by decide +kernel) ⟨Nat.le_of_ble_eq_true rfl, Nat.le_of_ble_eq_true rfl⟩) (zqSR0 hK hN) rfl rfl hl.1 rfl (lv_room (Nat.le_of_ble_eq_true rfl)) dX10_courseOf_1 ⟨Nat.le_of_ble_eq_true rfl, Nat.le_of_ble_eq_true rfl⟩) ?_
  refine lv_sipush (v := 10000) hx hb dX10_courseOf_4 (by decide) ?_
  refine lv_idiv hx hb dX10_courseOf_7 (by decide) ?_
  have e9 : (fm_cof x0) = ((fm_size x0) / (10000 : Int32)) := by rfl
  subst hQ
  exact W.iret (v := ((fm_size x0) / (10000 : Int32))) hx hb hr (fun t ht hW => ⟨_, rfl, e9.symm, ht⟩) (fun q h => by cases h) dX10_courseOf_8
set_option maxHeartbeats 4000000 in
set_option maxRecDepth 100000 in
theorem c_X10_sineOf (l : Launch) (D : va_G) (cA : Nat → ClassId) (x0 : Int32) (hc : zlR x0) : Met l yX10_sineOf wsX10_sineOf ({ frames := 2, cells := 0, slots := 0, locals := 42 }) (va_Pc [.int x0] (zPreR D (zty cA) ([]))) (vp_Sl (fun x => x = (fm_sineOf x0))) 0 0 (fun _ => False) := by
  refine Met.ofW (cc := cX10_sineOf) (maxL := 2) (ret := (some .long)) (by decide) rfl ?_
  intro p e s m args below meth c s₁ B hml hv
  obtain ⟨rfl, hP, hK, hN⟩ := hv
  have hx := B.exec
  have hb := B.bytes
  have hr := B.returns
  have hts := atoms_spec (ws := wsX10_sineOf) B.pre
  have hown : s.vm.findClass RX10 = some m.cls := findClass_of_methodNamed B.named
  have hlocks := B.notSynchronized
  have hP : va_P D vwCl [] s.heap := hP
  have hl := lv_entry ([.int x0]) (n := 2) (Nat.le_of_ble_eq_true rfl)
  rw [lg_entry_eq]
  generalize (lg_sl ([.int x0]) ++ List.replicate (2 - (lg_sl ([.int x0])).length) Slot.unset).toArray = ls at hl ⊢
  have hl : lv_has ls 2 [(0, .int x0)] := hl
  refine z_genQ (fun Q hQ => ?_)
  refine lv_iload_n hx hb dX10_sineOf_0 rfl (lv_at hl 0 rfl) ?_
  refine z_Ri (va_runS (As := [.int x0]) (rest := []) ⟨hx, hb, hml, hown, hts⟩ (c_X10_courseOf l D cA  x0) (va_cwS 1 hts gX10_sineOf_X10_courseOf rfl rfl rfl (by decide +kernel) ⟨Nat.le_of_ble_eq_true rfl, Nat.le_of_ble_eq_true rfl⟩) (zqSR0 hK hN) rfl rfl hl.1 rfl (lv_room (Nat.le_of_ble_eq_true rfl)) dX10_sineOf_1 ⟨Nat.le_of_ble_eq_true rfl, Nat.le_of_ble_eq_true rfl⟩) ?_
  refine z_Ri (va_runS (As := [.int (fm_cof x0)]) (rest := []) ⟨hx, hb, hml, hown, hts⟩ (c_X10_sine l D cA  (fm_cof x0) (z_cofC hc)) (va_cwS 1 hts gX10_sineOf_X10_sine rfl rfl rfl (by decide +kernel) ⟨Nat.le_of_ble_eq_true rfl, Nat.le_of_ble_eq_true rfl⟩) (zqSR0 hK hN) rfl rfl hl.1 rfl (lv_room (Nat.le_of_ble_eq_true rfl)) dX10_sineOf_4 ⟨Nat.le_of_ble_eq_true rfl, Nat.le_of_ble_eq_true rfl⟩) ?_
  refine lv_istore_n (lv' := [(1, .int (fm_sine (fm_cof x0))), (0, .int x0)]) hx hb dX10_sineOf_7 rfl hl (by decide) rfl (fun ls hl => ?_)
  refine lv_iload_n hx hb dX10_sineOf_8 rfl (lv_at hl 1 rfl) ?_
  refine lv_if_ge (tgt := 18) hx hb dX10_sineOf_9 (by decide) (fun c_1 => ?_) (fun c_1 => ?_)
  · skip
    refine lv_iload_n hx hb dX10_sineOf_18 rfl (lv_at hl 0 rfl) ?_
    refine lv_i2l hx hb dX10_sineOf_19 rfl ?_
    have e9 : (fm_sineOf x0) = ((fm_sine (fm_cof x0)).toInt64) := by unfold fm_sineOf; simp only [if_pos c_1] <;> rfl
    subst hQ
    exact W.lret (v := ((fm_sine (fm_cof x0)).toInt64)) hx hb hr (fun t ht hW => ⟨_, rfl, e9.symm, ht⟩) (fun q h => by cases h) dX10_sineOf_20
  · skip
    refine lv_iload_n hx hb dX10_sineOf_12 rfl (lv_at hl 0 rfl) ?_
    refine lv_ineg hx hb dX10_sineOf_13 ?_
    refine lv_i2l hx hb dX10_sineOf_14 rfl ?_
    refine lv_goto (tgt := 20) hx hb dX10_sineOf_15 (by decide) ?_
    have e9 : (fm_sineOf x0) = ((-(fm_sine (fm_cof x0))).toInt64) := by unfold fm_sineOf; simp only [if_neg c_1] <;> rfl
    subst hQ
    exact W.lret (v := ((-(fm_sine (fm_cof x0))).toInt64)) hx hb hr (fun t ht hW => ⟨_, rfl, e9.symm, ht⟩) (fun q h => by cases h) dX10_sineOf_20
set_option maxHeartbeats 4000000 in
set_option maxRecDepth 100000 in
theorem c_X10_cosineOf (l : Launch) (D : va_G) (cA : Nat → ClassId) (x0 : Int32) (hc : zlR x0) : Met l yX10_cosineOf wsX10_cosineOf ({ frames := 3, cells := 0, slots := 0, locals := 62 }) (va_Pc [.int x0] (zPreR D (zty cA) ([]))) (vp_Sl (fun x => x = (fm_cosOf x0))) 0 0 (fun _ => False) := by
  refine Met.ofW (cc := cX10_cosineOf) (maxL := 1) (ret := (some .long)) (by decide) rfl ?_
  intro p e s m args below meth c s₁ B hml hv
  obtain ⟨rfl, hP, hK, hN⟩ := hv
  have hx := B.exec
  have hb := B.bytes
  have hr := B.returns
  have hts := atoms_spec (ws := wsX10_cosineOf) B.pre
  have hown : s.vm.findClass RX10 = some m.cls := findClass_of_methodNamed B.named
  have hlocks := B.notSynchronized
  have hP : va_P D vwCl [] s.heap := hP
  have hl := lv_entry ([.int x0]) (n := 1) (Nat.le_of_ble_eq_true rfl)
  rw [lg_entry_eq]
  generalize (lg_sl ([.int x0]) ++ List.replicate (1 - (lg_sl ([.int x0])).length) Slot.unset).toArray = ls at hl ⊢
  have hl : lv_has ls 1 [(0, .int x0)] := hl
  refine z_genQ (fun Q hQ => ?_)
  refine lv_iload_n hx hb dX10_cosineOf_0 rfl (lv_at hl 0 rfl) ?_
  refine z_Ri (va_runS (As := [.int x0]) (rest := []) ⟨hx, hb, hml, hown, hts⟩ (c_X10_courseOf l D cA  x0) (va_cwS 1 hts gX10_cosineOf_X10_courseOf rfl rfl rfl (by decide +kernel) ⟨Nat.le_of_ble_eq_true rfl, Nat.le_of_ble_eq_true rfl⟩) (zqSR0 hK hN) rfl rfl hl.1 rfl (lv_room (Nat.le_of_ble_eq_true rfl)) dX10_cosineOf_1 ⟨Nat.le_of_ble_eq_true rfl, Nat.le_of_ble_eq_true rfl⟩) ?_
  refine z_Ri (va_runS (As := [.int (fm_cof x0)]) (rest := []) ⟨hx, hb, hml, hown, hts⟩ (c_X10_cosine l D cA  (fm_cof x0) (z_cofC hc)) (va_cwS 1 hts gX10_cosineOf_X10_cosine rfl rfl rfl (by decide +kernel) ⟨Nat.le_of_ble_eq_true rfl, Nat.le_of_ble_eq_true rfl⟩) (zqSR0 hK hN) rfl rfl hl.1 rfl (lv_room (Nat.le_of_ble_eq_true rfl)) dX10_cosineOf_4 ⟨Nat.le_of_ble_eq_true rfl, Nat.le_of_ble_eq_true rfl⟩) ?_
  refine lv_i2l hx hb dX10_cosineOf_7 rfl ?_
  have e9 : (fm_cosOf x0) = ((fm_cosine (fm_cof x0)).toInt64) := by rfl
  subst hQ
  exact W.lret (v := ((fm_cosine (fm_cof x0)).toInt64)) hx hb hr (fun t ht hW => ⟨_, rfl, e9.symm, ht⟩) (fun q h => by cases h) dX10_cosineOf_8
set_option maxHeartbeats 4000000 in
set_option maxRecDepth 100000 in
theorem c_X10_setting (l : Launch) (D : va_G) (cA : Nat → ClassId) (h0 h1 h2 h3 h4 h5 h6 h7 h8 h9 h10 h11 : Nat) (w : Nat) (v : vX10) (hw : w < 9) : Met l yX10_setting wsX10_setting ({ frames := 0, cells := 0, slots := 0, locals := 0 }) (va_Pc [.ref h0, .int (nI w)] (zPreR D (zty cA) (wX10 cA h0 h1 h2 h3 h4 h5 h6 h7 h8 h9 h10 h11 v))) (vp_Si (fun x => x = (v.1 (20 + w)))) 0 0 (fun _ => False) := by
  refine Met.ofW (cc := cX10_setting) (maxL := 2) (ret := (some .int)) (by decide) rfl ?_
  intro p e s m args below meth c s₁ B hml hv
  obtain ⟨rfl, hP, hK, hN⟩ := hv
  have hx := B.exec
  have hb := B.bytes
  have hr := B.returns
  have hts := atoms_spec (ws := wsX10_setting) B.pre
  have hown : s.vm.findClass RX10 = some m.cls := findClass_of_methodNamed B.named
  have hlocks := B.notSynchronized
  have hinX10 : ∀ w ∈ u_ws RX10 TX10 16, w ∈ wsX10_setting := fun w h => List.mem_cons_of_mem _ (List.mem_append_right _ h)
  have hP : va_P D vwCl [(h0, .inr (10, [.ref h1, .ref h2, .ref h3, .ref h4, .ref h5, .ref h6, .int v.2.2.2.2.2.2.1, .ref h7, .ref h8, .ref h9, .ref h10, .int v.2.2.2.2.2.2.2.2.2.2.2.1, .int v.2.2.2.2.2.2.2.2.2.2.2.2.1, .int v.2.2.2.2.2.2.2.2.2.2.2.2.2.1, .ref h11, .int v.2.2.2.2.2.2.2.2.2.2.2.2.2.2.2])), (h1, .inl ((cA 1), 85, .inl v.1)), (h2, .inl ((cA 0), 9, .inr (.inl v.2.1))), (h3, .inl ((cA 1), 85, .inl v.2.2.1)), (h4, .inl ((cA 0), 9, .inr (.inl v.2.2.2.1))), (h5, .inl ((cA 1), 510, .inl v.2.2.2.2.1)), (h6, .inl ((cA 0), 54, .inr (.inl v.2.2.2.2.2.1))), (h7, .inl ((cA 1), 170, .inl v.2.2.2.2.2.2.2.1)), (h8, .inl ((cA 0), 18, .inr (.inl v.2.2.2.2.2.2.2.2.1))), (h9, .inl ((cA 2), 2, .inl v.2.2.2.2.2.2.2.2.2.1)), (h10, .inl ((cA 1), 80, .inl v.2.2.2.2.2.2.2.2.2.2.1)), (h11, .inl ((cA 1), 60, .inl v.2.2.2.2.2.2.2.2.2.2.2.2.2.2.1))] s.heap := hP
  have hl := lv_entry ([.ref h0, .int (nI w)]) (n := 2) (Nat.le_of_ble_eq_true rfl)
  rw [lg_entry_eq]
  generalize (lg_sl ([.ref h0, .int (nI w)]) ++ List.replicate (2 - (lg_sl ([.ref h0, .int (nI w)])).length) Slot.unset).toArray = ls at hl ⊢
  have hl : lv_has ls 2 [(0, .ref h0), (1, .int (nI w))] := hl
  refine z_genQ (fun Q hQ => ?_)
  refine lv_aload_n hx hb dX10_setting_0 rfl (lv_at hl 0 rfl) ?_
  refine va_get (D := D) (ci := 10) (v := .ref h1) (C := RX10) (T := TX10) (N := 16) hx hb hts hinX10 hown hK hP 0 rfl rfl 0 (by decide) (hts (.fieldLink RX10 7 "GyroTrainerModel" "at" "[I") (List.mem_of_getElem? (i := 1) rfl)) (fun _ h9 => h9) rfl dX10_setting_1 ?_
  refine lv_bipush (v := 20) hx hb dX10_setting_4 (by decide) ?_
  refine lv_iload_n hx hb dX10_setting_6 rfl (lv_at hl 1 rfl) ?_
  refine lv_iadd hx hb dX10_setting_7 ?_
  refine z_iald (k := (20 + w)) hx hb hK hP 1 1 rfl rfl (nI_add 20 w) (by omega) (by decide) dX10_setting_8 ?_
  have e9 : (v.1 (20 + w)) = (v.1 ((20 + w))) := by rfl
  subst hQ
  exact W.iret (v := (v.1 ((20 + w)))) hx hb hr (fun t ht hW => ⟨_, rfl, e9.symm, ht⟩) (fun q h => by cases h) dX10_setting_9
set_option maxHeartbeats 4000000 in
set_option maxRecDepth 100000 in
theorem c_X10_turnError (l : Launch) (D : va_G) (cA : Nat → ClassId) (h0 h1 h2 h3 h4 h5 h6 h7 h8 h9 h10 h11 : Nat) (w : Nat) (v : vX10) (hw : w < 8) : Met l yX10_turnError wsX10_turnError ({ frames := 0, cells := 0, slots := 0, locals := 0 }) (va_Pc [.ref h0, .int (nI w)] (zPreR D (zty cA) (wX10 cA h0 h1 h2 h3 h4 h5 h6 h7 h8 h9 h10 h11 v))) (vp_Si (fun x => x = (v.1 (58 + 2 * w)))) 0 0 (fun _ => False) := by
  refine Met.ofW (cc := cX10_turnError) (maxL := 2) (ret := (some .int)) (by decide) rfl ?_
  intro p e s m args below meth c s₁ B hml hv
  obtain ⟨rfl, hP, hK, hN⟩ := hv
  have hx := B.exec
  have hb := B.bytes
  have hr := B.returns
  have hts := atoms_spec (ws := wsX10_turnError) B.pre
  have hown : s.vm.findClass RX10 = some m.cls := findClass_of_methodNamed B.named
  have hlocks := B.notSynchronized
  have hinX10 : ∀ w ∈ u_ws RX10 TX10 16, w ∈ wsX10_turnError := fun w h => List.mem_cons_of_mem _ (List.mem_append_right _ h)
  have hP : va_P D vwCl [(h0, .inr (10, [.ref h1, .ref h2, .ref h3, .ref h4, .ref h5, .ref h6, .int v.2.2.2.2.2.2.1, .ref h7, .ref h8, .ref h9, .ref h10, .int v.2.2.2.2.2.2.2.2.2.2.2.1, .int v.2.2.2.2.2.2.2.2.2.2.2.2.1, .int v.2.2.2.2.2.2.2.2.2.2.2.2.2.1, .ref h11, .int v.2.2.2.2.2.2.2.2.2.2.2.2.2.2.2])), (h1, .inl ((cA 1), 85, .inl v.1)), (h2, .inl ((cA 0), 9, .inr (.inl v.2.1))), (h3, .inl ((cA 1), 85, .inl v.2.2.1)), (h4, .inl ((cA 0), 9, .inr (.inl v.2.2.2.1))), (h5, .inl ((cA 1), 510, .inl v.2.2.2.2.1)), (h6, .inl ((cA 0), 54, .inr (.inl v.2.2.2.2.2.1))), (h7, .inl ((cA 1), 170, .inl v.2.2.2.2.2.2.2.1)), (h8, .inl ((cA 0), 18, .inr (.inl v.2.2.2.2.2.2.2.2.1))), (h9, .inl ((cA 2), 2, .inl v.2.2.2.2.2.2.2.2.2.1)), (h10, .inl ((cA 1), 80, .inl v.2.2.2.2.2.2.2.2.2.2.1)), (h11, .inl ((cA 1), 60, .inl v.2.2.2.2.2.2.2.2.2.2.2.2.2.2.1))] s.heap := hP
  have hl := lv_entry ([.ref h0, .int (nI w)]) (n := 2) (Nat.le_of_ble_eq_true rfl)
  rw [lg_entry_eq]
  generalize (lg_sl ([.ref h0, .int (nI w)]) ++ List.replicate (2 - (lg_sl ([.ref h0, .int (nI w)])).length) Slot.unset).toArray = ls at hl ⊢
  have hl : lv_has ls 2 [(0, .ref h0), (1, .int (nI w))] := hl
  refine z_genQ (fun Q hQ => ?_)
  refine lv_aload_n hx hb dX10_turnError_0 rfl (lv_at hl 0 rfl) ?_
  refine va_get (D := D) (ci := 10) (v := .ref h1) (C := RX10) (T := TX10) (N := 16) hx hb hts hinX10 hown hK hP 0 rfl rfl 0 (by decide) (hts (.fieldLink RX10 7 "GyroTrainerModel" "at" "[I") (List.mem_of_getElem? (i := 1) rfl)) (fun _ h9 => h9) rfl dX10_turnError_1 ?_
  refine lv_bipush (v := 58) hx hb dX10_turnError_4 (by decide) ?_
  refine lv_iconst (v := 2) hx hb dX10_turnError_6 (by decide) ?_
  refine lv_iload_n hx hb dX10_turnError_7 rfl (lv_at hl 1 rfl) ?_
  refine lv_imul hx hb dX10_turnError_8 ?_
  refine lv_iadd hx hb dX10_turnError_9 ?_
  refine z_iald (k := (58 + 2 * w)) hx hb hK hP 1 1 rfl rfl (zm_ix 58 2 w) (by omega) (by decide) dX10_turnError_10 ?_
  have e9 : (v.1 (58 + 2 * w)) = (v.1 ((58 + 2 * w))) := by rfl
  subst hQ
  exact W.iret (v := (v.1 ((58 + 2 * w)))) hx hb hr (fun t ht hW => ⟨_, rfl, e9.symm, ht⟩) (fun q h => by cases h) dX10_turnError_11
set_option maxHeartbeats 4000000 in
set_option maxRecDepth 100000 in
theorem c_X10_restBy (l : Launch) (D : va_G) (cA : Nat → ClassId) (h0 h1 h2 h3 h4 h5 h6 h7 h8 h9 h10 h11 : Nat) (v : vX10) (x1 : Int32) (x2 : Int32) (x3 : Int32) (hl0 : zlR x1) (hc0 : zcR x3) : Met l yX10_restBy wsX10_restBy ({ frames := 4, cells := 0, slots := 0, locals := 82 }) (va_Pc [.ref h0, .int x1, .int x2, .int x3] (zPreR D (zty cA) (wX10 cA h0 h1 h2 h3 h4 h5 h6 h7 h8 h9 h10 h11 v))) (vp_Si (fun x => x = (fm_restBy v.1 x1 x2 x3))) 0 0 (fun _ => False) := by
  refine Met.ofW (cc := cX10_restBy) (maxL := 8) (ret := (some .int)) (by decide) rfl ?_
  intro p e s m args below meth c s₁ B hml hv
  obtain ⟨rfl, hP, hK, hN⟩ := hv
  have hx := B.exec
  have hb := B.bytes
  have hr := B.returns
  have hts := atoms_spec (ws := wsX10_restBy) B.pre
  have hown : s.vm.findClass RX10 = some m.cls := findClass_of_methodNamed B.named
  have hlocks := B.notSynchronized
  have hinX10 : ∀ w ∈ u_ws RX10 TX10 16, w ∈ wsX10_restBy := fun w h => List.mem_cons_of_mem _ (List.mem_append_right _ h)
  have hP : va_P D vwCl [(h0, .inr (10, [.ref h1, .ref h2, .ref h3, .ref h4, .ref h5, .ref h6, .int v.2.2.2.2.2.2.1, .ref h7, .ref h8, .ref h9, .ref h10, .int v.2.2.2.2.2.2.2.2.2.2.2.1, .int v.2.2.2.2.2.2.2.2.2.2.2.2.1, .int v.2.2.2.2.2.2.2.2.2.2.2.2.2.1, .ref h11, .int v.2.2.2.2.2.2.2.2.2.2.2.2.2.2.2])), (h1, .inl ((cA 1), 85, .inl v.1)), (h2, .inl ((cA 0), 9, .inr (.inl v.2.1))), (h3, .inl ((cA 1), 85, .inl v.2.2.1)), (h4, .inl ((cA 0), 9, .inr (.inl v.2.2.2.1))), (h5, .inl ((cA 1), 510, .inl v.2.2.2.2.1)), (h6, .inl ((cA 0), 54, .inr (.inl v.2.2.2.2.2.1))), (h7, .inl ((cA 1), 170, .inl v.2.2.2.2.2.2.2.1)), (h8, .inl ((cA 0), 18, .inr (.inl v.2.2.2.2.2.2.2.2.1))), (h9, .inl ((cA 2), 2, .inl v.2.2.2.2.2.2.2.2.2.1)), (h10, .inl ((cA 1), 80, .inl v.2.2.2.2.2.2.2.2.2.2.1)), (h11, .inl ((cA 1), 60, .inl v.2.2.2.2.2.2.2.2.2.2.2.2.2.2.1))] s.heap := hP
  have hl := lv_entry ([.ref h0, .int x1, .int x2, .int x3]) (n := 8) (Nat.le_of_ble_eq_true rfl)
  rw [lg_entry_eq]
  generalize (lg_sl ([.ref h0, .int x1, .int x2, .int x3]) ++ List.replicate (8 - (lg_sl ([.ref h0, .int x1, .int x2, .int x3])).length) Slot.unset).toArray = ls at hl ⊢
  have hl : lv_has ls 8 [(0, .ref h0), (1, .int x1), (2, .int x2), (3, .int x3)] := hl
  refine z_genQ (fun Q hQ => ?_)
  refine lv_aload_n hx hb dX10_restBy_0 rfl (lv_at hl 0 rfl) ?_
  refine lv_iconst (v := 2) hx hb dX10_restBy_1 (by decide) ?_
  refine z_Ri (va_runV (As := [.int (2 : Int32)]) (rest := []) ⟨hx, hb, hml, hown, hts⟩ (c_X10_setting l D cA h0 h1 h2 h3 h4 h5 h6 h7 h8 h9 h10 h11 2 v (by decide)) (cwV 1 hts gX10_restBy_X10_setting rfl rfl rfl (by decide +kernel) ⟨Nat.le_of_ble_eq_true rfl, Nat.le_of_ble_eq_true rfl⟩) (zqVR hK hP hN (z_c1 (a := []) (b := []) rfl) 0 rfl rfl) rfl rfl hl.1 rfl (lv_room (Nat.le_of_ble_eq_true rfl)) dX10_restBy_2 ⟨Nat.le_of_ble_eq_true rfl, Nat.le_of_ble_eq_true rfl⟩) ?_
  refine lv_i2l hx hb dX10_restBy_5 rfl ?_
  refine lv_iload_n hx hb dX10_restBy_6 rfl (lv_at hl 1 rfl) ?_
  refine z_Rl (va_runS (As := [.int x1]) (rest := [.long ((v.1 (20 + 2)).toInt64)]) ⟨hx, hb, hml, hown, hts⟩ (c_X10_sineOf l D cA  x1 hl0) (va_cwS 1 hts gX10_restBy_X10_sineOf rfl rfl rfl (by decide +kernel) ⟨Nat.le_of_ble_eq_true rfl, Nat.le_of_ble_eq_true rfl⟩) (zqSR0 hK hN) rfl rfl hl.1 rfl (lv_room (Nat.le_of_ble_eq_true rfl)) dX10_restBy_7 ⟨Nat.le_of_ble_eq_true rfl, Nat.le_of_ble_eq_true rfl⟩) ?_
  refine lv_lmul hx hb dX10_restBy_10 ?_
  refine lv_iload_n hx hb dX10_restBy_11 rfl (lv_at hl 1 rfl) ?_
  refine z_Rl (va_runS (As := [.int x1]) (rest := [.long (((v.1 (20 + 2)).toInt64) * (fm_sineOf x1))]) ⟨hx, hb, hml, hown, hts⟩ (c_X10_cosineOf l D cA  x1 hl0) (va_cwS 1 hts gX10_restBy_X10_cosineOf rfl rfl rfl (by decide +kernel) ⟨Nat.le_of_ble_eq_true rfl, Nat.le_of_ble_eq_true rfl⟩) (zqSR0 hK hN) rfl rfl hl.1 rfl (lv_room (Nat.le_of_ble_eq_true rfl)) dX10_restBy_12 ⟨Nat.le_of_ble_eq_true rfl, Nat.le_of_ble_eq_true rfl⟩) ?_
  refine lv_ldiv hx hb dX10_restBy_15 (z_cosNe hl0) ?_
  refine lv_lstore (lv' := [(4, .long ((((v.1 (20 + 2)).toInt64) * (fm_sineOf x1)) / (fm_cosOf x1))), (0, .ref h0), (1, .int x1), (2, .int x2), (3, .int x3)]) hx hb dX10_restBy_16 hl (by decide) rfl (fun ls hl => ?_)
  refine lv_ldc2 hx hb hown (hts (.constantLong RX10 80 (64)) (List.mem_of_getElem? (i := 1) rfl)) dX10_restBy_18 ?_
  refine lv_iload_n hx hb dX10_restBy_21 rfl (lv_at hl 3 rfl) ?_
  refine lv_i2l hx hb dX10_restBy_22 rfl ?_
  refine lv_lmul hx hb dX10_restBy_23 ?_
  refine lv_iload_n hx hb dX10_restBy_24 rfl (lv_at hl 4 rfl) ?_
  refine z_Ri (va_runS (As := [.int x3]) (rest := [.long ((64 : Int64) * (x2.toInt64))]) ⟨hx, hb, hml, hown, hts⟩ (c_X10_cosine l D cA  x3 hc0) (va_cwS 1 hts gX10_restBy_X10_cosine rfl rfl rfl (by decide +kernel) ⟨Nat.le_of_ble_eq_true rfl, Nat.le_of_ble_eq_true rfl⟩) (zqSR0 hK hN) rfl rfl hl.1 rfl (lv_room (Nat.le_of_ble_eq_true rfl)) dX10_restBy_25 ⟨Nat.le_of_ble_eq_true rfl, Nat.le_of_ble_eq_true rfl⟩) ?_
  refine lv_i2l hx hb dX10_restBy_28 rfl ?_
  refine lv_lmul hx hb dX10_restBy_29 ?_
  refine lv_iload_n hx hb dX10_restBy_30 rfl (lv_at hl 2 rfl) ?_
  refine z_Rl (va_runS (As := [.int x1]) (rest := [.long (((64 : Int64) * (x2.toInt64)) * ((fm_cosine x3).toInt64))]) ⟨hx, hb, hml, hown, hts⟩ (c_X10_cosineOf l D cA  x1 hl0) (va_cwS 1 hts gX10_restBy_X10_cosineOf rfl rfl rfl (by decide +kernel) ⟨Nat.le_of_ble_eq_true rfl, Nat.le_of_ble_eq_true rfl⟩) (zqSR0 hK hN) rfl rfl hl.1 rfl (lv_room (Nat.le_of_ble_eq_true rfl)) dX10_restBy_31 ⟨Nat.le_of_ble_eq_true rfl, Nat.le_of_ble_eq_true rfl⟩) ?_
  refine lv_ldiv hx hb dX10_restBy_34 (z_cosNe hl0) ?_
  refine lv_lstore (lv' := [(6, .long ((((64 : Int64) * (x2.toInt64)) * ((fm_cosine x3).toInt64)) / (fm_cosOf x1))), (4, .long ((((v.1 (20 + 2)).toInt64) * (fm_sineOf x1)) / (fm_cosOf x1))), (0, .ref h0), (1, .int x1), (2, .int x2), (3, .int x3)]) hx hb dX10_restBy_35 hl (by decide) rfl (fun ls hl => ?_)
  refine lv_lload hx hb dX10_restBy_37 (lv_at hl 1 rfl) ?_
  refine lv_lload hx hb dX10_restBy_39 (lv_at hl 0 rfl) ?_
  refine lv_lsub hx hb dX10_restBy_41 ?_
  refine lv_l2i hx hb dX10_restBy_42 rfl ?_
  have e9 : (fm_restBy v.1 x1 x2 x3) = ((((((v.1 (20 + 2)).toInt64) * (fm_sineOf x1)) / (fm_cosOf x1)) - ((((64 : Int64) * (x2.toInt64)) * ((fm_cosine x3).toInt64)) / (fm_cosOf x1))).toInt32) := by rfl
  subst hQ
  exact W.iret (v := ((((((v.1 (20 + 2)).toInt64) * (fm_sineOf x1)) / (fm_cosOf x1)) - ((((64 : Int64) * (x2.toInt64)) * ((fm_cosine x3).toInt64)) / (fm_cosOf x1))).toInt32)) hx hb hr (fun t ht hW => ⟨_, rfl, e9.symm, ht⟩) (fun q h => by cases h) dX10_restBy_43
set_option maxHeartbeats 4000000 in
set_option maxRecDepth 100000 in
theorem c_X10_course (l : Launch) (D : va_G) (cA : Nat → ClassId) (h0 h1 h2 h3 h4 h5 h6 h7 h8 h9 h10 h11 : Nat) (v : vX10)  : Met l yX10_course wsX10_course ({ frames := 0, cells := 0, slots := 0, locals := 0 }) (va_Pc [.ref h0] (zPreR D (zty cA) (wX10 cA h0 h1 h2 h3 h4 h5 h6 h7 h8 h9 h10 h11 v))) (vp_Si (fun x => x = (fm_course v.1))) 0 0 (fun _ => False) := by
  refine Met.ofW (cc := cX10_course) (maxL := 1) (ret := (some .int)) (by decide) rfl ?_
  intro p e s m args below meth c s₁ B hml hv
  obtain ⟨rfl, hP, hK, hN⟩ := hv
  have hx := B.exec
  have hb := B.bytes
  have hr := B.returns
  have hts := atoms_spec (ws := wsX10_course) B.pre
  have hown : s.vm.findClass RX10 = some m.cls := findClass_of_methodNamed B.named
  have hlocks := B.notSynchronized
  have hinX10 : ∀ w ∈ u_ws RX10 TX10 16, w ∈ wsX10_course := fun w h => List.mem_cons_of_mem _ (List.mem_append_right _ h)
  have hP : va_P D vwCl [(h0, .inr (10, [.ref h1, .ref h2, .ref h3, .ref h4, .ref h5, .ref h6, .int v.2.2.2.2.2.2.1, .ref h7, .ref h8, .ref h9, .ref h10, .int v.2.2.2.2.2.2.2.2.2.2.2.1, .int v.2.2.2.2.2.2.2.2.2.2.2.2.1, .int v.2.2.2.2.2.2.2.2.2.2.2.2.2.1, .ref h11, .int v.2.2.2.2.2.2.2.2.2.2.2.2.2.2.2])), (h1, .inl ((cA 1), 85, .inl v.1)), (h2, .inl ((cA 0), 9, .inr (.inl v.2.1))), (h3, .inl ((cA 1), 85, .inl v.2.2.1)), (h4, .inl ((cA 0), 9, .inr (.inl v.2.2.2.1))), (h5, .inl ((cA 1), 510, .inl v.2.2.2.2.1)), (h6, .inl ((cA 0), 54, .inr (.inl v.2.2.2.2.2.1))), (h7, .inl ((cA 1), 170, .inl v.2.2.2.2.2.2.2.1)), (h8, .inl ((cA 0), 18, .inr (.inl v.2.2.2.2.2.2.2.2.1))), (h9, .inl ((cA 2), 2, .inl v.2.2.2.2.2.2.2.2.2.1)), (h10, .inl ((cA 1), 80, .inl v.2.2.2.2.2.2.2.2.2.2.1)), (h11, .inl ((cA 1), 60, .inl v.2.2.2.2.2.2.2.2.2.2.2.2.2.2.1))] s.heap := hP
  have hl := lv_entry ([.ref h0]) (n := 1) (Nat.le_of_ble_eq_true rfl)
  rw [lg_entry_eq]
  generalize (lg_sl ([.ref h0]) ++ List.replicate (1 - (lg_sl ([.ref h0])).length) Slot.unset).toArray = ls at hl ⊢
  have hl : lv_has ls 1 [(0, .ref h0)] := hl
  refine z_genQ (fun Q hQ => ?_)
  refine lv_aload_n hx hb dX10_course_0 rfl (lv_at hl 0 rfl) ?_
  refine va_get (D := D) (ci := 10) (v := .ref h1) (C := RX10) (T := TX10) (N := 16) hx hb hts hinX10 hown hK hP 0 rfl rfl 0 (by decide) (hts (.fieldLink RX10 7 "GyroTrainerModel" "at" "[I") (List.mem_of_getElem? (i := 1) rfl)) (fun _ h9 => h9) rfl dX10_course_1 ?_
  refine lv_iconst (v := 3) hx hb dX10_course_4 (by decide) ?_
  refine z_iald (k := 3) hx hb hK hP 1 1 rfl rfl rfl (by decide) (by decide) dX10_course_5 ?_
  refine lv_if_le (tgt := 19) hx hb dX10_course_6 (by decide) (fun c_1 => ?_) (fun c_1 => ?_)
  · skip
    refine lv_aload_n hx hb dX10_course_19 rfl (lv_at hl 0 rfl) ?_
    refine va_get (D := D) (ci := 10) (v := .ref h1) (C := RX10) (T := TX10) (N := 16) hx hb hts hinX10 hown hK hP 0 rfl rfl 0 (by decide) (hts (.fieldLink RX10 7 "GyroTrainerModel" "at" "[I") (List.mem_of_getElem? (i := 1) rfl)) (fun _ h9 => h9) rfl dX10_course_20 ?_
    refine lv_iconst (v := 1) hx hb dX10_course_23 (by decide) ?_
    refine z_iald (k := 1) hx hb hK hP 1 1 rfl rfl rfl (by decide) (by decide) dX10_course_24 ?_
    have e9 : (fm_course v.1) = (v.1 1) := by unfold fm_course; simp only [if_pos c_1] <;> rfl
    subst hQ
    exact W.iret (v := (v.1 1)) hx hb hr (fun t ht hW => ⟨_, rfl, e9.symm, ht⟩) (fun q h => by cases h) dX10_course_25
  · skip
    refine lv_aload_n hx hb dX10_course_9 rfl (lv_at hl 0 rfl) ?_
    refine va_get (D := D) (ci := 10) (v := .ref h1) (C := RX10) (T := TX10) (N := 16) hx hb hts hinX10 hown hK hP 0 rfl rfl 0 (by decide) (hts (.fieldLink RX10 7 "GyroTrainerModel" "at" "[I") (List.mem_of_getElem? (i := 1) rfl)) (fun _ h9 => h9) rfl dX10_course_10 ?_
    refine lv_bipush (v := 34) hx hb dX10_course_13 (by decide) ?_
    refine z_iald (k := 34) hx hb hK hP 1 1 rfl rfl rfl (by decide) (by decide) dX10_course_15 ?_
    refine lv_goto (tgt := 25) hx hb dX10_course_16 (by decide) ?_
    have e9 : (fm_course v.1) = (v.1 34) := by unfold fm_course; simp only [if_neg c_1] <;> rfl
    subst hQ
    exact W.iret (v := (v.1 34)) hx hb hr (fun t ht hW => ⟨_, rfl, e9.symm, ht⟩) (fun q h => by cases h) dX10_course_25
set_option maxHeartbeats 4000000 in
set_option maxRecDepth 100000 in
theorem c_X10_speed (l : Launch) (D : va_G) (cA : Nat → ClassId) (h0 h1 h2 h3 h4 h5 h6 h7 h8 h9 h10 h11 : Nat) (v : vX10)  : Met l yX10_speed wsX10_speed ({ frames := 0, cells := 0, slots := 0, locals := 0 }) (va_Pc [.ref h0] (zPreR D (zty cA) (wX10 cA h0 h1 h2 h3 h4 h5 h6 h7 h8 h9 h10 h11 v))) (vp_Si (fun x => x = (fm_speed v.1))) 0 0 (fun _ => False) := by
  refine Met.ofW (cc := cX10_speed) (maxL := 1) (ret := (some .int)) (by decide) rfl ?_
  intro p e s m args below meth c s₁ B hml hv
  obtain ⟨rfl, hP, hK, hN⟩ := hv
  have hx := B.exec
  have hb := B.bytes
  have hr := B.returns
  have hts := atoms_spec (ws := wsX10_speed) B.pre
  have hown : s.vm.findClass RX10 = some m.cls := findClass_of_methodNamed B.named
  have hlocks := B.notSynchronized
  have hinX10 : ∀ w ∈ u_ws RX10 TX10 16, w ∈ wsX10_speed := fun w h => List.mem_cons_of_mem _ (List.mem_append_right _ h)
  have hP : va_P D vwCl [(h0, .inr (10, [.ref h1, .ref h2, .ref h3, .ref h4, .ref h5, .ref h6, .int v.2.2.2.2.2.2.1, .ref h7, .ref h8, .ref h9, .ref h10, .int v.2.2.2.2.2.2.2.2.2.2.2.1, .int v.2.2.2.2.2.2.2.2.2.2.2.2.1, .int v.2.2.2.2.2.2.2.2.2.2.2.2.2.1, .ref h11, .int v.2.2.2.2.2.2.2.2.2.2.2.2.2.2.2])), (h1, .inl ((cA 1), 85, .inl v.1)), (h2, .inl ((cA 0), 9, .inr (.inl v.2.1))), (h3, .inl ((cA 1), 85, .inl v.2.2.1)), (h4, .inl ((cA 0), 9, .inr (.inl v.2.2.2.1))), (h5, .inl ((cA 1), 510, .inl v.2.2.2.2.1)), (h6, .inl ((cA 0), 54, .inr (.inl v.2.2.2.2.2.1))), (h7, .inl ((cA 1), 170, .inl v.2.2.2.2.2.2.2.1)), (h8, .inl ((cA 0), 18, .inr (.inl v.2.2.2.2.2.2.2.2.1))), (h9, .inl ((cA 2), 2, .inl v.2.2.2.2.2.2.2.2.2.1)), (h10, .inl ((cA 1), 80, .inl v.2.2.2.2.2.2.2.2.2.2.1)), (h11, .inl ((cA 1), 60, .inl v.2.2.2.2.2.2.2.2.2.2.2.2.2.2.1))] s.heap := hP
  have hl := lv_entry ([.ref h0]) (n := 1) (Nat.le_of_ble_eq_true rfl)
  rw [lg_entry_eq]
  generalize (lg_sl ([.ref h0]) ++ List.replicate (1 - (lg_sl ([.ref h0])).length) Slot.unset).toArray = ls at hl ⊢
  have hl : lv_has ls 1 [(0, .ref h0)] := hl
  refine z_genQ (fun Q hQ => ?_)
  refine lv_aload_n hx hb dX10_speed_0 rfl (lv_at hl 0 rfl) ?_
  refine va_get (D := D) (ci := 10) (v := .ref h1) (C := RX10) (T := TX10) (N := 16) hx hb hts hinX10 hown hK hP 0 rfl rfl 0 (by decide) (hts (.fieldLink RX10 7 "GyroTrainerModel" "at" "[I") (List.mem_of_getElem? (i := 1) rfl)) (fun _ h9 => h9) rfl dX10_speed_1 ?_
  refine lv_iconst (v := 3) hx hb dX10_speed_4 (by decide) ?_
  refine z_iald (k := 3) hx hb hK hP 1 1 rfl rfl rfl (by decide) (by decide) dX10_speed_5 ?_
  refine lv_if_le (tgt := 19) hx hb dX10_speed_6 (by decide) (fun c_1 => ?_) (fun c_1 => ?_)
  · skip
    refine lv_aload_n hx hb dX10_speed_19 rfl (lv_at hl 0 rfl) ?_
    refine va_get (D := D) (ci := 10) (v := .ref h1) (C := RX10) (T := TX10) (N := 16) hx hb hts hinX10 hown hK hP 0 rfl rfl 0 (by decide) (hts (.fieldLink RX10 7 "GyroTrainerModel" "at" "[I") (List.mem_of_getElem? (i := 1) rfl)) (fun _ h9 => h9) rfl dX10_speed_20 ?_
    refine lv_iconst (v := 2) hx hb dX10_speed_23 (by decide) ?_
    refine z_iald (k := 2) hx hb hK hP 1 1 rfl rfl rfl (by decide) (by decide) dX10_speed_24 ?_
    have e9 : (fm_speed v.1) = (v.1 2) := by unfold fm_speed; simp only [if_pos c_1] <;> rfl
    subst hQ
    exact W.iret (v := (v.1 2)) hx hb hr (fun t ht hW => ⟨_, rfl, e9.symm, ht⟩) (fun q h => by cases h) dX10_speed_25
  · skip
    refine lv_aload_n hx hb dX10_speed_9 rfl (lv_at hl 0 rfl) ?_
    refine va_get (D := D) (ci := 10) (v := .ref h1) (C := RX10) (T := TX10) (N := 16) hx hb hts hinX10 hown hK hP 0 rfl rfl 0 (by decide) (hts (.fieldLink RX10 7 "GyroTrainerModel" "at" "[I") (List.mem_of_getElem? (i := 1) rfl)) (fun _ h9 => h9) rfl dX10_speed_10 ?_
    refine lv_bipush (v := 35) hx hb dX10_speed_13 (by decide) ?_
    refine z_iald (k := 35) hx hb hK hP 1 1 rfl rfl rfl (by decide) (by decide) dX10_speed_15 ?_
    refine lv_goto (tgt := 25) hx hb dX10_speed_16 (by decide) ?_
    have e9 : (fm_speed v.1) = (v.1 35) := by unfold fm_speed; simp only [if_neg c_1] <;> rfl
    subst hQ
    exact W.iret (v := (v.1 35)) hx hb hr (fun t ht hW => ⟨_, rfl, e9.symm, ht⟩) (fun q h => by cases h) dX10_speed_25
set_option maxHeartbeats 4000000 in
set_option maxRecDepth 100000 in
theorem c_X10_rest (l : Launch) (D : va_G) (cA : Nat → ClassId) (h0 h1 h2 h3 h4 h5 h6 h7 h8 h9 h10 h11 : Nat) (v : vX10) (hR : okR v.1) : Met l yX10_rest wsX10_rest ({ frames := 5, cells := 0, slots := 0, locals := 109 }) (va_Pc [.ref h0] (zPreR D (zty cA) (wX10 cA h0 h1 h2 h3 h4 h5 h6 h7 h8 h9 h10 h11 v))) (vp_Si (fun x => x = (fm_rest v.1))) 0 0 (fun _ => False) := by
  refine Met.ofW (cc := cX10_rest) (maxL := 1) (ret := (some .int)) (by decide) rfl ?_
  intro p e s m args below meth c s₁ B hml hv
  obtain ⟨rfl, hP, hK, hN⟩ := hv
  have hx := B.exec
  have hb := B.bytes
  have hr := B.returns
  have hts := atoms_spec (ws := wsX10_rest) B.pre
  have hown : s.vm.findClass RX10 = some m.cls := findClass_of_methodNamed B.named
  have hlocks := B.notSynchronized
  have hinX10 : ∀ w ∈ u_ws RX10 TX10 16, w ∈ wsX10_rest := fun w h => List.mem_cons_of_mem _ (List.mem_append_right _ h)
  have hP : va_P D vwCl [(h0, .inr (10, [.ref h1, .ref h2, .ref h3, .ref h4, .ref h5, .ref h6, .int v.2.2.2.2.2.2.1, .ref h7, .ref h8, .ref h9, .ref h10, .int v.2.2.2.2.2.2.2.2.2.2.2.1, .int v.2.2.2.2.2.2.2.2.2.2.2.2.1, .int v.2.2.2.2.2.2.2.2.2.2.2.2.2.1, .ref h11, .int v.2.2.2.2.2.2.2.2.2.2.2.2.2.2.2])), (h1, .inl ((cA 1), 85, .inl v.1)), (h2, .inl ((cA 0), 9, .inr (.inl v.2.1))), (h3, .inl ((cA 1), 85, .inl v.2.2.1)), (h4, .inl ((cA 0), 9, .inr (.inl v.2.2.2.1))), (h5, .inl ((cA 1), 510, .inl v.2.2.2.2.1)), (h6, .inl ((cA 0), 54, .inr (.inl v.2.2.2.2.2.1))), (h7, .inl ((cA 1), 170, .inl v.2.2.2.2.2.2.2.1)), (h8, .inl ((cA 0), 18, .inr (.inl v.2.2.2.2.2.2.2.2.1))), (h9, .inl ((cA 2), 2, .inl v.2.2.2.2.2.2.2.2.2.1)), (h10, .inl ((cA 1), 80, .inl v.2.2.2.2.2.2.2.2.2.2.1)), (h11, .inl ((cA 1), 60, .inl v.2.2.2.2.2.2.2.2.2.2.2.2.2.2.1))] s.heap := hP
  have hl := lv_entry ([.ref h0]) (n := 1) (Nat.le_of_ble_eq_true rfl)
  rw [lg_entry_eq]
  generalize (lg_sl ([.ref h0]) ++ List.replicate (1 - (lg_sl ([.ref h0])).length) Slot.unset).toArray = ls at hl ⊢
  have hl : lv_has ls 1 [(0, .ref h0)] := hl
  refine z_genQ (fun Q hQ => ?_)
  refine lv_aload_n hx hb dX10_rest_0 rfl (lv_at hl 0 rfl) ?_
  refine lv_aload_n hx hb dX10_rest_1 rfl (lv_at hl 0 rfl) ?_
  refine va_get (D := D) (ci := 10) (v := .ref h1) (C := RX10) (T := TX10) (N := 16) hx hb hts hinX10 hown hK hP 0 rfl rfl 0 (by decide) (hts (.fieldLink RX10 7 "GyroTrainerModel" "at" "[I") (List.mem_of_getElem? (i := 1) rfl)) (fun _ h9 => h9) rfl dX10_rest_2 ?_
  refine lv_iconst (v := 0) hx hb dX10_rest_5 (by decide) ?_
  refine z_iald (k := 0) hx hb hK hP 1 1 rfl rfl rfl (by decide) (by decide) dX10_rest_6 ?_
  refine lv_aload_n hx hb dX10_rest_7 rfl (lv_at hl 0 rfl) ?_
  refine z_Ri (va_runV (As := []) (rest := [.int (v.1 0), .ref h0]) ⟨hx, hb, hml, hown, hts⟩ (c_X10_speed l D cA h0 h1 h2 h3 h4 h5 h6 h7 h8 h9 h10 h11 v) (cwV 0 hts gX10_rest_X10_speed rfl rfl rfl (by decide +kernel) ⟨Nat.le_of_ble_eq_true rfl, Nat.le_of_ble_eq_true rfl⟩) (zqVR hK hP hN (z_c1 (a := []) (b := []) rfl) 0 rfl rfl) rfl rfl hl.1 rfl (lv_room (Nat.le_of_ble_eq_true rfl)) dX10_rest_8 ⟨Nat.le_of_ble_eq_true rfl, Nat.le_of_ble_eq_true rfl⟩) ?_
  refine lv_aload_n hx hb dX10_rest_11 rfl (lv_at hl 0 rfl) ?_
  refine z_Ri (va_runV (As := []) (rest := [.int (fm_speed v.1), .int (v.1 0), .ref h0]) ⟨hx, hb, hml, hown, hts⟩ (c_X10_course l D cA h0 h1 h2 h3 h4 h5 h6 h7 h8 h9 h10 h11 v) (cwV 0 hts gX10_rest_X10_course rfl rfl rfl (by decide +kernel) ⟨Nat.le_of_ble_eq_true rfl, Nat.le_of_ble_eq_true rfl⟩) (zqVR hK hP hN (z_c1 (a := []) (b := []) rfl) 0 rfl rfl) rfl rfl hl.1 rfl (lv_room (Nat.le_of_ble_eq_true rfl)) dX10_rest_12 ⟨Nat.le_of_ble_eq_true rfl, Nat.le_of_ble_eq_true rfl⟩) ?_
  refine z_Ri (va_runV (As := [.int (v.1 0), .int (fm_speed v.1), .int (fm_course v.1)]) (rest := []) ⟨hx, hb, hml, hown, hts⟩ (c_X10_restBy l D cA h0 h1 h2 h3 h4 h5 h6 h7 h8 h9 h10 h11 v (v.1 0) (fm_speed v.1) (fm_course v.1) hR.1 hR.2.2) (cwV 3 hts gX10_rest_X10_restBy rfl rfl rfl (by decide +kernel) ⟨Nat.le_of_ble_eq_true rfl, Nat.le_of_ble_eq_true rfl⟩) (zqVR hK hP hN (z_c1 (a := []) (b := []) rfl) 0 rfl rfl) rfl rfl hl.1 rfl (lv_room (Nat.le_of_ble_eq_true rfl)) dX10_rest_15 ⟨Nat.le_of_ble_eq_true rfl, Nat.le_of_ble_eq_true rfl⟩) ?_
  refine lv_aload_n hx hb dX10_rest_18 rfl (lv_at hl 0 rfl) ?_
  refine lv_ldc hx hb hown (hts (.constant RX10 93 (1000000)) (List.mem_of_getElem? (i := 2) rfl)) dX10_rest_19 ?_
  refine lv_aload_n hx hb dX10_rest_21 rfl (lv_at hl 0 rfl) ?_
  refine va_get (D := D) (ci := 10) (v := .ref h1) (C := RX10) (T := TX10) (N := 16) hx hb hts hinX10 hown hK hP 0 rfl rfl 0 (by decide) (hts (.fieldLink RX10 7 "GyroTrainerModel" "at" "[I") (List.mem_of_getElem? (i := 1) rfl)) (fun _ h9 => h9) rfl dX10_rest_22 ?_
  refine lv_bipush (v := 6) hx hb dX10_rest_25 (by decide) ?_
  refine z_iald (k := 6) hx hb hK hP 1 1 rfl rfl rfl (by decide) (by decide) dX10_rest_27 ?_
  refine lv_imul hx hb dX10_rest_28 ?_
  refine lv_aload_n hx hb dX10_rest_29 rfl (lv_at hl 0 rfl) ?_
  refine va_get (D := D) (ci := 10) (v := .ref h1) (C := RX10) (T := TX10) (N := 16) hx hb hts hinX10 hown hK hP 0 rfl rfl 0 (by decide) (hts (.fieldLink RX10 7 "GyroTrainerModel" "at" "[I") (List.mem_of_getElem? (i := 1) rfl)) (fun _ h9 => h9) rfl dX10_rest_30 ?_
  refine lv_bipush (v := 7) hx hb dX10_rest_33 (by decide) ?_
  refine z_iald (k := 7) hx hb hK hP 1 1 rfl rfl rfl (by decide) (by decide) dX10_rest_35 ?_
  refine lv_aload_n hx hb dX10_rest_36 rfl (lv_at hl 0 rfl) ?_
  refine z_Ri (va_runV (As := []) (rest := [.int (v.1 7), .int ((1000000 : Int32) * (v.1 6)), .ref h0, .int (fm_restBy v.1 (v.1 0) (fm_speed v.1) (fm_course v.1))]) ⟨hx, hb, hml, hown, hts⟩ (c_X10_course l D cA h0 h1 h2 h3 h4 h5 h6 h7 h8 h9 h10 h11 v) (cwV 0 hts gX10_rest_X10_course rfl rfl rfl (by decide +kernel) ⟨Nat.le_of_ble_eq_true rfl, Nat.le_of_ble_eq_true rfl⟩) (zqVR hK hP hN (z_c1 (a := []) (b := []) rfl) 0 rfl rfl) rfl rfl hl.1 rfl (lv_room (Nat.le_of_ble_eq_true rfl)) dX10_rest_37 ⟨Nat.le_of_ble_eq_true rfl, Nat.le_of_ble_eq_true rfl⟩) ?_
  refine z_Ri (va_runV (As := [.int ((1000000 : Int32) * (v.1 6)), .int (v.1 7), .int (fm_course v.1)]) (rest := [.int (fm_restBy v.1 (v.1 0) (fm_speed v.1) (fm_course v.1))]) ⟨hx, hb, hml, hown, hts⟩ (c_X10_restBy l D cA h0 h1 h2 h3 h4 h5 h6 h7 h8 h9 h10 h11 v ((1000000 : Int32) * (v.1 6)) (v.1 7) (fm_course v.1) (z_deg hR.2.1) hR.2.2) (cwV 3 hts gX10_rest_X10_restBy rfl rfl rfl (by decide +kernel) ⟨Nat.le_of_ble_eq_true rfl, Nat.le_of_ble_eq_true rfl⟩) (zqVR hK hP hN (z_c1 (a := []) (b := []) rfl) 0 rfl rfl) rfl rfl hl.1 rfl (lv_room (Nat.le_of_ble_eq_true rfl)) dX10_rest_40 ⟨Nat.le_of_ble_eq_true rfl, Nat.le_of_ble_eq_true rfl⟩) ?_
  refine lv_isub hx hb dX10_rest_43 ?_
  have e9 : (fm_rest v.1) = ((fm_restBy v.1 (v.1 0) (fm_speed v.1) (fm_course v.1)) - (fm_restBy v.1 ((1000000 : Int32) * (v.1 6)) (v.1 7) (fm_course v.1))) := by rfl
  subst hQ
  exact W.iret (v := ((fm_restBy v.1 (v.1 0) (fm_speed v.1) (fm_course v.1)) - (fm_restBy v.1 ((1000000 : Int32) * (v.1 6)) (v.1 7) (fm_course v.1)))) hx hb hr (fun t ht hW => ⟨_, rfl, e9.symm, ht⟩) (fun q h => by cases h) dX10_rest_44
set_option maxHeartbeats 4000000 in
set_option maxRecDepth 100000 in
theorem c_X10_takes (l : Launch) (D : va_G) (cA : Nat → ClassId) (x0 : Int32) (x1 : Int32)  : Met l yX10_takes wsX10_takes ({ frames := 1, cells := 0, slots := 0, locals := 22 }) (va_Pc [.int x0, .int x1] (zPreR D (zty cA) ([]))) (vp_Si (fun x => x = (fm_takes x0 x1))) 0 0 (fun _ => False) := by
  refine Met.ofW (cc := cX10_takes) (maxL := 2) (ret := (some .boolean)) (by decide) rfl ?_
  intro p e s m args below meth c s₁ B hml hv
  obtain ⟨rfl, hP, hK, hN⟩ := hv
  have hx := B.exec
  have hb := B.bytes
  have hr := B.returns
  have hts := atoms_spec (ws := wsX10_takes) B.pre
  have hown : s.vm.findClass RX10 = some m.cls := findClass_of_methodNamed B.named
  have hlocks := B.notSynchronized
  have hP : va_P D vwCl [] s.heap := hP
  have hl := lv_entry ([.int x0, .int x1]) (n := 2) (Nat.le_of_ble_eq_true rfl)
  rw [lg_entry_eq]
  generalize (lg_sl ([.int x0, .int x1]) ++ List.replicate (2 - (lg_sl ([.int x0, .int x1])).length) Slot.unset).toArray = ls at hl ⊢
  have hl : lv_has ls 2 [(0, .int x0), (1, .int x1)] := hl
  refine z_genQ (fun Q hQ => ?_)
  refine lv_iload_n hx hb dX10_takes_0 rfl (lv_at hl 0 rfl) ?_
  rcases z_sw x0 0 7 with c_1 | ⟨j, hj, c_1⟩
  · skip
    refine lv_tableOut (tgt := 116) hx hb dX10_takes_1 c_1 (by decide) ?_
    refine lv_iload_n hx hb dX10_takes_116 rfl (lv_at hl 0 rfl) ?_
    refine lv_bipush (v := 8) hx hb dX10_takes_117 (by decide) ?_
    refine lv_icmp_ne (tgt := 136) hx hb dX10_takes_119 (by decide) (fun c_2 => ?_) (fun c_2 => ?_)
    · skip
      refine lv_iconst (v := 0) hx hb dX10_takes_136 (by decide) ?_
      have e9 : (fm_takes x0 x1) = (0 : Int32) := by unfold fm_takes; simp only [if_neg (z_out c_1 (0 : Int32) (by decide)), if_neg (z_out c_1 (1 : Int32) (by decide)), if_neg (z_out c_1 (2 : Int32) (by decide)), if_neg (z_out c_1 (3 : Int32) (by decide)), if_neg (z_out c_1 (4 : Int32) (by decide)), if_neg (z_out c_1 (5 : Int32) (by decide)), if_neg (z_out c_1 (6 : Int32) (by decide)), if_neg (z_out c_1 (7 : Int32) (by decide)), if_neg c_2] <;> rfl
      subst hQ
      exact W.zret (ty := .boolean) (v := (0 : Int32)) hx hb hr rfl (fun t ht hW => ⟨_, rfl, e9.symm, ht⟩) (fun q h => by cases h) dX10_takes_137
    · skip
      refine lv_iload_n hx hb dX10_takes_122 rfl (lv_at hl 1 rfl) ?_
      refine lv_iconst (v := 0) hx hb dX10_takes_123 (by decide) ?_
      refine lv_bipush (v := 60) hx hb dX10_takes_124 (by decide) ?_
      refine z_Ri (va_runS (As := [.int x1, .int (0 : Int32), .int (60 : Int32)]) (rest := []) ⟨hx, hb, hml, hown, hts⟩ (c_X10_in l D cA  x1 (0 : Int32) (60 : Int32)) (va_cwS 3 hts gX10_takes_X10_in rfl rfl rfl (by decide +kernel) ⟨Nat.le_of_ble_eq_true rfl, Nat.le_of_ble_eq_true rfl⟩) (zqSR0 hK hN) rfl rfl hl.1 rfl (lv_room (Nat.le_of_ble_eq_true rfl)) dX10_takes_126 ⟨Nat.le_of_ble_eq_true rfl, Nat.le_of_ble_eq_true rfl⟩) ?_
      refine lv_if_eq (tgt := 136) hx hb dX10_takes_129 (by decide) (fun c_3 => ?_) (fun c_3 => ?_)
      · skip
        refine lv_iconst (v := 0) hx hb dX10_takes_136 (by decide) ?_
        have e9 : (fm_takes x0 x1) = (0 : Int32) := by unfold fm_takes; simp only [if_neg (z_out c_1 (0 : Int32) (by decide)), if_neg (z_out c_1 (1 : Int32) (by decide)), if_neg (z_out c_1 (2 : Int32) (by decide)), if_neg (z_out c_1 (3 : Int32) (by decide)), if_neg (z_out c_1 (4 : Int32) (by decide)), if_neg (z_out c_1 (5 : Int32) (by decide)), if_neg (z_out c_1 (6 : Int32) (by decide)), if_neg (z_out c_1 (7 : Int32) (by decide)), if_pos c_2, if_pos c_3] <;> rfl
        subst hQ
        exact W.zret (ty := .boolean) (v := (0 : Int32)) hx hb hr rfl (fun t ht hW => ⟨_, rfl, e9.symm, ht⟩) (fun q h => by cases h) dX10_takes_137
      · skip
        refine lv_iconst (v := 1) hx hb dX10_takes_132 (by decide) ?_
        refine lv_goto (tgt := 137) hx hb dX10_takes_133 (by decide) ?_
        have e9 : (fm_takes x0 x1) = (1 : Int32) := by unfold fm_takes; simp only [if_neg (z_out c_1 (0 : Int32) (by decide)), if_neg (z_out c_1 (1 : Int32) (by decide)), if_neg (z_out c_1 (2 : Int32) (by decide)), if_neg (z_out c_1 (3 : Int32) (by decide)), if_neg (z_out c_1 (4 : Int32) (by decide)), if_neg (z_out c_1 (5 : Int32) (by decide)), if_neg (z_out c_1 (6 : Int32) (by decide)), if_neg (z_out c_1 (7 : Int32) (by decide)), if_pos c_2, if_neg c_3] <;> rfl
        subst hQ
        exact W.zret (ty := .boolean) (v := (1 : Int32)) hx hb hr rfl (fun t ht hW => ⟨_, rfl, e9.symm, ht⟩) (fun q h => by cases h) dX10_takes_137
  · skip
    have hj2 : j = 0 ∨ j = 1 ∨ j = 2 ∨ j = 3 ∨ j = 4 ∨ j = 5 ∨ j = 6 ∨ j = 7 := by omega
    rcases hj2 with rfl | rfl | rfl | rfl | rfl | rfl | rfl | rfl
    · skip
      have c_1 : x0 = 0 := c_1.trans (by decide)
      refine lv_tableIn (tgt := 48) (off := 47) hx hb dX10_takes_1 (by rw [c_1]; decide) (by rw [c_1]; decide) (by rw [c_1]; decide) (by decide) ?_
      refine lv_iload_n hx hb dX10_takes_48 rfl (lv_at hl 1 rfl) ?_
      refine lv_iconst (v := 1) hx hb dX10_takes_49 (by decide) ?_
      refine lv_bipush (v := 100) hx hb dX10_takes_50 (by decide) ?_
      refine z_Ri (va_runS (As := [.int x1, .int (1 : Int32), .int (100 : Int32)]) (rest := []) ⟨hx, hb, hml, hown, hts⟩ (c_X10_in l D cA  x1 (1 : Int32) (100 : Int32)) (va_cwS 3 hts gX10_takes_X10_in rfl rfl rfl (by decide +kernel) ⟨Nat.le_of_ble_eq_true rfl, Nat.le_of_ble_eq_true rfl⟩) (zqSR0 hK hN) rfl rfl hl.1 rfl (lv_room (Nat.le_of_ble_eq_true rfl)) dX10_takes_52 ⟨Nat.le_of_ble_eq_true rfl, Nat.le_of_ble_eq_true rfl⟩) ?_
      have e9 : (fm_takes x0 x1) = (fm_in x1 (1 : Int32) (100 : Int32)) := by unfold fm_takes; simp only [if_pos c_1] <;> rfl
      subst hQ
      exact W.zret (ty := .boolean) (v := (fm_in x1 (1 : Int32) (100 : Int32))) hx hb hr (fm_in_b _ _ _) (fun t ht hW => ⟨_, rfl, e9.symm, ht⟩) (fun q h => by cases h) dX10_takes_55
    · skip
      have c_1 : x0 = 1 := c_1.trans (by decide)
      refine lv_tableIn (tgt := 56) (off := 55) hx hb dX10_takes_1 (by rw [c_1]; decide) (by rw [c_1]; decide) (by rw [c_1]; decide) (by decide) ?_
      refine lv_iload_n hx hb dX10_takes_56 rfl (lv_at hl 1 rfl) ?_
      refine lv_iconst (v := 1) hx hb dX10_takes_57 (by decide) ?_
      refine lv_sipush (v := 1000) hx hb dX10_takes_58 (by decide) ?_
      refine z_Ri (va_runS (As := [.int x1, .int (1 : Int32), .int (1000 : Int32)]) (rest := []) ⟨hx, hb, hml, hown, hts⟩ (c_X10_in l D cA  x1 (1 : Int32) (1000 : Int32)) (va_cwS 3 hts gX10_takes_X10_in rfl rfl rfl (by decide +kernel) ⟨Nat.le_of_ble_eq_true rfl, Nat.le_of_ble_eq_true rfl⟩) (zqSR0 hK hN) rfl rfl hl.1 rfl (lv_room (Nat.le_of_ble_eq_true rfl)) dX10_takes_61 ⟨Nat.le_of_ble_eq_true rfl, Nat.le_of_ble_eq_true rfl⟩) ?_
      have e9 : (fm_takes x0 x1) = (fm_in x1 (1 : Int32) (1000 : Int32)) := by unfold fm_takes; simp only [if_neg (show ¬ x0 = (0 : Int32) from fun h => absurd (c_1.symm.trans h) (by decide)), if_pos c_1] <;> rfl
      subst hQ
      exact W.zret (ty := .boolean) (v := (fm_in x1 (1 : Int32) (1000 : Int32))) hx hb hr (fm_in_b _ _ _) (fun t ht hW => ⟨_, rfl, e9.symm, ht⟩) (fun q h => by cases h) dX10_takes_64
    · skip
      have c_1 : x0 = 2 := c_1.trans (by decide)
      refine lv_tableIn (tgt := 65) (off := 64) hx hb dX10_takes_1 (by rw [c_1]; decide) (by rw [c_1]; decide) (by rw [c_1]; decide) (by decide) ?_
      refine lv_iload_n hx hb dX10_takes_65 rfl (lv_at hl 1 rfl) ?_
      refine lv_iconst (v := 0) hx hb dX10_takes_66 (by decide) ?_
      refine lv_sipush (v := 30000) hx hb dX10_takes_67 (by decide) ?_
      refine z_Ri (va_runS (As := [.int x1, .int (0 : Int32), .int (30000 : Int32)]) (rest := []) ⟨hx, hb, hml, hown, hts⟩ (c_X10_in l D cA  x1 (0 : Int32) (30000 : Int32)) (va_cwS 3 hts gX10_takes_X10_in rfl rfl rfl (by decide +kernel) ⟨Nat.le_of_ble_eq_true rfl, Nat.le_of_ble_eq_true rfl⟩) (zqSR0 hK hN) rfl rfl hl.1 rfl (lv_room (Nat.le_of_ble_eq_true rfl)) dX10_takes_70 ⟨Nat.le_of_ble_eq_true rfl, Nat.le_of_ble_eq_true rfl⟩) ?_
      have e9 : (fm_takes x0 x1) = (fm_in x1 (0 : Int32) (30000 : Int32)) := by unfold fm_takes; simp only [if_neg (show ¬ x0 = (0 : Int32) from fun h => absurd (c_1.symm.trans h) (by decide)), if_neg (show ¬ x0 = (1 : Int32) from fun h => absurd (c_1.symm.trans h) (by decide)), if_pos c_1] <;> rfl
      subst hQ
      exact W.zret (ty := .boolean) (v := (fm_in x1 (0 : Int32) (30000 : Int32))) hx hb hr (fm_in_b _ _ _) (fun t ht hW => ⟨_, rfl, e9.symm, ht⟩) (fun q h => by cases h) dX10_takes_73
    · skip
      have c_1 : x0 = 3 := c_1.trans (by decide)
      refine lv_tableIn (tgt := 74) (off := 73) hx hb dX10_takes_1 (by rw [c_1]; decide) (by rw [c_1]; decide) (by rw [c_1]; decide) (by decide) ?_
      refine lv_iload_n hx hb dX10_takes_74 rfl (lv_at hl 1 rfl) ?_
      refine lv_iconst (v := 0) hx hb dX10_takes_75 (by decide) ?_
      refine lv_ldc hx hb hown (hts (.constant RX10 98 (100000)) (List.mem_of_getElem? (i := 1) rfl)) dX10_takes_76 ?_
      refine z_Ri (va_runS (As := [.int x1, .int (0 : Int32), .int (100000 : Int32)]) (rest := []) ⟨hx, hb, hml, hown, hts⟩ (c_X10_in l D cA  x1 (0 : Int32) (100000 : Int32)) (va_cwS 3 hts gX10_takes_X10_in rfl rfl rfl (by decide +kernel) ⟨Nat.le_of_ble_eq_true rfl, Nat.le_of_ble_eq_true rfl⟩) (zqSR0 hK hN) rfl rfl hl.1 rfl (lv_room (Nat.le_of_ble_eq_true rfl)) dX10_takes_78 ⟨Nat.le_of_ble_eq_true rfl, Nat.le_of_ble_eq_true rfl⟩) ?_
      have e9 : (fm_takes x0 x1) = (fm_in x1 (0 : Int32) (100000 : Int32)) := by unfold fm_takes; simp only [if_neg (show ¬ x0 = (0 : Int32) from fun h => absurd (c_1.symm.trans h) (by decide)), if_neg (show ¬ x0 = (1 : Int32) from fun h => absurd (c_1.symm.trans h) (by decide)), if_neg (show ¬ x0 = (2 : Int32) from fun h => absurd (c_1.symm.trans h) (by decide)), if_pos c_1] <;> rfl
      subst hQ
      exact W.zret (ty := .boolean) (v := (fm_in x1 (0 : Int32) (100000 : Int32))) hx hb hr (fm_in_b _ _ _) (fun t ht hW => ⟨_, rfl, e9.symm, ht⟩) (fun q h => by cases h) dX10_takes_81
    · skip
      have c_1 : x0 = 4 := c_1.trans (by decide)
      refine lv_tableIn (tgt := 82) (off := 81) hx hb dX10_takes_1 (by rw [c_1]; decide) (by rw [c_1]; decide) (by rw [c_1]; decide) (by decide) ?_
      refine lv_iload_n hx hb dX10_takes_82 rfl (lv_at hl 1 rfl) ?_
      refine lv_iconst (v := 0) hx hb dX10_takes_83 (by decide) ?_
      refine lv_sipush (v := 20000) hx hb dX10_takes_84 (by decide) ?_
      refine z_Ri (va_runS (As := [.int x1, .int (0 : Int32), .int (20000 : Int32)]) (rest := []) ⟨hx, hb, hml, hown, hts⟩ (c_X10_in l D cA  x1 (0 : Int32) (20000 : Int32)) (va_cwS 3 hts gX10_takes_X10_in rfl rfl rfl (by decide +kernel) ⟨Nat.le_of_ble_eq_true rfl, Nat.le_of_ble_eq_true rfl⟩) (zqSR0 hK hN) rfl rfl hl.1 rfl (lv_room (Nat.le_of_ble_eq_true rfl)) dX10_takes_87 ⟨Nat.le_of_ble_eq_true rfl, Nat.le_of_ble_eq_true rfl⟩) ?_
      have e9 : (fm_takes x0 x1) = (fm_in x1 (0 : Int32) (20000 : Int32)) := by unfold fm_takes; simp only [if_neg (show ¬ x0 = (0 : Int32) from fun h => absurd (c_1.symm.trans h) (by decide)), if_neg (show ¬ x0 = (1 : Int32) from fun h => absurd (c_1.symm.trans h) (by decide)), if_neg (show ¬ x0 = (2 : Int32) from fun h => absurd (c_1.symm.trans h) (by decide)), if_neg (show ¬ x0 = (3 : Int32) from fun h => absurd (c_1.symm.trans h) (by decide)), if_pos c_1] <;> rfl
      subst hQ
      exact W.zret (ty := .boolean) (v := (fm_in x1 (0 : Int32) (20000 : Int32))) hx hb hr (fm_in_b _ _ _) (fun t ht hW => ⟨_, rfl, e9.symm, ht⟩) (fun q h => by cases h) dX10_takes_90
    · skip
      have c_1 : x0 = 5 := c_1.trans (by decide)
      refine lv_tableIn (tgt := 91) (off := 90) hx hb dX10_takes_1 (by rw [c_1]; decide) (by rw [c_1]; decide) (by rw [c_1]; decide) (by decide) ?_
      refine lv_iload_n hx hb dX10_takes_91 rfl (lv_at hl 1 rfl) ?_
      refine lv_iconst (v := 0) hx hb dX10_takes_92 (by decide) ?_
      refine lv_ldc hx hb hown (hts (.constant RX10 99 (50000)) (List.mem_of_getElem? (i := 2) rfl)) dX10_takes_93 ?_
      refine z_Ri (va_runS (As := [.int x1, .int (0 : Int32), .int (50000 : Int32)]) (rest := []) ⟨hx, hb, hml, hown, hts⟩ (c_X10_in l D cA  x1 (0 : Int32) (50000 : Int32)) (va_cwS 3 hts gX10_takes_X10_in rfl rfl rfl (by decide +kernel) ⟨Nat.le_of_ble_eq_true rfl, Nat.le_of_ble_eq_true rfl⟩) (zqSR0 hK hN) rfl rfl hl.1 rfl (lv_room (Nat.le_of_ble_eq_true rfl)) dX10_takes_95 ⟨Nat.le_of_ble_eq_true rfl, Nat.le_of_ble_eq_true rfl⟩) ?_
      have e9 : (fm_takes x0 x1) = (fm_in x1 (0 : Int32) (50000 : Int32)) := by unfold fm_takes; simp only [if_neg (show ¬ x0 = (0 : Int32) from fun h => absurd (c_1.symm.trans h) (by decide)), if_neg (show ¬ x0 = (1 : Int32) from fun h => absurd (c_1.symm.trans h) (by decide)), if_neg (show ¬ x0 = (2 : Int32) from fun h => absurd (c_1.symm.trans h) (by decide)), if_neg (show ¬ x0 = (3 : Int32) from fun h => absurd (c_1.symm.trans h) (by decide)), if_neg (show ¬ x0 = (4 : Int32) from fun h => absurd (c_1.symm.trans h) (by decide)), if_pos c_1] <;> rfl
      subst hQ
      exact W.zret (ty := .boolean) (v := (fm_in x1 (0 : Int32) (50000 : Int32))) hx hb hr (fm_in_b _ _ _) (fun t ht hW => ⟨_, rfl, e9.symm, ht⟩) (fun q h => by cases h) dX10_takes_98
    · skip
      have c_1 : x0 = 6 := c_1.trans (by decide)
      refine lv_tableIn (tgt := 99) (off := 98) hx hb dX10_takes_1 (by rw [c_1]; decide) (by rw [c_1]; decide) (by rw [c_1]; decide) (by decide) ?_
      refine lv_iload_n hx hb dX10_takes_99 rfl (lv_at hl 1 rfl) ?_
      refine lv_iconst (v := 0) hx hb dX10_takes_100 (by decide) ?_
      refine lv_sipush (v := 500) hx hb dX10_takes_101 (by decide) ?_
      refine z_Ri (va_runS (As := [.int x1, .int (0 : Int32), .int (500 : Int32)]) (rest := []) ⟨hx, hb, hml, hown, hts⟩ (c_X10_in l D cA  x1 (0 : Int32) (500 : Int32)) (va_cwS 3 hts gX10_takes_X10_in rfl rfl rfl (by decide +kernel) ⟨Nat.le_of_ble_eq_true rfl, Nat.le_of_ble_eq_true rfl⟩) (zqSR0 hK hN) rfl rfl hl.1 rfl (lv_room (Nat.le_of_ble_eq_true rfl)) dX10_takes_104 ⟨Nat.le_of_ble_eq_true rfl, Nat.le_of_ble_eq_true rfl⟩) ?_
      have e9 : (fm_takes x0 x1) = (fm_in x1 (0 : Int32) (500 : Int32)) := by unfold fm_takes; simp only [if_neg (show ¬ x0 = (0 : Int32) from fun h => absurd (c_1.symm.trans h) (by decide)), if_neg (show ¬ x0 = (1 : Int32) from fun h => absurd (c_1.symm.trans h) (by decide)), if_neg (show ¬ x0 = (2 : Int32) from fun h => absurd (c_1.symm.trans h) (by decide)), if_neg (show ¬ x0 = (3 : Int32) from fun h => absurd (c_1.symm.trans h) (by decide)), if_neg (show ¬ x0 = (4 : Int32) from fun h => absurd (c_1.symm.trans h) (by decide)), if_neg (show ¬ x0 = (5 : Int32) from fun h => absurd (c_1.symm.trans h) (by decide)), if_pos c_1] <;> rfl
      subst hQ
      exact W.zret (ty := .boolean) (v := (fm_in x1 (0 : Int32) (500 : Int32))) hx hb hr (fm_in_b _ _ _) (fun t ht hW => ⟨_, rfl, e9.symm, ht⟩) (fun q h => by cases h) dX10_takes_107
    · skip
      have c_1 : x0 = 7 := c_1.trans (by decide)
      refine lv_tableIn (tgt := 108) (off := 107) hx hb dX10_takes_1 (by rw [c_1]; decide) (by rw [c_1]; decide) (by rw [c_1]; decide) (by decide) ?_
      refine lv_iload_n hx hb dX10_takes_108 rfl (lv_at hl 1 rfl) ?_
      refine lv_iconst (v := 0) hx hb dX10_takes_109 (by decide) ?_
      refine lv_ldc hx hb hown (hts (.constant RX10 100 (65535)) (List.mem_of_getElem? (i := 3) rfl)) dX10_takes_110 ?_
      refine z_Ri (va_runS (As := [.int x1, .int (0 : Int32), .int (65535 : Int32)]) (rest := []) ⟨hx, hb, hml, hown, hts⟩ (c_X10_in l D cA  x1 (0 : Int32) (65535 : Int32)) (va_cwS 3 hts gX10_takes_X10_in rfl rfl rfl (by decide +kernel) ⟨Nat.le_of_ble_eq_true rfl, Nat.le_of_ble_eq_true rfl⟩) (zqSR0 hK hN) rfl rfl hl.1 rfl (lv_room (Nat.le_of_ble_eq_true rfl)) dX10_takes_112 ⟨Nat.le_of_ble_eq_true rfl, Nat.le_of_ble_eq_true rfl⟩) ?_
      have e9 : (fm_takes x0 x1) = (fm_in x1 (0 : Int32) (65535 : Int32)) := by unfold fm_takes; simp only [if_neg (show ¬ x0 = (0 : Int32) from fun h => absurd (c_1.symm.trans h) (by decide)), if_neg (show ¬ x0 = (1 : Int32) from fun h => absurd (c_1.symm.trans h) (by decide)), if_neg (show ¬ x0 = (2 : Int32) from fun h => absurd (c_1.symm.trans h) (by decide)), if_neg (show ¬ x0 = (3 : Int32) from fun h => absurd (c_1.symm.trans h) (by decide)), if_neg (show ¬ x0 = (4 : Int32) from fun h => absurd (c_1.symm.trans h) (by decide)), if_neg (show ¬ x0 = (5 : Int32) from fun h => absurd (c_1.symm.trans h) (by decide)), if_neg (show ¬ x0 = (6 : Int32) from fun h => absurd (c_1.symm.trans h) (by decide)), if_pos c_1] <;> rfl
      subst hQ
      exact W.zret (ty := .boolean) (v := (fm_in x1 (0 : Int32) (65535 : Int32))) hx hb hr (fm_in_b _ _ _) (fun t ht hW => ⟨_, rfl, e9.symm, ht⟩) (fun q h => by cases h) dX10_takes_115
set_option maxHeartbeats 4000000 in
set_option maxRecDepth 100000 in
theorem c_X10_isDegrees (l : Launch) (D : va_G) (cA : Nat → ClassId) (x0 : Int32)  : Met l yX10_isDegrees wsX10_isDegrees ({ frames := 1, cells := 0, slots := 0, locals := 22 }) (va_Pc [.int x0] (zPreR D (zty cA) ([]))) (vp_Si (fun x => x = (fm_in x0 (-70 : Int32) (70 : Int32)))) 0 0 (fun _ => False) := by
  refine Met.ofW (cc := cX10_isDegrees) (maxL := 1) (ret := (some .boolean)) (by decide) rfl ?_
  intro p e s m args below meth c s₁ B hml hv
  obtain ⟨rfl, hP, hK, hN⟩ := hv
  have hx := B.exec
  have hb := B.bytes
  have hr := B.returns
  have hts := atoms_spec (ws := wsX10_isDegrees) B.pre
  have hown : s.vm.findClass RX10 = some m.cls := findClass_of_methodNamed B.named
  have hlocks := B.notSynchronized
  have hP : va_P D vwCl [] s.heap := hP
  have hl := lv_entry ([.int x0]) (n := 1) (Nat.le_of_ble_eq_true rfl)
  rw [lg_entry_eq]
  generalize (lg_sl ([.int x0]) ++ List.replicate (1 - (lg_sl ([.int x0])).length) Slot.unset).toArray = ls at hl ⊢
  have hl : lv_has ls 1 [(0, .int x0)] := hl
  refine z_genQ (fun Q hQ => ?_)
  refine lv_iload_n hx hb dX10_isDegrees_0 rfl (lv_at hl 0 rfl) ?_
  refine lv_bipush (v := -70) hx hb dX10_isDegrees_1 (by decide) ?_
  refine lv_bipush (v := 70) hx hb dX10_isDegrees_3 (by decide) ?_
  refine z_Ri (va_runS (As := [.int x0, .int (-70 : Int32), .int (70 : Int32)]) (rest := []) ⟨hx, hb, hml, hown, hts⟩ (c_X10_in l D cA  x0 (-70 : Int32) (70 : Int32)) (va_cwS 3 hts gX10_isDegrees_X10_in rfl rfl rfl (by decide +kernel) ⟨Nat.le_of_ble_eq_true rfl, Nat.le_of_ble_eq_true rfl⟩) (zqSR0 hK hN) rfl rfl hl.1 rfl (lv_room (Nat.le_of_ble_eq_true rfl)) dX10_isDegrees_5 ⟨Nat.le_of_ble_eq_true rfl, Nat.le_of_ble_eq_true rfl⟩) ?_
  have e9 : (fm_in x0 (-70 : Int32) (70 : Int32)) = (fm_in x0 (-70 : Int32) (70 : Int32)) := rfl
  subst hQ
  exact W.zret (ty := .boolean) (v := (fm_in x0 (-70 : Int32) (70 : Int32))) hx hb hr (fm_in_b _ _ _) (fun t ht hW => ⟨_, rfl, e9.symm, ht⟩) (fun q h => by cases h) dX10_isDegrees_8
set_option maxHeartbeats 4000000 in
set_option maxRecDepth 100000 in
theorem c_X10_isCourse (l : Launch) (D : va_G) (cA : Nat → ClassId) (x0 : Int32)  : Met l yX10_isCourse wsX10_isCourse ({ frames := 1, cells := 0, slots := 0, locals := 22 }) (va_Pc [.int x0] (zPreR D (zty cA) ([]))) (vp_Si (fun x => x = (fm_in x0 (0 : Int32) (35999 : Int32)))) 0 0 (fun _ => False) := by
  refine Met.ofW (cc := cX10_isCourse) (maxL := 1) (ret := (some .boolean)) (by decide) rfl ?_
  intro p e s m args below meth c s₁ B hml hv
  obtain ⟨rfl, hP, hK, hN⟩ := hv
  have hx := B.exec
  have hb := B.bytes
  have hr := B.returns
  have hts := atoms_spec (ws := wsX10_isCourse) B.pre
  have hown : s.vm.findClass RX10 = some m.cls := findClass_of_methodNamed B.named
  have hlocks := B.notSynchronized
  have hP : va_P D vwCl [] s.heap := hP
  have hl := lv_entry ([.int x0]) (n := 1) (Nat.le_of_ble_eq_true rfl)
  rw [lg_entry_eq]
  generalize (lg_sl ([.int x0]) ++ List.replicate (1 - (lg_sl ([.int x0])).length) Slot.unset).toArray = ls at hl ⊢
  have hl : lv_has ls 1 [(0, .int x0)] := hl
  refine z_genQ (fun Q hQ => ?_)
  refine lv_iload_n hx hb dX10_isCourse_0 rfl (lv_at hl 0 rfl) ?_
  refine lv_iconst (v := 0) hx hb dX10_isCourse_1 (by decide) ?_
  refine lv_ldc hx hb hown (hts (.constant RX10 112 (35999)) (List.mem_of_getElem? (i := 1) rfl)) dX10_isCourse_2 ?_
  refine z_Ri (va_runS (As := [.int x0, .int (0 : Int32), .int (35999 : Int32)]) (rest := []) ⟨hx, hb, hml, hown, hts⟩ (c_X10_in l D cA  x0 (0 : Int32) (35999 : Int32)) (va_cwS 3 hts gX10_isCourse_X10_in rfl rfl rfl (by decide +kernel) ⟨Nat.le_of_ble_eq_true rfl, Nat.le_of_ble_eq_true rfl⟩) (zqSR0 hK hN) rfl rfl hl.1 rfl (lv_room (Nat.le_of_ble_eq_true rfl)) dX10_isCourse_4 ⟨Nat.le_of_ble_eq_true rfl, Nat.le_of_ble_eq_true rfl⟩) ?_
  have e9 : (fm_in x0 (0 : Int32) (35999 : Int32)) = (fm_in x0 (0 : Int32) (35999 : Int32)) := rfl
  subst hQ
  exact W.zret (ty := .boolean) (v := (fm_in x0 (0 : Int32) (35999 : Int32))) hx hb hr (fm_in_b _ _ _) (fun t ht hW => ⟨_, rfl, e9.symm, ht⟩) (fun q h => by cases h) dX10_isCourse_7
set_option maxHeartbeats 4000000 in
set_option maxRecDepth 100000 in
theorem c_X10_isSpeed (l : Launch) (D : va_G) (cA : Nat → ClassId) (x0 : Int32)  : Met l yX10_isSpeed wsX10_isSpeed ({ frames := 1, cells := 0, slots := 0, locals := 22 }) (va_Pc [.int x0] (zPreR D (zty cA) ([]))) (vp_Si (fun x => x = (fm_in x0 (0 : Int32) (400 : Int32)))) 0 0 (fun _ => False) := by
  refine Met.ofW (cc := cX10_isSpeed) (maxL := 1) (ret := (some .boolean)) (by decide) rfl ?_
  intro p e s m args below meth c s₁ B hml hv
  obtain ⟨rfl, hP, hK, hN⟩ := hv
  have hx := B.exec
  have hb := B.bytes
  have hr := B.returns
  have hts := atoms_spec (ws := wsX10_isSpeed) B.pre
  have hown : s.vm.findClass RX10 = some m.cls := findClass_of_methodNamed B.named
  have hlocks := B.notSynchronized
  have hP : va_P D vwCl [] s.heap := hP
  have hl := lv_entry ([.int x0]) (n := 1) (Nat.le_of_ble_eq_true rfl)
  rw [lg_entry_eq]
  generalize (lg_sl ([.int x0]) ++ List.replicate (1 - (lg_sl ([.int x0])).length) Slot.unset).toArray = ls at hl ⊢
  have hl : lv_has ls 1 [(0, .int x0)] := hl
  refine z_genQ (fun Q hQ => ?_)
  refine lv_iload_n hx hb dX10_isSpeed_0 rfl (lv_at hl 0 rfl) ?_
  refine lv_iconst (v := 0) hx hb dX10_isSpeed_1 (by decide) ?_
  refine lv_sipush (v := 400) hx hb dX10_isSpeed_2 (by decide) ?_
  refine z_Ri (va_runS (As := [.int x0, .int (0 : Int32), .int (400 : Int32)]) (rest := []) ⟨hx, hb, hml, hown, hts⟩ (c_X10_in l D cA  x0 (0 : Int32) (400 : Int32)) (va_cwS 3 hts gX10_isSpeed_X10_in rfl rfl rfl (by decide +kernel) ⟨Nat.le_of_ble_eq_true rfl, Nat.le_of_ble_eq_true rfl⟩) (zqSR0 hK hN) rfl rfl hl.1 rfl (lv_room (Nat.le_of_ble_eq_true rfl)) dX10_isSpeed_5 ⟨Nat.le_of_ble_eq_true rfl, Nat.le_of_ble_eq_true rfl⟩) ?_
  have e9 : (fm_in x0 (0 : Int32) (400 : Int32)) = (fm_in x0 (0 : Int32) (400 : Int32)) := rfl
  subst hQ
  exact W.zret (ty := .boolean) (v := (fm_in x0 (0 : Int32) (400 : Int32))) hx hb hr (fm_in_b _ _ _) (fun t ht hW => ⟨_, rfl, e9.symm, ht⟩) (fun q h => by cases h) dX10_isSpeed_8
set_option maxHeartbeats 4000000 in
set_option maxRecDepth 100000 in
theorem c_X10_isCalm (l : Launch) (D : va_G) (cA : Nat → ClassId) (h0 h1 h2 h3 h4 h5 h6 h7 h8 h9 h10 h11 : Nat) (v : vX10) (x1 : Int32) (hR : okR v.1) : Met l yX10_isCalm wsX10_isCalm ({ frames := 6, cells := 0, slots := 0, locals := 129 }) (va_Pc [.ref h0, .int x1] (zPreR D (zty cA) (wX10 cA h0 h1 h2 h3 h4 h5 h6 h7 h8 h9 h10 h11 v))) (vp_Si (fun x => x = (fm_calm v.1 x1))) 0 0 (fun _ => False) := by
  refine Met.ofW (cc := cX10_isCalm) (maxL := 2) (ret := (some .boolean)) (by decide) rfl ?_
  intro p e s m args below meth c s₁ B hml hv
  obtain ⟨rfl, hP, hK, hN⟩ := hv
  have hx := B.exec
  have hb := B.bytes
  have hr := B.returns
  have hts := atoms_spec (ws := wsX10_isCalm) B.pre
  have hown : s.vm.findClass RX10 = some m.cls := findClass_of_methodNamed B.named
  have hlocks := B.notSynchronized
  have hinX10 : ∀ w ∈ u_ws RX10 TX10 16, w ∈ wsX10_isCalm := fun w h => List.mem_cons_of_mem _ (List.mem_append_right _ h)
  have hP : va_P D vwCl [(h0, .inr (10, [.ref h1, .ref h2, .ref h3, .ref h4, .ref h5, .ref h6, .int v.2.2.2.2.2.2.1, .ref h7, .ref h8, .ref h9, .ref h10, .int v.2.2.2.2.2.2.2.2.2.2.2.1, .int v.2.2.2.2.2.2.2.2.2.2.2.2.1, .int v.2.2.2.2.2.2.2.2.2.2.2.2.2.1, .ref h11, .int v.2.2.2.2.2.2.2.2.2.2.2.2.2.2.2])), (h1, .inl ((cA 1), 85, .inl v.1)), (h2, .inl ((cA 0), 9, .inr (.inl v.2.1))), (h3, .inl ((cA 1), 85, .inl v.2.2.1)), (h4, .inl ((cA 0), 9, .inr (.inl v.2.2.2.1))), (h5, .inl ((cA 1), 510, .inl v.2.2.2.2.1)), (h6, .inl ((cA 0), 54, .inr (.inl v.2.2.2.2.2.1))), (h7, .inl ((cA 1), 170, .inl v.2.2.2.2.2.2.2.1)), (h8, .inl ((cA 0), 18, .inr (.inl v.2.2.2.2.2.2.2.2.1))), (h9, .inl ((cA 2), 2, .inl v.2.2.2.2.2.2.2.2.2.1)), (h10, .inl ((cA 1), 80, .inl v.2.2.2.2.2.2.2.2.2.2.1)), (h11, .inl ((cA 1), 60, .inl v.2.2.2.2.2.2.2.2.2.2.2.2.2.2.1))] s.heap := hP
  have hl := lv_entry ([.ref h0, .int x1]) (n := 2) (Nat.le_of_ble_eq_true rfl)
  rw [lg_entry_eq]
  generalize (lg_sl ([.ref h0, .int x1]) ++ List.replicate (2 - (lg_sl ([.ref h0, .int x1])).length) Slot.unset).toArray = ls at hl ⊢
  have hl : lv_has ls 2 [(0, .ref h0), (1, .int x1)] := hl
  refine z_genQ (fun Q hQ => ?_)
  refine lv_aload_n hx hb dX10_isCalm_0 rfl (lv_at hl 0 rfl) ?_
  refine va_get (D := D) (ci := 10) (v := .ref h1) (C := RX10) (T := TX10) (N := 16) hx hb hts hinX10 hown hK hP 0 rfl rfl 0 (by decide) (hts (.fieldLink RX10 7 "GyroTrainerModel" "at" "[I") (List.mem_of_getElem? (i := 1) rfl)) (fun _ h9 => h9) rfl dX10_isCalm_1 ?_
  refine lv_iconst (v := 4) hx hb dX10_isCalm_4 (by decide) ?_
  refine z_iald (k := 4) hx hb hK hP 1 1 rfl rfl rfl (by decide) (by decide) dX10_isCalm_5 ?_
  refine lv_aload_n hx hb dX10_isCalm_6 rfl (lv_at hl 0 rfl) ?_
  refine z_Ri (va_runV (As := []) (rest := [.int (v.1 4)]) ⟨hx, hb, hml, hown, hts⟩ (c_X10_rest l D cA h0 h1 h2 h3 h4 h5 h6 h7 h8 h9 h10 h11 v hR) (cwV 0 hts gX10_isCalm_X10_rest rfl rfl rfl (by decide +kernel) ⟨Nat.le_of_ble_eq_true rfl, Nat.le_of_ble_eq_true rfl⟩) (zqVR hK hP hN (z_c1 (a := []) (b := []) rfl) 0 rfl rfl) rfl rfl hl.1 rfl (lv_room (Nat.le_of_ble_eq_true rfl)) dX10_isCalm_7 ⟨Nat.le_of_ble_eq_true rfl, Nat.le_of_ble_eq_true rfl⟩) ?_
  refine lv_isub hx hb dX10_isCalm_10 ?_
  refine z_Ri (va_runS (As := [.int ((v.1 4) - (fm_rest v.1))]) (rest := []) ⟨hx, hb, hml, hown, hts⟩ (c_X10_sizeOf l D cA  ((v.1 4) - (fm_rest v.1))) (va_cwS 1 hts gX10_isCalm_X10_sizeOf rfl rfl rfl (by decide +kernel) ⟨Nat.le_of_ble_eq_true rfl, Nat.le_of_ble_eq_true rfl⟩) (zqSR0 hK hN) rfl rfl hl.1 rfl (lv_room (Nat.le_of_ble_eq_true rfl)) dX10_isCalm_11 ⟨Nat.le_of_ble_eq_true rfl, Nat.le_of_ble_eq_true rfl⟩) ?_
  refine lv_iload_n hx hb dX10_isCalm_14 rfl (lv_at hl 1 rfl) ?_
  refine lv_icmp_gt (tgt := 35) hx hb dX10_isCalm_15 (by decide) (fun c_1 => ?_) (fun c_1 => ?_)
  · skip
    refine lv_iconst (v := 0) hx hb dX10_isCalm_35 (by decide) ?_
    have e9 : (fm_calm v.1 x1) = (0 : Int32) := by unfold fm_calm; simp only [if_pos c_1] <;> rfl
    subst hQ
    exact W.zret (ty := .boolean) (v := (0 : Int32)) hx hb hr rfl (fun t ht hW => ⟨_, rfl, e9.symm, ht⟩) (fun q h => by cases h) dX10_isCalm_36
  · skip
    refine lv_aload_n hx hb dX10_isCalm_18 rfl (lv_at hl 0 rfl) ?_
    refine va_get (D := D) (ci := 10) (v := .ref h1) (C := RX10) (T := TX10) (N := 16) hx hb hts hinX10 hown hK hP 0 rfl rfl 0 (by decide) (hts (.fieldLink RX10 7 "GyroTrainerModel" "at" "[I") (List.mem_of_getElem? (i := 1) rfl)) (fun _ h9 => h9) rfl dX10_isCalm_19 ?_
    refine lv_iconst (v := 5) hx hb dX10_isCalm_22 (by decide) ?_
    refine z_iald (k := 5) hx hb hK hP 1 1 rfl rfl rfl (by decide) (by decide) dX10_isCalm_23 ?_
    refine z_Ri (va_runS (As := [.int (v.1 5)]) (rest := []) ⟨hx, hb, hml, hown, hts⟩ (c_X10_sizeOf l D cA  (v.1 5)) (va_cwS 1 hts gX10_isCalm_X10_sizeOf rfl rfl rfl (by decide +kernel) ⟨Nat.le_of_ble_eq_true rfl, Nat.le_of_ble_eq_true rfl⟩) (zqSR0 hK hN) rfl rfl hl.1 rfl (lv_room (Nat.le_of_ble_eq_true rfl)) dX10_isCalm_24 ⟨Nat.le_of_ble_eq_true rfl, Nat.le_of_ble_eq_true rfl⟩) ?_
    refine lv_iload_n hx hb dX10_isCalm_27 rfl (lv_at hl 1 rfl) ?_
    refine lv_icmp_gt (tgt := 35) hx hb dX10_isCalm_28 (by decide) (fun c_2 => ?_) (fun c_2 => ?_)
    · skip
      refine lv_iconst (v := 0) hx hb dX10_isCalm_35 (by decide) ?_
      have e9 : (fm_calm v.1 x1) = (0 : Int32) := by unfold fm_calm; simp only [if_neg c_1, if_pos c_2] <;> rfl
      subst hQ
      exact W.zret (ty := .boolean) (v := (0 : Int32)) hx hb hr rfl (fun t ht hW => ⟨_, rfl, e9.symm, ht⟩) (fun q h => by cases h) dX10_isCalm_36
    · skip
      refine lv_iconst (v := 1) hx hb dX10_isCalm_31 (by decide) ?_
      refine lv_goto (tgt := 36) hx hb dX10_isCalm_32 (by decide) ?_
      have e9 : (fm_calm v.1 x1) = (1 : Int32) := by unfold fm_calm; simp only [if_neg c_1, if_neg c_2] <;> rfl
      subst hQ
      exact W.zret (ty := .boolean) (v := (1 : Int32)) hx hb hr rfl (fun t ht hW => ⟨_, rfl, e9.symm, ht⟩) (fun q h => by cases h) dX10_isCalm_36
set_option maxHeartbeats 4000000 in
set_option maxRecDepth 100000 in
theorem c_X10_settled (l : Launch) (D : va_G) (cA : Nat → ClassId) (h0 h1 h2 h3 h4 h5 h6 h7 h8 h9 h10 h11 : Nat) (v : vX10)  : Met l yX10_settled wsX10_settled ({ frames := 1, cells := 0, slots := 0, locals := 21 }) (va_Pc [.ref h0] (zPreR D (zty cA) (wX10 cA h0 h1 h2 h3 h4 h5 h6 h7 h8 h9 h10 h11 v))) (vp_Si (fun x => x = (fm_settled v.1))) 0 0 (fun _ => False) := by
  refine Met.ofW (cc := cX10_settled) (maxL := 1) (ret := (some .int)) (by decide) rfl ?_
  intro p e s m args below meth c s₁ B hml hv
  obtain ⟨rfl, hP, hK, hN⟩ := hv
  have hx := B.exec
  have hb := B.bytes
  have hr := B.returns
  have hts := atoms_spec (ws := wsX10_settled) B.pre
  have hown : s.vm.findClass RX10 = some m.cls := findClass_of_methodNamed B.named
  have hlocks := B.notSynchronized
  have hinX10 : ∀ w ∈ u_ws RX10 TX10 16, w ∈ wsX10_settled := fun w h => List.mem_cons_of_mem _ (List.mem_append_right _ h)
  have hP : va_P D vwCl [(h0, .inr (10, [.ref h1, .ref h2, .ref h3, .ref h4, .ref h5, .ref h6, .int v.2.2.2.2.2.2.1, .ref h7, .ref h8, .ref h9, .ref h10, .int v.2.2.2.2.2.2.2.2.2.2.2.1, .int v.2.2.2.2.2.2.2.2.2.2.2.2.1, .int v.2.2.2.2.2.2.2.2.2.2.2.2.2.1, .ref h11, .int v.2.2.2.2.2.2.2.2.2.2.2.2.2.2.2])), (h1, .inl ((cA 1), 85, .inl v.1)), (h2, .inl ((cA 0), 9, .inr (.inl v.2.1))), (h3, .inl ((cA 1), 85, .inl v.2.2.1)), (h4, .inl ((cA 0), 9, .inr (.inl v.2.2.2.1))), (h5, .inl ((cA 1), 510, .inl v.2.2.2.2.1)), (h6, .inl ((cA 0), 54, .inr (.inl v.2.2.2.2.2.1))), (h7, .inl ((cA 1), 170, .inl v.2.2.2.2.2.2.2.1)), (h8, .inl ((cA 0), 18, .inr (.inl v.2.2.2.2.2.2.2.2.1))), (h9, .inl ((cA 2), 2, .inl v.2.2.2.2.2.2.2.2.2.1)), (h10, .inl ((cA 1), 80, .inl v.2.2.2.2.2.2.2.2.2.2.1)), (h11, .inl ((cA 1), 60, .inl v.2.2.2.2.2.2.2.2.2.2.2.2.2.2.1))] s.heap := hP
  have hl := lv_entry ([.ref h0]) (n := 1) (Nat.le_of_ble_eq_true rfl)
  rw [lg_entry_eq]
  generalize (lg_sl ([.ref h0]) ++ List.replicate (1 - (lg_sl ([.ref h0])).length) Slot.unset).toArray = ls at hl ⊢
  have hl : lv_has ls 1 [(0, .ref h0)] := hl
  refine z_genQ (fun Q hQ => ?_)
  refine lv_aload_n hx hb dX10_settled_0 rfl (lv_at hl 0 rfl) ?_
  refine lv_iconst (v := 2) hx hb dX10_settled_1 (by decide) ?_
  refine z_Ri (va_runV (As := [.int (2 : Int32)]) (rest := []) ⟨hx, hb, hml, hown, hts⟩ (c_X10_turnError l D cA h0 h1 h2 h3 h4 h5 h6 h7 h8 h9 h10 h11 2 v (by decide)) (cwV 1 hts gX10_settled_X10_turnError rfl rfl rfl (by decide +kernel) ⟨Nat.le_of_ble_eq_true rfl, Nat.le_of_ble_eq_true rfl⟩) (zqVR hK hP hN (z_c1 (a := []) (b := []) rfl) 0 rfl rfl) rfl rfl hl.1 rfl (lv_room (Nat.le_of_ble_eq_true rfl)) dX10_settled_2 ⟨Nat.le_of_ble_eq_true rfl, Nat.le_of_ble_eq_true rfl⟩) ?_
  refine lv_iconst (v := 2) hx hb dX10_settled_5 (by decide) ?_
  refine lv_aload_n hx hb dX10_settled_6 rfl (lv_at hl 0 rfl) ?_
  refine lv_iconst (v := 1) hx hb dX10_settled_7 (by decide) ?_
  refine z_Ri (va_runV (As := [.int (1 : Int32)]) (rest := [.int (2 : Int32), .int (v.1 (58 + 2 * 2))]) ⟨hx, hb, hml, hown, hts⟩ (c_X10_turnError l D cA h0 h1 h2 h3 h4 h5 h6 h7 h8 h9 h10 h11 1 v (by decide)) (cwV 1 hts gX10_settled_X10_turnError rfl rfl rfl (by decide +kernel) ⟨Nat.le_of_ble_eq_true rfl, Nat.le_of_ble_eq_true rfl⟩) (zqVR hK hP hN (z_c1 (a := []) (b := []) rfl) 0 rfl rfl) rfl rfl hl.1 rfl (lv_room (Nat.le_of_ble_eq_true rfl)) dX10_settled_8 ⟨Nat.le_of_ble_eq_true rfl, Nat.le_of_ble_eq_true rfl⟩) ?_
  refine lv_imul hx hb dX10_settled_11 ?_
  refine lv_iadd hx hb dX10_settled_12 ?_
  refine lv_aload_n hx hb dX10_settled_13 rfl (lv_at hl 0 rfl) ?_
  refine lv_iconst (v := 0) hx hb dX10_settled_14 (by decide) ?_
  refine z_Ri (va_runV (As := [.int (0 : Int32)]) (rest := [.int ((v.1 (58 + 2 * 2)) + ((2 : Int32) * (v.1 (58 + 2 * 1))))]) ⟨hx, hb, hml, hown, hts⟩ (c_X10_turnError l D cA h0 h1 h2 h3 h4 h5 h6 h7 h8 h9 h10 h11 0 v (by decide)) (cwV 1 hts gX10_settled_X10_turnError rfl rfl rfl (by decide +kernel) ⟨Nat.le_of_ble_eq_true rfl, Nat.le_of_ble_eq_true rfl⟩) (zqVR hK hP hN (z_c1 (a := []) (b := []) rfl) 0 rfl rfl) rfl rfl hl.1 rfl (lv_room (Nat.le_of_ble_eq_true rfl)) dX10_settled_15 ⟨Nat.le_of_ble_eq_true rfl, Nat.le_of_ble_eq_true rfl⟩) ?_
  refine lv_iadd hx hb dX10_settled_18 ?_
  refine lv_iconst (v := 4) hx hb dX10_settled_19 (by decide) ?_
  refine lv_idiv hx hb dX10_settled_20 (by decide) ?_
  have e9 : (fm_settled v.1) = ((((v.1 (58 + 2 * 2)) + ((2 : Int32) * (v.1 (58 + 2 * 1)))) + (v.1 (58 + 2 * 0))) / (4 : Int32)) := by rfl
  subst hQ
  exact W.iret (v := ((((v.1 (58 + 2 * 2)) + ((2 : Int32) * (v.1 (58 + 2 * 1)))) + (v.1 (58 + 2 * 0))) / (4 : Int32))) hx hb hr (fun t ht hW => ⟨_, rfl, e9.symm, ht⟩) (fun q h => by cases h) dX10_settled_21
set_option maxHeartbeats 4000000 in
set_option maxRecDepth 100000 in
theorem c_X10_settledByMean (l : Launch) (D : va_G) (cA : Nat → ClassId) (h0 h1 h2 h3 h4 h5 h6 h7 h8 h9 h10 h11 : Nat) (v : vX10) (hT : ¬ (v.1 59 - v.1 63).toInt64 = 0) : Met l yX10_settledByMean wsX10_settledByMean ({ frames := 0, cells := 0, slots := 0, locals := 0 }) (va_Pc [.ref h0] (zPreR D (zty cA) (wX10 cA h0 h1 h2 h3 h4 h5 h6 h7 h8 h9 h10 h11 v))) (vp_Si (fun x => x = (fm_mean v.1 v.2.1))) 0 0 (fun _ => False) := by
  refine Met.ofW (cc := cX10_settledByMean) (maxL := 1) (ret := (some .int)) (by decide) rfl ?_
  intro p e s m args below meth c s₁ B hml hv
  obtain ⟨rfl, hP, hK, hN⟩ := hv
  have hx := B.exec
  have hb := B.bytes
  have hr := B.returns
  have hts := atoms_spec (ws := wsX10_settledByMean) B.pre
  have hown : s.vm.findClass RX10 = some m.cls := findClass_of_methodNamed B.named
  have hlocks := B.notSynchronized
  have hinX10 : ∀ w ∈ u_ws RX10 TX10 16, w ∈ wsX10_settledByMean := fun w h => List.mem_cons_of_mem _ (List.mem_append_right _ h)
  have hP : va_P D vwCl [(h0, .inr (10, [.ref h1, .ref h2, .ref h3, .ref h4, .ref h5, .ref h6, .int v.2.2.2.2.2.2.1, .ref h7, .ref h8, .ref h9, .ref h10, .int v.2.2.2.2.2.2.2.2.2.2.2.1, .int v.2.2.2.2.2.2.2.2.2.2.2.2.1, .int v.2.2.2.2.2.2.2.2.2.2.2.2.2.1, .ref h11, .int v.2.2.2.2.2.2.2.2.2.2.2.2.2.2.2])), (h1, .inl ((cA 1), 85, .inl v.1)), (h2, .inl ((cA 0), 9, .inr (.inl v.2.1))), (h3, .inl ((cA 1), 85, .inl v.2.2.1)), (h4, .inl ((cA 0), 9, .inr (.inl v.2.2.2.1))), (h5, .inl ((cA 1), 510, .inl v.2.2.2.2.1)), (h6, .inl ((cA 0), 54, .inr (.inl v.2.2.2.2.2.1))), (h7, .inl ((cA 1), 170, .inl v.2.2.2.2.2.2.2.1)), (h8, .inl ((cA 0), 18, .inr (.inl v.2.2.2.2.2.2.2.2.1))), (h9, .inl ((cA 2), 2, .inl v.2.2.2.2.2.2.2.2.2.1)), (h10, .inl ((cA 1), 80, .inl v.2.2.2.2.2.2.2.2.2.2.1)), (h11, .inl ((cA 1), 60, .inl v.2.2.2.2.2.2.2.2.2.2.2.2.2.2.1))] s.heap := hP
  have hl := lv_entry ([.ref h0]) (n := 1) (Nat.le_of_ble_eq_true rfl)
  rw [lg_entry_eq]
  generalize (lg_sl ([.ref h0]) ++ List.replicate (1 - (lg_sl ([.ref h0])).length) Slot.unset).toArray = ls at hl ⊢
  have hl : lv_has ls 1 [(0, .ref h0)] := hl
  refine z_genQ (fun Q hQ => ?_)
  refine lv_aload_n hx hb dX10_settledByMean_0 rfl (lv_at hl 0 rfl) ?_
  refine va_get (D := D) (ci := 10) (v := .ref h2) (C := RX10) (T := TX10) (N := 16) hx hb hts hinX10 hown hK hP 0 rfl rfl 1 (by decide) (hts (.fieldLink RX10 13 "GyroTrainerModel" "sums" "[J") (List.mem_of_getElem? (i := 1) rfl)) (fun _ h9 => h9) rfl dX10_settledByMean_1 ?_
  refine lv_iconst (v := 1) hx hb dX10_settledByMean_4 (by decide) ?_
  refine z_lald (k := 1) hx hb hK hP 2 0 rfl rfl rfl (by decide) (by decide) dX10_settledByMean_5 ?_
  refine lv_aload_n hx hb dX10_settledByMean_6 rfl (lv_at hl 0 rfl) ?_
  refine va_get (D := D) (ci := 10) (v := .ref h2) (C := RX10) (T := TX10) (N := 16) hx hb hts hinX10 hown hK hP 0 rfl rfl 1 (by decide) (hts (.fieldLink RX10 13 "GyroTrainerModel" "sums" "[J") (List.mem_of_getElem? (i := 1) rfl)) (fun _ h9 => h9) rfl dX10_settledByMean_7 ?_
  refine lv_iconst (v := 3) hx hb dX10_settledByMean_10 (by decide) ?_
  refine z_lald (k := 3) hx hb hK hP 2 0 rfl rfl rfl (by decide) (by decide) dX10_settledByMean_11 ?_
  refine lv_lsub hx hb dX10_settledByMean_12 ?_
  refine lv_aload_n hx hb dX10_settledByMean_13 rfl (lv_at hl 0 rfl) ?_
  refine va_get (D := D) (ci := 10) (v := .ref h1) (C := RX10) (T := TX10) (N := 16) hx hb hts hinX10 hown hK hP 0 rfl rfl 0 (by decide) (hts (.fieldLink RX10 7 "GyroTrainerModel" "at" "[I") (List.mem_of_getElem? (i := 2) rfl)) (fun _ h9 => h9) rfl dX10_settledByMean_14 ?_
  refine lv_bipush (v := 59) hx hb dX10_settledByMean_17 (by decide) ?_
  refine z_iald (k := 59) hx hb hK hP 1 1 rfl rfl rfl (by decide) (by decide) dX10_settledByMean_19 ?_
  refine lv_aload_n hx hb dX10_settledByMean_20 rfl (lv_at hl 0 rfl) ?_
  refine va_get (D := D) (ci := 10) (v := .ref h1) (C := RX10) (T := TX10) (N := 16) hx hb hts hinX10 hown hK hP 0 rfl rfl 0 (by decide) (hts (.fieldLink RX10 7 "GyroTrainerModel" "at" "[I") (List.mem_of_getElem? (i := 2) rfl)) (fun _ h9 => h9) rfl dX10_settledByMean_21 ?_
  refine lv_bipush (v := 63) hx hb dX10_settledByMean_24 (by decide) ?_
  refine z_iald (k := 63) hx hb hK hP 1 1 rfl rfl rfl (by decide) (by decide) dX10_settledByMean_26 ?_
  refine lv_isub hx hb dX10_settledByMean_27 ?_
  refine lv_i2l hx hb dX10_settledByMean_28 rfl ?_
  refine lv_ldiv hx hb dX10_settledByMean_29 hT ?_
  refine lv_l2i hx hb dX10_settledByMean_30 rfl ?_
  have e9 : (fm_mean v.1 v.2.1) = ((((v.2.1 1) - (v.2.1 3)) / (((v.1 59) - (v.1 63)).toInt64)).toInt32) := by rfl
  subst hQ
  exact W.iret (v := ((((v.2.1 1) - (v.2.1 3)) / (((v.1 59) - (v.1 63)).toInt64)).toInt32)) hx hb hr (fun t ht hW => ⟨_, rfl, e9.symm, ht⟩) (fun q h => by cases h) dX10_settledByMean_31
set_option maxHeartbeats 4000000 in
set_option maxRecDepth 100000 in
theorem c_X10_checksSum (l : Launch) (D : va_G) (cA : Nat → ClassId) (h0 h1 h2 h3 h4 h5 h6 h7 h8 h9 h10 h11 : Nat) (v : vX10) (q : Nat) (hq : q ≤ 5) : Met l yX10_checksSum wsX10_checksSum ({ frames := 0, cells := 0, slots := 0, locals := 0 }) (va_Pc [.ref h0, .int (nI q)] (zPreR D (zty cA) (wX10 cA h0 h1 h2 h3 h4 h5 h6 h7 h8 h9 h10 h11 v))) (vp_Si (fun x => x = (fm_csum v.1 q))) 0 0 (fun _ => False) := by
  refine Met.ofW (cc := cX10_checksSum) (maxL := 4) (ret := (some .int)) (by decide) rfl ?_
  intro p e s m args below meth c s₁ B hml hv
  obtain ⟨rfl, hP, hK, hN⟩ := hv
  have hx := B.exec
  have hb := B.bytes
  have hr := B.returns
  have hts := atoms_spec (ws := wsX10_checksSum) B.pre
  have hown : s.vm.findClass RX10 = some m.cls := findClass_of_methodNamed B.named
  have hlocks := B.notSynchronized
  have hinX10 : ∀ w ∈ u_ws RX10 TX10 16, w ∈ wsX10_checksSum := fun w h => List.mem_cons_of_mem _ (List.mem_append_right _ h)
  have hP : va_P D vwCl [(h0, .inr (10, [.ref h1, .ref h2, .ref h3, .ref h4, .ref h5, .ref h6, .int v.2.2.2.2.2.2.1, .ref h7, .ref h8, .ref h9, .ref h10, .int v.2.2.2.2.2.2.2.2.2.2.2.1, .int v.2.2.2.2.2.2.2.2.2.2.2.2.1, .int v.2.2.2.2.2.2.2.2.2.2.2.2.2.1, .ref h11, .int v.2.2.2.2.2.2.2.2.2.2.2.2.2.2.2])), (h1, .inl ((cA 1), 85, .inl v.1)), (h2, .inl ((cA 0), 9, .inr (.inl v.2.1))), (h3, .inl ((cA 1), 85, .inl v.2.2.1)), (h4, .inl ((cA 0), 9, .inr (.inl v.2.2.2.1))), (h5, .inl ((cA 1), 510, .inl v.2.2.2.2.1)), (h6, .inl ((cA 0), 54, .inr (.inl v.2.2.2.2.2.1))), (h7, .inl ((cA 1), 170, .inl v.2.2.2.2.2.2.2.1)), (h8, .inl ((cA 0), 18, .inr (.inl v.2.2.2.2.2.2.2.2.1))), (h9, .inl ((cA 2), 2, .inl v.2.2.2.2.2.2.2.2.2.1)), (h10, .inl ((cA 1), 80, .inl v.2.2.2.2.2.2.2.2.2.2.1)), (h11, .inl ((cA 1), 60, .inl v.2.2.2.2.2.2.2.2.2.2.2.2.2.2.1))] s.heap := hP
  have hl := lv_entry ([.ref h0, .int (nI q)]) (n := 4) (Nat.le_of_ble_eq_true rfl)
  rw [lg_entry_eq]
  generalize (lg_sl ([.ref h0, .int (nI q)]) ++ List.replicate (4 - (lg_sl ([.ref h0, .int (nI q)])).length) Slot.unset).toArray = ls at hl ⊢
  have hl : lv_has ls 4 [(0, .ref h0), (1, .int (nI q))] := hl
  refine z_genQ (fun Q hQ => ?_)
  refine lv_iconst (v := 0) hx hb dX10_checksSum_0 (by decide) ?_
  refine lv_istore_n (lv' := [(2, .int (0 : Int32)), (0, .ref h0), (1, .int (nI q))]) hx hb dX10_checksSum_1 rfl hl (by decide) rfl (fun ls hl => ?_)
  refine lv_iconst (v := 0) hx hb dX10_checksSum_2 (by decide) ?_
  refine lv_istore_n (lv' := [(3, .int (0 : Int32)), (2, .int (0 : Int32)), (0, .ref h0), (1, .int (nI q))]) hx hb dX10_checksSum_3 rfl hl (by decide) rfl (fun ls hl => ?_)
  have L4 : ∀ (zn : Nat) (k : Nat), q - k < zn → (k ≤ q) → ∀ (ls : Array Slot), lv_has ls 4 [(3, .int (nI k)), (2, .int (fm_csum v.1 k)), (0, .ref h0), (1, .int (nI q))] → W p l e (headSpec wsX10_checksSum ({ frames := 0, cells := 0, slots := 0, locals := 0 })).room s m (([.ref h0, .int (nI q)] : List Value).toArray) below meth c s.heap [] 0 0 Q (F0 m 4 ls []) := by
    intro zn
    induction zn with
    | zero =>
      intro k hm
      exact absurd hm (Nat.not_lt_zero _)
    | succ zn ih =>
      intro k hm hk ls hl
      refine lv_iload_n hx hb dX10_checksSum_4 rfl (lv_at hl 0 rfl) ?_
      refine lv_iload_n hx hb dX10_checksSum_5 rfl (lv_at hl 3 rfl) ?_
      refine lv_icmp_ge (tgt := 27) hx hb dX10_checksSum_6 (by decide) (fun c_1 => ?_) (fun c_1 => ?_)
      · skip
        have ekq : k = q := Nat.le_antisymm hk ((nI_leI (by omega) (by omega)).mp c_1)
        refine lv_iload_n hx hb dX10_checksSum_27 rfl (lv_at hl 1 rfl) ?_
        have e9 : (fm_csum v.1 q) = (fm_csum v.1 k) := by rw [ekq]
        subst hQ
        exact W.iret (v := (fm_csum v.1 k)) hx hb hr (fun t ht hW => ⟨_, rfl, e9.symm, ht⟩) (fun q h => by cases h) dX10_checksSum_28
      · skip
        have hkq : k < q := Nat.lt_of_not_le (fun h => c_1 (nI_le h (by omega)))
        refine lv_iload_n hx hb dX10_checksSum_9 rfl (lv_at hl 1 rfl) ?_
        refine lv_aload_n hx hb dX10_checksSum_10 rfl (lv_at hl 2 rfl) ?_
        refine va_get (D := D) (ci := 10) (v := .ref h1) (C := RX10) (T := TX10) (N := 16) hx hb hts hinX10 hown hK hP 0 rfl rfl 0 (by decide) (hts (.fieldLink RX10 7 "GyroTrainerModel" "at" "[I") (List.mem_of_getElem? (i := 1) rfl)) (fun _ h9 => h9) rfl dX10_checksSum_11 ?_
        refine lv_bipush (v := 74) hx hb dX10_checksSum_14 (by decide) ?_
        refine lv_iload_n hx hb dX10_checksSum_16 rfl (lv_at hl 0 rfl) ?_
        refine lv_iadd hx hb dX10_checksSum_17 ?_
        refine z_iald (k := (74 + k)) hx hb hK hP 1 1 rfl rfl (nI_add 74 k) (by omega) (by decide) dX10_checksSum_18 ?_
        refine lv_iadd hx hb dX10_checksSum_19 ?_
        refine lv_istore_n (lv' := [(2, .int ((fm_csum v.1 k) + (v.1 ((74 + k))))), (3, .int (nI k)), (0, .ref h0), (1, .int (nI q))]) hx hb dX10_checksSum_20 rfl hl (by decide) rfl (fun ls hl => ?_)
        refine lv_iinc (v := (nI (k + 1))) (lv' := [(3, .int (nI (k + 1))), (2, .int ((fm_csum v.1 k) + (v.1 ((74 + k))))), (0, .ref h0), (1, .int (nI q))]) hx hb dX10_checksSum_21 hl (k := 1) rfl (nI_1 k) (by decide) rfl (fun ls hl => ?_)
        refine lv_goto (tgt := 4) hx hb dX10_checksSum_24 (by decide) ?_
        exact ih (k + 1) (by omega) (by omega) ls (lv_sub hl [0, 1, 2, 3] rfl)
  exact L4 (q + 1) (0) (by omega) (Nat.zero_le _) ls (lv_sub hl [0, 1, 2, 3] rfl)
set_option maxHeartbeats 4000000 in
set_option maxRecDepth 100000 in
theorem c_X10_compass (l : Launch) (D : va_G) (cA : Nat → ClassId) (h0 h1 h2 h3 h4 h5 h6 h7 h8 h9 h10 h11 : Nat) (k0 : Nat) (v : vX10) (x1 : Int32) (hR : okR v.1) (hT : okT v.1) (hk : v.1 15 = nI k0) (hk5 : k0 ≤ 5) : Met l yX10_compass wsX10_compass ({ frames := 6, cells := 0, slots := 0, locals := 129 }) (va_Pc [.ref h0, .int x1] (zPreR D (zty cA) (wX10 cA h0 h1 h2 h3 h4 h5 h6 h7 h8 h9 h10 h11 v))) (vp_Si (fun x => x = (fm_compass k0 v.1 v.2.1 x1))) 0 0 (fun _ => False) := by
  refine Met.ofW (cc := cX10_compass) (maxL := 2) (ret := (some .int)) (by decide) rfl ?_
  intro p e s m args below meth c s₁ B hml hv
  obtain ⟨rfl, hP, hK, hN⟩ := hv
  have hx := B.exec
  have hb := B.bytes
  have hr := B.returns
  have hts := atoms_spec (ws := wsX10_compass) B.pre
  have hown : s.vm.findClass RX10 = some m.cls := findClass_of_methodNamed B.named
  have hlocks := B.notSynchronized
  have hinX10 : ∀ w ∈ u_ws RX10 TX10 16, w ∈ wsX10_compass := fun w h => List.mem_cons_of_mem _ (List.mem_append_right _ h)
  have hP : va_P D vwCl [(h0, .inr (10, [.ref h1, .ref h2, .ref h3, .ref h4, .ref h5, .ref h6, .int v.2.2.2.2.2.2.1, .ref h7, .ref h8, .ref h9, .ref h10, .int v.2.2.2.2.2.2.2.2.2.2.2.1, .int v.2.2.2.2.2.2.2.2.2.2.2.2.1, .int v.2.2.2.2.2.2.2.2.2.2.2.2.2.1, .ref h11, .int v.2.2.2.2.2.2.2.2.2.2.2.2.2.2.2])), (h1, .inl ((cA 1), 85, .inl v.1)), (h2, .inl ((cA 0), 9, .inr (.inl v.2.1))), (h3, .inl ((cA 1), 85, .inl v.2.2.1)), (h4, .inl ((cA 0), 9, .inr (.inl v.2.2.2.1))), (h5, .inl ((cA 1), 510, .inl v.2.2.2.2.1)), (h6, .inl ((cA 0), 54, .inr (.inl v.2.2.2.2.2.1))), (h7, .inl ((cA 1), 170, .inl v.2.2.2.2.2.2.2.1)), (h8, .inl ((cA 0), 18, .inr (.inl v.2.2.2.2.2.2.2.2.1))), (h9, .inl ((cA 2), 2, .inl v.2.2.2.2.2.2.2.2.2.1)), (h10, .inl ((cA 1), 80, .inl v.2.2.2.2.2.2.2.2.2.2.1)), (h11, .inl ((cA 1), 60, .inl v.2.2.2.2.2.2.2.2.2.2.2.2.2.2.1))] s.heap := hP
  have hl := lv_entry ([.ref h0, .int x1]) (n := 2) (Nat.le_of_ble_eq_true rfl)
  rw [lg_entry_eq]
  generalize (lg_sl ([.ref h0, .int x1]) ++ List.replicate (2 - (lg_sl ([.ref h0, .int x1])).length) Slot.unset).toArray = ls at hl ⊢
  have hl : lv_has ls 2 [(0, .ref h0), (1, .int x1)] := hl
  refine z_genQ (fun Q hQ => ?_)
  refine lv_iload_n hx hb dX10_compass_0 rfl (lv_at hl 1 rfl) ?_
  rcases z_sw x1 0 10 with c_1 | ⟨j, hj, c_1⟩
  · skip
    refine lv_tableOut (tgt := 192) hx hb dX10_compass_1 c_1 (by decide) ?_
    refine lv_ldc hx hb hown (hts (.constant RX10 111 (-1000000002)) (List.mem_of_getElem? (i := 3) rfl)) dX10_compass_192 ?_
    have e9 : (fm_compass k0 v.1 v.2.1 x1) = (-1000000002 : Int32) := by unfold fm_compass; simp only [if_neg (z_out c_1 (0 : Int32) (by decide)), if_neg (z_out c_1 (1 : Int32) (by decide)), if_neg (z_out c_1 (2 : Int32) (by decide)), if_neg (z_out c_1 (3 : Int32) (by decide)), if_neg (z_out c_1 (4 : Int32) (by decide)), if_neg (z_out c_1 (5 : Int32) (by decide)), if_neg (z_out c_1 (6 : Int32) (by decide)), if_neg (z_out c_1 (7 : Int32) (by decide)), if_neg (z_out c_1 (8 : Int32) (by decide)), if_neg (z_out c_1 (9 : Int32) (by decide)), if_neg (z_out c_1 (10 : Int32) (by decide))] <;> rfl
    subst hQ
    exact W.iret (v := (-1000000002 : Int32)) hx hb hr (fun t ht hW => ⟨_, rfl, e9.symm, ht⟩) (fun q h => by cases h) dX10_compass_194
  · skip
    have hj2 : j = 0 ∨ j = 1 ∨ j = 2 ∨ j = 3 ∨ j = 4 ∨ j = 5 ∨ j = 6 ∨ j = 7 ∨ j = 8 ∨ j = 9 ∨ j = 10 := by omega
    rcases hj2 with rfl | rfl | rfl | rfl | rfl | rfl | rfl | rfl | rfl | rfl | rfl
    · skip
      have c_1 : x1 = 0 := c_1.trans (by decide)
      refine lv_tableIn (tgt := 60) (off := 59) hx hb dX10_compass_1 (by rw [c_1]; decide) (by rw [c_1]; decide) (by rw [c_1]; decide) (by decide) ?_
      refine lv_aload_n hx hb dX10_compass_60 rfl (lv_at hl 0 rfl) ?_
      refine va_get (D := D) (ci := 10) (v := .ref h1) (C := RX10) (T := TX10) (N := 16) hx hb hts hinX10 hown hK hP 0 rfl rfl 0 (by decide) (hts (.fieldLink RX10 7 "GyroTrainerModel" "at" "[I") (List.mem_of_getElem? (i := 1) rfl)) (fun _ h9 => h9) rfl dX10_compass_61 ?_
      refine lv_iconst (v := 4) hx hb dX10_compass_64 (by decide) ?_
      refine z_iald (k := 4) hx hb hK hP 1 1 rfl rfl rfl (by decide) (by decide) dX10_compass_65 ?_
      have e9 : (fm_compass k0 v.1 v.2.1 x1) = (v.1 4) := by unfold fm_compass; simp only [if_pos c_1] <;> rfl
      subst hQ
      exact W.iret (v := (v.1 4)) hx hb hr (fun t ht hW => ⟨_, rfl, e9.symm, ht⟩) (fun q h => by cases h) dX10_compass_66
    · skip
      have c_1 : x1 = 1 := c_1.trans (by decide)
      refine lv_tableIn (tgt := 67) (off := 66) hx hb dX10_compass_1 (by rw [c_1]; decide) (by rw [c_1]; decide) (by rw [c_1]; decide) (by decide) ?_
      refine lv_aload_n hx hb dX10_compass_67 rfl (lv_at hl 0 rfl) ?_
      refine va_get (D := D) (ci := 10) (v := .ref h1) (C := RX10) (T := TX10) (N := 16) hx hb hts hinX10 hown hK hP 0 rfl rfl 0 (by decide) (hts (.fieldLink RX10 7 "GyroTrainerModel" "at" "[I") (List.mem_of_getElem? (i := 1) rfl)) (fun _ h9 => h9) rfl dX10_compass_68 ?_
      refine lv_iconst (v := 5) hx hb dX10_compass_71 (by decide) ?_
      refine z_iald (k := 5) hx hb hK hP 1 1 rfl rfl rfl (by decide) (by decide) dX10_compass_72 ?_
      have e9 : (fm_compass k0 v.1 v.2.1 x1) = (v.1 5) := by unfold fm_compass; simp only [if_neg (show ¬ x1 = (0 : Int32) from fun h => absurd (c_1.symm.trans h) (by decide)), if_pos c_1] <;> rfl
      subst hQ
      exact W.iret (v := (v.1 5)) hx hb hr (fun t ht hW => ⟨_, rfl, e9.symm, ht⟩) (fun q h => by cases h) dX10_compass_73
    · skip
      have c_1 : x1 = 2 := c_1.trans (by decide)
      refine lv_tableIn (tgt := 74) (off := 73) hx hb dX10_compass_1 (by rw [c_1]; decide) (by rw [c_1]; decide) (by rw [c_1]; decide) (by decide) ?_
      refine lv_aload_n hx hb dX10_compass_74 rfl (lv_at hl 0 rfl) ?_
      refine z_Ri (va_runV (As := []) (rest := []) ⟨hx, hb, hml, hown, hts⟩ (c_X10_rest l D cA h0 h1 h2 h3 h4 h5 h6 h7 h8 h9 h10 h11 v hR) (cwV 0 hts gX10_compass_X10_rest rfl rfl rfl (by decide +kernel) ⟨Nat.le_of_ble_eq_true rfl, Nat.le_of_ble_eq_true rfl⟩) (zqVR hK hP hN (z_c1 (a := []) (b := []) rfl) 0 rfl rfl) rfl rfl hl.1 rfl (lv_room (Nat.le_of_ble_eq_true rfl)) dX10_compass_75 ⟨Nat.le_of_ble_eq_true rfl, Nat.le_of_ble_eq_true rfl⟩) ?_
      have e9 : (fm_compass k0 v.1 v.2.1 x1) = (fm_rest v.1) := by unfold fm_compass; simp only [if_neg (show ¬ x1 = (0 : Int32) from fun h => absurd (c_1.symm.trans h) (by decide)), if_neg (show ¬ x1 = (1 : Int32) from fun h => absurd (c_1.symm.trans h) (by decide)), if_pos c_1] <;> rfl
      subst hQ
      exact W.iret (v := (fm_rest v.1)) hx hb hr (fun t ht hW => ⟨_, rfl, e9.symm, ht⟩) (fun q h => by cases h) dX10_compass_78
    · skip
      have c_1 : x1 = 3 := c_1.trans (by decide)
      refine lv_tableIn (tgt := 79) (off := 78) hx hb dX10_compass_1 (by rw [c_1]; decide) (by rw [c_1]; decide) (by rw [c_1]; decide) (by decide) ?_
      refine lv_aload_n hx hb dX10_compass_79 rfl (lv_at hl 0 rfl) ?_
      refine va_get (D := D) (ci := 10) (v := .ref h1) (C := RX10) (T := TX10) (N := 16) hx hb hts hinX10 hown hK hP 0 rfl rfl 0 (by decide) (hts (.fieldLink RX10 7 "GyroTrainerModel" "at" "[I") (List.mem_of_getElem? (i := 1) rfl)) (fun _ h9 => h9) rfl dX10_compass_80 ?_
      refine lv_bipush (v := 12) hx hb dX10_compass_83 (by decide) ?_
      refine z_iald (k := 12) hx hb hK hP 1 1 rfl rfl rfl (by decide) (by decide) dX10_compass_85 ?_
      have e9 : (fm_compass k0 v.1 v.2.1 x1) = (v.1 12) := by unfold fm_compass; simp only [if_neg (show ¬ x1 = (0 : Int32) from fun h => absurd (c_1.symm.trans h) (by decide)), if_neg (show ¬ x1 = (1 : Int32) from fun h => absurd (c_1.symm.trans h) (by decide)), if_neg (show ¬ x1 = (2 : Int32) from fun h => absurd (c_1.symm.trans h) (by decide)), if_pos c_1] <;> rfl
      subst hQ
      exact W.iret (v := (v.1 12)) hx hb hr (fun t ht hW => ⟨_, rfl, e9.symm, ht⟩) (fun q h => by cases h) dX10_compass_86
    · skip
      have c_1 : x1 = 4 := c_1.trans (by decide)
      refine lv_tableIn (tgt := 87) (off := 86) hx hb dX10_compass_1 (by rw [c_1]; decide) (by rw [c_1]; decide) (by rw [c_1]; decide) (by decide) ?_
      refine lv_aload_n hx hb dX10_compass_87 rfl (lv_at hl 0 rfl) ?_
      refine va_get (D := D) (ci := 10) (v := .ref h1) (C := RX10) (T := TX10) (N := 16) hx hb hts hinX10 hown hK hP 0 rfl rfl 0 (by decide) (hts (.fieldLink RX10 7 "GyroTrainerModel" "at" "[I") (List.mem_of_getElem? (i := 1) rfl)) (fun _ h9 => h9) rfl dX10_compass_88 ?_
      refine lv_bipush (v := 13) hx hb dX10_compass_91 (by decide) ?_
      refine z_iald (k := 13) hx hb hK hP 1 1 rfl rfl rfl (by decide) (by decide) dX10_compass_93 ?_
      refine lv_iconst (v := 3) hx hb dX10_compass_94 (by decide) ?_
      refine lv_icmp_ge (tgt := 103) hx hb dX10_compass_95 (by decide) (fun c_2 => ?_) (fun c_2 => ?_)
      · skip
        refine lv_aload_n hx hb dX10_compass_103 rfl (lv_at hl 0 rfl) ?_
        refine z_Ri (va_runV (As := []) (rest := []) ⟨hx, hb, hml, hown, hts⟩ (c_X10_settled l D cA h0 h1 h2 h3 h4 h5 h6 h7 h8 h9 h10 h11 v) (cwV 0 hts gX10_compass_X10_settled rfl rfl rfl (by decide +kernel) ⟨Nat.le_of_ble_eq_true rfl, Nat.le_of_ble_eq_true rfl⟩) (zqVR hK hP hN (z_c1 (a := []) (b := []) rfl) 0 rfl rfl) rfl rfl hl.1 rfl (lv_room (Nat.le_of_ble_eq_true rfl)) dX10_compass_104 ⟨Nat.le_of_ble_eq_true rfl, Nat.le_of_ble_eq_true rfl⟩) ?_
        have e9 : (fm_compass k0 v.1 v.2.1 x1) = (fm_settled v.1) := by unfold fm_compass; simp only [if_neg (show ¬ x1 = (0 : Int32) from fun h => absurd (c_1.symm.trans h) (by decide)), if_neg (show ¬ x1 = (1 : Int32) from fun h => absurd (c_1.symm.trans h) (by decide)), if_neg (show ¬ x1 = (2 : Int32) from fun h => absurd (c_1.symm.trans h) (by decide)), if_neg (show ¬ x1 = (3 : Int32) from fun h => absurd (c_1.symm.trans h) (by decide)), if_pos c_1, if_pos c_2] <;> rfl
        subst hQ
        exact W.iret (v := (fm_settled v.1)) hx hb hr (fun t ht hW => ⟨_, rfl, e9.symm, ht⟩) (fun q h => by cases h) dX10_compass_107
      · skip
        refine lv_ldc hx hb hown (hts (.constant RX10 166 (-1000000006)) (List.mem_of_getElem? (i := 2) rfl)) dX10_compass_98 ?_
        refine lv_goto (tgt := 107) hx hb dX10_compass_100 (by decide) ?_
        have e9 : (fm_compass k0 v.1 v.2.1 x1) = (-1000000006 : Int32) := by unfold fm_compass; simp only [if_neg (show ¬ x1 = (0 : Int32) from fun h => absurd (c_1.symm.trans h) (by decide)), if_neg (show ¬ x1 = (1 : Int32) from fun h => absurd (c_1.symm.trans h) (by decide)), if_neg (show ¬ x1 = (2 : Int32) from fun h => absurd (c_1.symm.trans h) (by decide)), if_neg (show ¬ x1 = (3 : Int32) from fun h => absurd (c_1.symm.trans h) (by decide)), if_pos c_1, if_neg c_2] <;> rfl
        subst hQ
        exact W.iret (v := (-1000000006 : Int32)) hx hb hr (fun t ht hW => ⟨_, rfl, e9.symm, ht⟩) (fun q h => by cases h) dX10_compass_107
    · skip
      have c_1 : x1 = 5 := c_1.trans (by decide)
      refine lv_tableIn (tgt := 108) (off := 107) hx hb dX10_compass_1 (by rw [c_1]; decide) (by rw [c_1]; decide) (by rw [c_1]; decide) (by decide) ?_
      refine lv_aload_n hx hb dX10_compass_108 rfl (lv_at hl 0 rfl) ?_
      refine va_get (D := D) (ci := 10) (v := .ref h1) (C := RX10) (T := TX10) (N := 16) hx hb hts hinX10 hown hK hP 0 rfl rfl 0 (by decide) (hts (.fieldLink RX10 7 "GyroTrainerModel" "at" "[I") (List.mem_of_getElem? (i := 1) rfl)) (fun _ h9 => h9) rfl dX10_compass_109 ?_
      refine lv_bipush (v := 13) hx hb dX10_compass_112 (by decide) ?_
      refine z_iald (k := 13) hx hb hK hP 1 1 rfl rfl rfl (by decide) (by decide) dX10_compass_114 ?_
      refine lv_iconst (v := 3) hx hb dX10_compass_115 (by decide) ?_
      refine lv_icmp_ge (tgt := 124) hx hb dX10_compass_116 (by decide) (fun c_3 => ?_) (fun c_3 => ?_)
      · skip
        refine lv_aload_n hx hb dX10_compass_124 rfl (lv_at hl 0 rfl) ?_
        refine z_Ri (va_runV (As := []) (rest := []) ⟨hx, hb, hml, hown, hts⟩ (c_X10_settledByMean l D cA h0 h1 h2 h3 h4 h5 h6 h7 h8 h9 h10 h11 v (hT c_3)) (cwV 0 hts gX10_compass_X10_settledByMean rfl rfl rfl (by decide +kernel) ⟨Nat.le_of_ble_eq_true rfl, Nat.le_of_ble_eq_true rfl⟩) (zqVR hK hP hN (z_c1 (a := []) (b := []) rfl) 0 rfl rfl) rfl rfl hl.1 rfl (lv_room (Nat.le_of_ble_eq_true rfl)) dX10_compass_125 ⟨Nat.le_of_ble_eq_true rfl, Nat.le_of_ble_eq_true rfl⟩) ?_
        have e9 : (fm_compass k0 v.1 v.2.1 x1) = (fm_mean v.1 v.2.1) := by unfold fm_compass; simp only [if_neg (show ¬ x1 = (0 : Int32) from fun h => absurd (c_1.symm.trans h) (by decide)), if_neg (show ¬ x1 = (1 : Int32) from fun h => absurd (c_1.symm.trans h) (by decide)), if_neg (show ¬ x1 = (2 : Int32) from fun h => absurd (c_1.symm.trans h) (by decide)), if_neg (show ¬ x1 = (3 : Int32) from fun h => absurd (c_1.symm.trans h) (by decide)), if_neg (show ¬ x1 = (4 : Int32) from fun h => absurd (c_1.symm.trans h) (by decide)), if_pos c_1, if_pos c_3] <;> rfl
        subst hQ
        exact W.iret (v := (fm_mean v.1 v.2.1)) hx hb hr (fun t ht hW => ⟨_, rfl, e9.symm, ht⟩) (fun q h => by cases h) dX10_compass_128
      · skip
        refine lv_ldc hx hb hown (hts (.constant RX10 166 (-1000000006)) (List.mem_of_getElem? (i := 2) rfl)) dX10_compass_119 ?_
        refine lv_goto (tgt := 128) hx hb dX10_compass_121 (by decide) ?_
        have e9 : (fm_compass k0 v.1 v.2.1 x1) = (-1000000006 : Int32) := by unfold fm_compass; simp only [if_neg (show ¬ x1 = (0 : Int32) from fun h => absurd (c_1.symm.trans h) (by decide)), if_neg (show ¬ x1 = (1 : Int32) from fun h => absurd (c_1.symm.trans h) (by decide)), if_neg (show ¬ x1 = (2 : Int32) from fun h => absurd (c_1.symm.trans h) (by decide)), if_neg (show ¬ x1 = (3 : Int32) from fun h => absurd (c_1.symm.trans h) (by decide)), if_neg (show ¬ x1 = (4 : Int32) from fun h => absurd (c_1.symm.trans h) (by decide)), if_pos c_1, if_neg c_3] <;> rfl
        subst hQ
        exact W.iret (v := (-1000000006 : Int32)) hx hb hr (fun t ht hW => ⟨_, rfl, e9.symm, ht⟩) (fun q h => by cases h) dX10_compass_128
    · skip
      have c_1 : x1 = 6 := c_1.trans (by decide)
      refine lv_tableIn (tgt := 129) (off := 128) hx hb dX10_compass_1 (by rw [c_1]; decide) (by rw [c_1]; decide) (by rw [c_1]; decide) (by decide) ?_
      refine lv_aload_n hx hb dX10_compass_129 rfl (lv_at hl 0 rfl) ?_
      refine va_get (D := D) (ci := 10) (v := .ref h1) (C := RX10) (T := TX10) (N := 16) hx hb hts hinX10 hown hK hP 0 rfl rfl 0 (by decide) (hts (.fieldLink RX10 7 "GyroTrainerModel" "at" "[I") (List.mem_of_getElem? (i := 1) rfl)) (fun _ h9 => h9) rfl dX10_compass_130 ?_
      refine lv_bipush (v := 13) hx hb dX10_compass_133 (by decide) ?_
      refine z_iald (k := 13) hx hb hK hP 1 1 rfl rfl rfl (by decide) (by decide) dX10_compass_135 ?_
      refine lv_iconst (v := 2) hx hb dX10_compass_136 (by decide) ?_
      refine lv_icmp_ge (tgt := 145) hx hb dX10_compass_137 (by decide) (fun c_4 => ?_) (fun c_4 => ?_)
      · skip
        refine lv_aload_n hx hb dX10_compass_145 rfl (lv_at hl 0 rfl) ?_
        refine lv_iconst (v := 0) hx hb dX10_compass_146 (by decide) ?_
        refine z_Ri (va_runV (As := [.int (0 : Int32)]) (rest := []) ⟨hx, hb, hml, hown, hts⟩ (c_X10_turnError l D cA h0 h1 h2 h3 h4 h5 h6 h7 h8 h9 h10 h11 0 v (by decide)) (cwV 1 hts gX10_compass_X10_turnError rfl rfl rfl (by decide +kernel) ⟨Nat.le_of_ble_eq_true rfl, Nat.le_of_ble_eq_true rfl⟩) (zqVR hK hP hN (z_c1 (a := []) (b := []) rfl) 0 rfl rfl) rfl rfl hl.1 rfl (lv_room (Nat.le_of_ble_eq_true rfl)) dX10_compass_147 ⟨Nat.le_of_ble_eq_true rfl, Nat.le_of_ble_eq_true rfl⟩) ?_
        refine lv_aload_n hx hb dX10_compass_150 rfl (lv_at hl 0 rfl) ?_
        refine lv_iconst (v := 1) hx hb dX10_compass_151 (by decide) ?_
        refine z_Ri (va_runV (As := [.int (1 : Int32)]) (rest := [.int (v.1 (58 + 2 * 0))]) ⟨hx, hb, hml, hown, hts⟩ (c_X10_turnError l D cA h0 h1 h2 h3 h4 h5 h6 h7 h8 h9 h10 h11 1 v (by decide)) (cwV 1 hts gX10_compass_X10_turnError rfl rfl rfl (by decide +kernel) ⟨Nat.le_of_ble_eq_true rfl, Nat.le_of_ble_eq_true rfl⟩) (zqVR hK hP hN (z_c1 (a := []) (b := []) rfl) 0 rfl rfl) rfl rfl hl.1 rfl (lv_room (Nat.le_of_ble_eq_true rfl)) dX10_compass_152 ⟨Nat.le_of_ble_eq_true rfl, Nat.le_of_ble_eq_true rfl⟩) ?_
        refine lv_isub hx hb dX10_compass_155 ?_
        have e9 : (fm_compass k0 v.1 v.2.1 x1) = ((v.1 (58 + 2 * 0)) - (v.1 (58 + 2 * 1))) := by unfold fm_compass; simp only [if_neg (show ¬ x1 = (0 : Int32) from fun h => absurd (c_1.symm.trans h) (by decide)), if_neg (show ¬ x1 = (1 : Int32) from fun h => absurd (c_1.symm.trans h) (by decide)), if_neg (show ¬ x1 = (2 : Int32) from fun h => absurd (c_1.symm.trans h) (by decide)), if_neg (show ¬ x1 = (3 : Int32) from fun h => absurd (c_1.symm.trans h) (by decide)), if_neg (show ¬ x1 = (4 : Int32) from fun h => absurd (c_1.symm.trans h) (by decide)), if_neg (show ¬ x1 = (5 : Int32) from fun h => absurd (c_1.symm.trans h) (by decide)), if_pos c_1, if_pos c_4] <;> rfl
        subst hQ
        exact W.iret (v := ((v.1 (58 + 2 * 0)) - (v.1 (58 + 2 * 1)))) hx hb hr (fun t ht hW => ⟨_, rfl, e9.symm, ht⟩) (fun q h => by cases h) dX10_compass_156
      · skip
        refine lv_ldc hx hb hown (hts (.constant RX10 166 (-1000000006)) (List.mem_of_getElem? (i := 2) rfl)) dX10_compass_140 ?_
        refine lv_goto (tgt := 156) hx hb dX10_compass_142 (by decide) ?_
        have e9 : (fm_compass k0 v.1 v.2.1 x1) = (-1000000006 : Int32) := by unfold fm_compass; simp only [if_neg (show ¬ x1 = (0 : Int32) from fun h => absurd (c_1.symm.trans h) (by decide)), if_neg (show ¬ x1 = (1 : Int32) from fun h => absurd (c_1.symm.trans h) (by decide)), if_neg (show ¬ x1 = (2 : Int32) from fun h => absurd (c_1.symm.trans h) (by decide)), if_neg (show ¬ x1 = (3 : Int32) from fun h => absurd (c_1.symm.trans h) (by decide)), if_neg (show ¬ x1 = (4 : Int32) from fun h => absurd (c_1.symm.trans h) (by decide)), if_neg (show ¬ x1 = (5 : Int32) from fun h => absurd (c_1.symm.trans h) (by decide)), if_pos c_1, if_neg c_4] <;> rfl
        subst hQ
        exact W.iret (v := (-1000000006 : Int32)) hx hb hr (fun t ht hW => ⟨_, rfl, e9.symm, ht⟩) (fun q h => by cases h) dX10_compass_156
    · skip
      have c_1 : x1 = 7 := c_1.trans (by decide)
      refine lv_tableIn (tgt := 157) (off := 156) hx hb dX10_compass_1 (by rw [c_1]; decide) (by rw [c_1]; decide) (by rw [c_1]; decide) (by decide) ?_
      refine lv_aload_n hx hb dX10_compass_157 rfl (lv_at hl 0 rfl) ?_
      refine lv_aload_n hx hb dX10_compass_158 rfl (lv_at hl 0 rfl) ?_
      refine va_get (D := D) (ci := 10) (v := .ref h1) (C := RX10) (T := TX10) (N := 16) hx hb hts hinX10 hown hK hP 0 rfl rfl 0 (by decide) (hts (.fieldLink RX10 7 "GyroTrainerModel" "at" "[I") (List.mem_of_getElem? (i := 1) rfl)) (fun _ h9 => h9) rfl dX10_compass_159 ?_
      refine lv_bipush (v := 15) hx hb dX10_compass_162 (by decide) ?_
      refine z_iald (k := 15) hx hb hK hP 1 1 rfl rfl rfl (by decide) (by decide) dX10_compass_164 ?_
      rw [hk]
      refine z_Ri (va_runV (As := [.int (nI k0)]) (rest := []) ⟨hx, hb, hml, hown, hts⟩ (c_X10_checksSum l D cA h0 h1 h2 h3 h4 h5 h6 h7 h8 h9 h10 h11 v k0 hk5) (cwV 1 hts gX10_compass_X10_checksSum rfl rfl rfl (by decide +kernel) ⟨Nat.le_of_ble_eq_true rfl, Nat.le_of_ble_eq_true rfl⟩) (zqVR hK hP hN (z_c1 (a := []) (b := []) rfl) 0 rfl rfl) rfl rfl hl.1 rfl (lv_room (Nat.le_of_ble_eq_true rfl)) dX10_compass_165 ⟨Nat.le_of_ble_eq_true rfl, Nat.le_of_ble_eq_true rfl⟩) ?_
      have e9 : (fm_compass k0 v.1 v.2.1 x1) = (fm_csum v.1 k0) := by unfold fm_compass; simp only [if_neg (show ¬ x1 = (0 : Int32) from fun h => absurd (c_1.symm.trans h) (by decide)), if_neg (show ¬ x1 = (1 : Int32) from fun h => absurd (c_1.symm.trans h) (by decide)), if_neg (show ¬ x1 = (2 : Int32) from fun h => absurd (c_1.symm.trans h) (by decide)), if_neg (show ¬ x1 = (3 : Int32) from fun h => absurd (c_1.symm.trans h) (by decide)), if_neg (show ¬ x1 = (4 : Int32) from fun h => absurd (c_1.symm.trans h) (by decide)), if_neg (show ¬ x1 = (5 : Int32) from fun h => absurd (c_1.symm.trans h) (by decide)), if_neg (show ¬ x1 = (6 : Int32) from fun h => absurd (c_1.symm.trans h) (by decide)), if_pos c_1] <;> rfl
      subst hQ
      exact W.iret (v := (fm_csum v.1 k0)) hx hb hr (fun t ht hW => ⟨_, rfl, e9.symm, ht⟩) (fun q h => by cases h) dX10_compass_168
    · skip
      have c_1 : x1 = 8 := c_1.trans (by decide)
      refine lv_tableIn (tgt := 169) (off := 168) hx hb dX10_compass_1 (by rw [c_1]; decide) (by rw [c_1]; decide) (by rw [c_1]; decide) (by decide) ?_
      refine lv_aload_n hx hb dX10_compass_169 rfl (lv_at hl 0 rfl) ?_
      refine va_get (D := D) (ci := 10) (v := .ref h1) (C := RX10) (T := TX10) (N := 16) hx hb hts hinX10 hown hK hP 0 rfl rfl 0 (by decide) (hts (.fieldLink RX10 7 "GyroTrainerModel" "at" "[I") (List.mem_of_getElem? (i := 1) rfl)) (fun _ h9 => h9) rfl dX10_compass_170 ?_
      refine lv_iconst (v := 0) hx hb dX10_compass_173 (by decide) ?_
      refine z_iald (k := 0) hx hb hK hP 1 1 rfl rfl rfl (by decide) (by decide) dX10_compass_174 ?_
      have e9 : (fm_compass k0 v.1 v.2.1 x1) = (v.1 0) := by unfold fm_compass; simp only [if_neg (show ¬ x1 = (0 : Int32) from fun h => absurd (c_1.symm.trans h) (by decide)), if_neg (show ¬ x1 = (1 : Int32) from fun h => absurd (c_1.symm.trans h) (by decide)), if_neg (show ¬ x1 = (2 : Int32) from fun h => absurd (c_1.symm.trans h) (by decide)), if_neg (show ¬ x1 = (3 : Int32) from fun h => absurd (c_1.symm.trans h) (by decide)), if_neg (show ¬ x1 = (4 : Int32) from fun h => absurd (c_1.symm.trans h) (by decide)), if_neg (show ¬ x1 = (5 : Int32) from fun h => absurd (c_1.symm.trans h) (by decide)), if_neg (show ¬ x1 = (6 : Int32) from fun h => absurd (c_1.symm.trans h) (by decide)), if_neg (show ¬ x1 = (7 : Int32) from fun h => absurd (c_1.symm.trans h) (by decide)), if_pos c_1] <;> rfl
      subst hQ
      exact W.iret (v := (v.1 0)) hx hb hr (fun t ht hW => ⟨_, rfl, e9.symm, ht⟩) (fun q h => by cases h) dX10_compass_175
    · skip
      have c_1 : x1 = 9 := c_1.trans (by decide)
      refine lv_tableIn (tgt := 176) (off := 175) hx hb dX10_compass_1 (by rw [c_1]; decide) (by rw [c_1]; decide) (by rw [c_1]; decide) (by decide) ?_
      refine lv_aload_n hx hb dX10_compass_176 rfl (lv_at hl 0 rfl) ?_
      refine va_get (D := D) (ci := 10) (v := .ref h1) (C := RX10) (T := TX10) (N := 16) hx hb hts hinX10 hown hK hP 0 rfl rfl 0 (by decide) (hts (.fieldLink RX10 7 "GyroTrainerModel" "at" "[I") (List.mem_of_getElem? (i := 1) rfl)) (fun _ h9 => h9) rfl dX10_compass_177 ?_
      refine lv_bipush (v := 6) hx hb dX10_compass_180 (by decide) ?_
      refine z_iald (k := 6) hx hb hK hP 1 1 rfl rfl rfl (by decide) (by decide) dX10_compass_182 ?_
      have e9 : (fm_compass k0 v.1 v.2.1 x1) = (v.1 6) := by unfold fm_compass; simp only [if_neg (show ¬ x1 = (0 : Int32) from fun h => absurd (c_1.symm.trans h) (by decide)), if_neg (show ¬ x1 = (1 : Int32) from fun h => absurd (c_1.symm.trans h) (by decide)), if_neg (show ¬ x1 = (2 : Int32) from fun h => absurd (c_1.symm.trans h) (by decide)), if_neg (show ¬ x1 = (3 : Int32) from fun h => absurd (c_1.symm.trans h) (by decide)), if_neg (show ¬ x1 = (4 : Int32) from fun h => absurd (c_1.symm.trans h) (by decide)), if_neg (show ¬ x1 = (5 : Int32) from fun h => absurd (c_1.symm.trans h) (by decide)), if_neg (show ¬ x1 = (6 : Int32) from fun h => absurd (c_1.symm.trans h) (by decide)), if_neg (show ¬ x1 = (7 : Int32) from fun h => absurd (c_1.symm.trans h) (by decide)), if_neg (show ¬ x1 = (8 : Int32) from fun h => absurd (c_1.symm.trans h) (by decide)), if_pos c_1] <;> rfl
      subst hQ
      exact W.iret (v := (v.1 6)) hx hb hr (fun t ht hW => ⟨_, rfl, e9.symm, ht⟩) (fun q h => by cases h) dX10_compass_183
    · skip
      have c_1 : x1 = 10 := c_1.trans (by decide)
      refine lv_tableIn (tgt := 184) (off := 183) hx hb dX10_compass_1 (by rw [c_1]; decide) (by rw [c_1]; decide) (by rw [c_1]; decide) (by decide) ?_
      refine lv_aload_n hx hb dX10_compass_184 rfl (lv_at hl 0 rfl) ?_
      refine va_get (D := D) (ci := 10) (v := .ref h1) (C := RX10) (T := TX10) (N := 16) hx hb hts hinX10 hown hK hP 0 rfl rfl 0 (by decide) (hts (.fieldLink RX10 7 "GyroTrainerModel" "at" "[I") (List.mem_of_getElem? (i := 1) rfl)) (fun _ h9 => h9) rfl dX10_compass_185 ?_
      refine lv_bipush (v := 18) hx hb dX10_compass_188 (by decide) ?_
      refine z_iald (k := 18) hx hb hK hP 1 1 rfl rfl rfl (by decide) (by decide) dX10_compass_190 ?_
      have e9 : (fm_compass k0 v.1 v.2.1 x1) = (v.1 18) := by unfold fm_compass; simp only [if_neg (show ¬ x1 = (0 : Int32) from fun h => absurd (c_1.symm.trans h) (by decide)), if_neg (show ¬ x1 = (1 : Int32) from fun h => absurd (c_1.symm.trans h) (by decide)), if_neg (show ¬ x1 = (2 : Int32) from fun h => absurd (c_1.symm.trans h) (by decide)), if_neg (show ¬ x1 = (3 : Int32) from fun h => absurd (c_1.symm.trans h) (by decide)), if_neg (show ¬ x1 = (4 : Int32) from fun h => absurd (c_1.symm.trans h) (by decide)), if_neg (show ¬ x1 = (5 : Int32) from fun h => absurd (c_1.symm.trans h) (by decide)), if_neg (show ¬ x1 = (6 : Int32) from fun h => absurd (c_1.symm.trans h) (by decide)), if_neg (show ¬ x1 = (7 : Int32) from fun h => absurd (c_1.symm.trans h) (by decide)), if_neg (show ¬ x1 = (8 : Int32) from fun h => absurd (c_1.symm.trans h) (by decide)), if_neg (show ¬ x1 = (9 : Int32) from fun h => absurd (c_1.symm.trans h) (by decide)), if_pos c_1] <;> rfl
      subst hQ
      exact W.iret (v := (v.1 18)) hx hb hr (fun t ht hW => ⟨_, rfl, e9.symm, ht⟩) (fun q h => by cases h) dX10_compass_191
set_option maxHeartbeats 4000000 in
set_option maxRecDepth 100000 in
theorem c_X10_turn (l : Launch) (D : va_G) (cA : Nat → ClassId) (h0 h1 h2 h3 h4 h5 h6 h7 h8 h9 h10 h11 : Nat) (v : vX10) (x1 : Int32) (x2 : Int32) (h13 : (v.1 13).toInt ≤ 8) : Met l yX10_turn wsX10_turn ({ frames := 1, cells := 0, slots := 0, locals := 22 }) (va_Pc [.ref h0, .int x1, .int x2] (zPreR D (zty cA) (wX10 cA h0 h1 h2 h3 h4 h5 h6 h7 h8 h9 h10 h11 v))) (vp_Si (fun x => x = (fm_turn v.1 x1 x2))) 0 0 (fun _ => False) := by
  refine Met.ofW (cc := cX10_turn) (maxL := 3) (ret := (some .int)) (by decide) rfl ?_
  intro p e s m args below meth c s₁ B hml hv
  obtain ⟨rfl, hP, hK, hN⟩ := hv
  have hx := B.exec
  have hb := B.bytes
  have hr := B.returns
  have hts := atoms_spec (ws := wsX10_turn) B.pre
  have hown : s.vm.findClass RX10 = some m.cls := findClass_of_methodNamed B.named
  have hlocks := B.notSynchronized
  have hinX10 : ∀ w ∈ u_ws RX10 TX10 16, w ∈ wsX10_turn := fun w h => List.mem_cons_of_mem _ (List.mem_append_right _ h)
  have hP : va_P D vwCl [(h0, .inr (10, [.ref h1, .ref h2, .ref h3, .ref h4, .ref h5, .ref h6, .int v.2.2.2.2.2.2.1, .ref h7, .ref h8, .ref h9, .ref h10, .int v.2.2.2.2.2.2.2.2.2.2.2.1, .int v.2.2.2.2.2.2.2.2.2.2.2.2.1, .int v.2.2.2.2.2.2.2.2.2.2.2.2.2.1, .ref h11, .int v.2.2.2.2.2.2.2.2.2.2.2.2.2.2.2])), (h1, .inl ((cA 1), 85, .inl v.1)), (h2, .inl ((cA 0), 9, .inr (.inl v.2.1))), (h3, .inl ((cA 1), 85, .inl v.2.2.1)), (h4, .inl ((cA 0), 9, .inr (.inl v.2.2.2.1))), (h5, .inl ((cA 1), 510, .inl v.2.2.2.2.1)), (h6, .inl ((cA 0), 54, .inr (.inl v.2.2.2.2.2.1))), (h7, .inl ((cA 1), 170, .inl v.2.2.2.2.2.2.2.1)), (h8, .inl ((cA 0), 18, .inr (.inl v.2.2.2.2.2.2.2.2.1))), (h9, .inl ((cA 2), 2, .inl v.2.2.2.2.2.2.2.2.2.1)), (h10, .inl ((cA 1), 80, .inl v.2.2.2.2.2.2.2.2.2.2.1)), (h11, .inl ((cA 1), 60, .inl v.2.2.2.2.2.2.2.2.2.2.2.2.2.2.1))] s.heap := hP
  have hl := lv_entry ([.ref h0, .int x1, .int x2]) (n := 3) (Nat.le_of_ble_eq_true rfl)
  rw [lg_entry_eq]
  generalize (lg_sl ([.ref h0, .int x1, .int x2]) ++ List.replicate (3 - (lg_sl ([.ref h0, .int x1, .int x2])).length) Slot.unset).toArray = ls at hl ⊢
  have hl : lv_has ls 3 [(0, .ref h0), (1, .int x1), (2, .int x2)] := hl
  refine z_genQ (fun Q hQ => ?_)
  refine lv_iload_n hx hb dX10_turn_0 rfl (lv_at hl 1 rfl) ?_
  refine lv_if_lt (tgt := 15) hx hb dX10_turn_1 (by decide) (fun c_1 => ?_) (fun c_1 => ?_)
  · skip
    refine lv_ldc hx hb hown (hts (.constant RX10 176 (-1000000001)) (List.mem_of_getElem? (i := 2) rfl)) dX10_turn_15 ?_
    have e9 : (fm_turn v.1 x1 x2) = (-1000000001 : Int32) := by unfold fm_turn; simp only [if_pos c_1] <;> rfl
    subst hQ
    exact W.iret (v := (-1000000001 : Int32)) hx hb hr (fun t ht hW => ⟨_, rfl, e9.symm, ht⟩) (fun q h => by cases h) dX10_turn_17
  · skip
    refine lv_iload_n hx hb dX10_turn_4 rfl (lv_at hl 1 rfl) ?_
    refine lv_aload_n hx hb dX10_turn_5 rfl (lv_at hl 0 rfl) ?_
    refine va_get (D := D) (ci := 10) (v := .ref h1) (C := RX10) (T := TX10) (N := 16) hx hb hts hinX10 hown hK hP 0 rfl rfl 0 (by decide) (hts (.fieldLink RX10 7 "GyroTrainerModel" "at" "[I") (List.mem_of_getElem? (i := 1) rfl)) (fun _ h9 => h9) rfl dX10_turn_6 ?_
    refine lv_bipush (v := 13) hx hb dX10_turn_9 (by decide) ?_
    refine z_iald (k := 13) hx hb hK hP 1 1 rfl rfl rfl (by decide) (by decide) dX10_turn_11 ?_
    refine lv_icmp_lt (tgt := 18) hx hb dX10_turn_12 (by decide) (fun c_2 => ?_) (fun c_2 => ?_)
    · skip
      refine lv_iload_n hx hb dX10_turn_18 rfl (lv_at hl 2 rfl) ?_
      refine lv_iconst (v := 0) hx hb dX10_turn_19 (by decide) ?_
      refine lv_iconst (v := 1) hx hb dX10_turn_20 (by decide) ?_
      refine z_Ri (va_runS (As := [.int x2, .int (0 : Int32), .int (1 : Int32)]) (rest := []) ⟨hx, hb, hml, hown, hts⟩ (c_X10_in l D cA  x2 (0 : Int32) (1 : Int32)) (va_cwS 3 hts gX10_turn_X10_in rfl rfl rfl (by decide +kernel) ⟨Nat.le_of_ble_eq_true rfl, Nat.le_of_ble_eq_true rfl⟩) (zqSR0 hK hN) rfl rfl hl.1 rfl (lv_room (Nat.le_of_ble_eq_true rfl)) dX10_turn_21 ⟨Nat.le_of_ble_eq_true rfl, Nat.le_of_ble_eq_true rfl⟩) ?_
      refine lv_if_eq (tgt := 43) hx hb dX10_turn_24 (by decide) (fun c_3 => ?_) (fun c_3 => ?_)
      · skip
        refine lv_ldc hx hb hown (hts (.constant RX10 111 (-1000000002)) (List.mem_of_getElem? (i := 3) rfl)) dX10_turn_43 ?_
        have e9 : (fm_turn v.1 x1 x2) = (-1000000002 : Int32) := by unfold fm_turn; simp only [if_neg c_1, if_pos c_2, if_pos c_3] <;> rfl
        subst hQ
        exact W.iret (v := (-1000000002 : Int32)) hx hb hr (fun t ht hW => ⟨_, rfl, e9.symm, ht⟩) (fun q h => by cases h) dX10_turn_45
      · skip
        refine lv_aload_n hx hb dX10_turn_27 rfl (lv_at hl 0 rfl) ?_
        refine va_get (D := D) (ci := 10) (v := .ref h1) (C := RX10) (T := TX10) (N := 16) hx hb hts hinX10 hown hK hP 0 rfl rfl 0 (by decide) (hts (.fieldLink RX10 7 "GyroTrainerModel" "at" "[I") (List.mem_of_getElem? (i := 1) rfl)) (fun _ h9 => h9) rfl dX10_turn_28 ?_
        refine lv_bipush (v := 58) hx hb dX10_turn_31 (by decide) ?_
        refine lv_iconst (v := 2) hx hb dX10_turn_33 (by decide) ?_
        refine lv_iload_n hx hb dX10_turn_34 rfl (lv_at hl 1 rfl) ?_
        refine lv_imul hx hb dX10_turn_35 ?_
        refine lv_iadd hx hb dX10_turn_36 ?_
        refine lv_iload_n hx hb dX10_turn_37 rfl (lv_at hl 2 rfl) ?_
        refine lv_iadd hx hb dX10_turn_38 ?_
        obtain ⟨k, hk, ek⟩ := z_ix13 (n := 8) c_1 c_2 h13
        obtain ⟨q, hq, eq⟩ := z_ix01 c_3
        refine z_iald (k := (58 + 2 * k + q)) hx hb hK hP 1 1 rfl rfl (by rw [ek, eq]; exact zm_ix2 58 2 k q) (by omega) (by decide) dX10_turn_39 ?_
        refine lv_goto (tgt := 45) hx hb dX10_turn_40 (by decide) ?_
        have e9 : (fm_turn v.1 x1 x2) = (v.1 ((58 + 2 * k + q))) := by unfold fm_turn; simp only [if_neg c_1, if_pos c_2, if_neg c_3]; rw [ek, eq, nI_clamp (by omega), nI_clamp (by omega)]
        subst hQ
        exact W.iret (v := (v.1 ((58 + 2 * k + q)))) hx hb hr (fun t ht hW => ⟨_, rfl, e9.symm, ht⟩) (fun q h => by cases h) dX10_turn_45
    · skip
      refine lv_ldc hx hb hown (hts (.constant RX10 176 (-1000000001)) (List.mem_of_getElem? (i := 2) rfl)) dX10_turn_15 ?_
      have e9 : (fm_turn v.1 x1 x2) = (-1000000001 : Int32) := by unfold fm_turn; simp only [if_neg c_1, if_neg c_2] <;> rfl
      subst hQ
      exact W.iret (v := (-1000000001 : Int32)) hx hb hr (fun t ht hW => ⟨_, rfl, e9.symm, ht⟩) (fun q h => by cases h) dX10_turn_17
set_option maxHeartbeats 4000000 in
set_option maxRecDepth 100000 in
theorem c_X10_check (l : Launch) (D : va_G) (cA : Nat → ClassId) (h0 h1 h2 h3 h4 h5 h6 h7 h8 h9 h10 h11 : Nat) (v : vX10) (x1 : Int32) (h15 : (v.1 15).toInt ≤ 5) : Met l yX10_check wsX10_check ({ frames := 0, cells := 0, slots := 0, locals := 0 }) (va_Pc [.ref h0, .int x1] (zPreR D (zty cA) (wX10 cA h0 h1 h2 h3 h4 h5 h6 h7 h8 h9 h10 h11 v))) (vp_Si (fun x => x = (fm_check v.1 x1))) 0 0 (fun _ => False) := by
  refine Met.ofW (cc := cX10_check) (maxL := 2) (ret := (some .int)) (by decide) rfl ?_
  intro p e s m args below meth c s₁ B hml hv
  obtain ⟨rfl, hP, hK, hN⟩ := hv
  have hx := B.exec
  have hb := B.bytes
  have hr := B.returns
  have hts := atoms_spec (ws := wsX10_check) B.pre
  have hown : s.vm.findClass RX10 = some m.cls := findClass_of_methodNamed B.named
  have hlocks := B.notSynchronized
  have hinX10 : ∀ w ∈ u_ws RX10 TX10 16, w ∈ wsX10_check := fun w h => List.mem_cons_of_mem _ (List.mem_append_right _ h)
  have hP : va_P D vwCl [(h0, .inr (10, [.ref h1, .ref h2, .ref h3, .ref h4, .ref h5, .ref h6, .int v.2.2.2.2.2.2.1, .ref h7, .ref h8, .ref h9, .ref h10, .int v.2.2.2.2.2.2.2.2.2.2.2.1, .int v.2.2.2.2.2.2.2.2.2.2.2.2.1, .int v.2.2.2.2.2.2.2.2.2.2.2.2.2.1, .ref h11, .int v.2.2.2.2.2.2.2.2.2.2.2.2.2.2.2])), (h1, .inl ((cA 1), 85, .inl v.1)), (h2, .inl ((cA 0), 9, .inr (.inl v.2.1))), (h3, .inl ((cA 1), 85, .inl v.2.2.1)), (h4, .inl ((cA 0), 9, .inr (.inl v.2.2.2.1))), (h5, .inl ((cA 1), 510, .inl v.2.2.2.2.1)), (h6, .inl ((cA 0), 54, .inr (.inl v.2.2.2.2.2.1))), (h7, .inl ((cA 1), 170, .inl v.2.2.2.2.2.2.2.1)), (h8, .inl ((cA 0), 18, .inr (.inl v.2.2.2.2.2.2.2.2.1))), (h9, .inl ((cA 2), 2, .inl v.2.2.2.2.2.2.2.2.2.1)), (h10, .inl ((cA 1), 80, .inl v.2.2.2.2.2.2.2.2.2.2.1)), (h11, .inl ((cA 1), 60, .inl v.2.2.2.2.2.2.2.2.2.2.2.2.2.2.1))] s.heap := hP
  have hl := lv_entry ([.ref h0, .int x1]) (n := 2) (Nat.le_of_ble_eq_true rfl)
  rw [lg_entry_eq]
  generalize (lg_sl ([.ref h0, .int x1]) ++ List.replicate (2 - (lg_sl ([.ref h0, .int x1])).length) Slot.unset).toArray = ls at hl ⊢
  have hl : lv_has ls 2 [(0, .ref h0), (1, .int x1)] := hl
  refine z_genQ (fun Q hQ => ?_)
  refine lv_iload_n hx hb dX10_check_0 rfl (lv_at hl 1 rfl) ?_
  refine lv_if_lt (tgt := 15) hx hb dX10_check_1 (by decide) (fun c_1 => ?_) (fun c_1 => ?_)
  · skip
    refine lv_ldc hx hb hown (hts (.constant RX10 176 (-1000000001)) (List.mem_of_getElem? (i := 2) rfl)) dX10_check_15 ?_
    refine lv_goto (tgt := 29) hx hb dX10_check_17 (by decide) ?_
    have e9 : (fm_check v.1 x1) = (-1000000001 : Int32) := by unfold fm_check; simp only [if_pos c_1] <;> rfl
    subst hQ
    exact W.iret (v := (-1000000001 : Int32)) hx hb hr (fun t ht hW => ⟨_, rfl, e9.symm, ht⟩) (fun q h => by cases h) dX10_check_29
  · skip
    refine lv_iload_n hx hb dX10_check_4 rfl (lv_at hl 1 rfl) ?_
    refine lv_aload_n hx hb dX10_check_5 rfl (lv_at hl 0 rfl) ?_
    refine va_get (D := D) (ci := 10) (v := .ref h1) (C := RX10) (T := TX10) (N := 16) hx hb hts hinX10 hown hK hP 0 rfl rfl 0 (by decide) (hts (.fieldLink RX10 7 "GyroTrainerModel" "at" "[I") (List.mem_of_getElem? (i := 1) rfl)) (fun _ h9 => h9) rfl dX10_check_6 ?_
    refine lv_bipush (v := 15) hx hb dX10_check_9 (by decide) ?_
    refine z_iald (k := 15) hx hb hK hP 1 1 rfl rfl rfl (by decide) (by decide) dX10_check_11 ?_
    refine lv_icmp_lt (tgt := 20) hx hb dX10_check_12 (by decide) (fun c_2 => ?_) (fun c_2 => ?_)
    · skip
      refine lv_aload_n hx hb dX10_check_20 rfl (lv_at hl 0 rfl) ?_
      refine va_get (D := D) (ci := 10) (v := .ref h1) (C := RX10) (T := TX10) (N := 16) hx hb hts hinX10 hown hK hP 0 rfl rfl 0 (by decide) (hts (.fieldLink RX10 7 "GyroTrainerModel" "at" "[I") (List.mem_of_getElem? (i := 1) rfl)) (fun _ h9 => h9) rfl dX10_check_21 ?_
      refine lv_bipush (v := 74) hx hb dX10_check_24 (by decide) ?_
      refine lv_iload_n hx hb dX10_check_26 rfl (lv_at hl 1 rfl) ?_
      refine lv_iadd hx hb dX10_check_27 ?_
      obtain ⟨k, hk, ek⟩ := z_ix13 (n := 5) c_1 c_2 h15
      refine z_iald (k := (74 + k)) hx hb hK hP 1 1 rfl rfl (by rw [ek]; exact nI_add 74 k) (by omega) (by decide) dX10_check_28 ?_
      have e9 : (fm_check v.1 x1) = (v.1 ((74 + k))) := by unfold fm_check; simp only [if_neg c_1, if_pos c_2]; rw [ek, nI_clamp (by omega)]
      subst hQ
      exact W.iret (v := (v.1 ((74 + k)))) hx hb hr (fun t ht hW => ⟨_, rfl, e9.symm, ht⟩) (fun q h => by cases h) dX10_check_29
    · skip
      refine lv_ldc hx hb hown (hts (.constant RX10 176 (-1000000001)) (List.mem_of_getElem? (i := 2) rfl)) dX10_check_15 ?_
      refine lv_goto (tgt := 29) hx hb dX10_check_17 (by decide) ?_
      have e9 : (fm_check v.1 x1) = (-1000000001 : Int32) := by unfold fm_check; simp only [if_neg c_1, if_neg c_2] <;> rfl
      subst hQ
      exact W.iret (v := (-1000000001 : Int32)) hx hb hr (fun t ht hW => ⟨_, rfl, e9.symm, ht⟩) (fun q h => by cases h) dX10_check_29
set_option maxHeartbeats 4000000 in
set_option maxRecDepth 100000 in
theorem c_X10_reason (l : Launch) (D : va_G) (cA : Nat → ClassId) (h0 h1 h2 h3 h4 h5 h6 h7 h8 h9 h10 h11 : Nat) (v : vX10) (hT : okT v.1) : Met l yX10_reason wsX10_reason ({ frames := 2, cells := 0, slots := 0, locals := 41 }) (va_Pc [.ref h0] (zPreR D (zty cA) (wX10 cA h0 h1 h2 h3 h4 h5 h6 h7 h8 h9 h10 h11 v))) (vp_Si (fun x => x = (fm_reason v.1 v.2.1))) 0 0 (fun _ => False) := by
  refine Met.ofW (cc := cX10_reason) (maxL := 1) (ret := (some .int)) (by decide) rfl ?_
  intro p e s m args below meth c s₁ B hml hv
  obtain ⟨rfl, hP, hK, hN⟩ := hv
  have hx := B.exec
  have hb := B.bytes
  have hr := B.returns
  have hts := atoms_spec (ws := wsX10_reason) B.pre
  have hown : s.vm.findClass RX10 = some m.cls := findClass_of_methodNamed B.named
  have hlocks := B.notSynchronized
  have hinX10 : ∀ w ∈ u_ws RX10 TX10 16, w ∈ wsX10_reason := fun w h => List.mem_cons_of_mem _ (List.mem_append_right _ h)
  have hP : va_P D vwCl [(h0, .inr (10, [.ref h1, .ref h2, .ref h3, .ref h4, .ref h5, .ref h6, .int v.2.2.2.2.2.2.1, .ref h7, .ref h8, .ref h9, .ref h10, .int v.2.2.2.2.2.2.2.2.2.2.2.1, .int v.2.2.2.2.2.2.2.2.2.2.2.2.1, .int v.2.2.2.2.2.2.2.2.2.2.2.2.2.1, .ref h11, .int v.2.2.2.2.2.2.2.2.2.2.2.2.2.2.2])), (h1, .inl ((cA 1), 85, .inl v.1)), (h2, .inl ((cA 0), 9, .inr (.inl v.2.1))), (h3, .inl ((cA 1), 85, .inl v.2.2.1)), (h4, .inl ((cA 0), 9, .inr (.inl v.2.2.2.1))), (h5, .inl ((cA 1), 510, .inl v.2.2.2.2.1)), (h6, .inl ((cA 0), 54, .inr (.inl v.2.2.2.2.2.1))), (h7, .inl ((cA 1), 170, .inl v.2.2.2.2.2.2.2.1)), (h8, .inl ((cA 0), 18, .inr (.inl v.2.2.2.2.2.2.2.2.1))), (h9, .inl ((cA 2), 2, .inl v.2.2.2.2.2.2.2.2.2.1)), (h10, .inl ((cA 1), 80, .inl v.2.2.2.2.2.2.2.2.2.2.1)), (h11, .inl ((cA 1), 60, .inl v.2.2.2.2.2.2.2.2.2.2.2.2.2.2.1))] s.heap := hP
  have hl := lv_entry ([.ref h0]) (n := 1) (Nat.le_of_ble_eq_true rfl)
  rw [lg_entry_eq]
  generalize (lg_sl ([.ref h0]) ++ List.replicate (1 - (lg_sl ([.ref h0])).length) Slot.unset).toArray = ls at hl ⊢
  have hl : lv_has ls 1 [(0, .ref h0)] := hl
  refine z_genQ (fun Q hQ => ?_)
  refine lv_aload_n hx hb dX10_reason_0 rfl (lv_at hl 0 rfl) ?_
  refine va_get (D := D) (ci := 10) (v := .ref h1) (C := RX10) (T := TX10) (N := 16) hx hb hts hinX10 hown hK hP 0 rfl rfl 0 (by decide) (hts (.fieldLink RX10 7 "GyroTrainerModel" "at" "[I") (List.mem_of_getElem? (i := 1) rfl)) (fun _ h9 => h9) rfl dX10_reason_1 ?_
  refine lv_bipush (v := 13) hx hb dX10_reason_4 (by decide) ?_
  refine z_iald (k := 13) hx hb hK hP 1 1 rfl rfl rfl (by decide) (by decide) dX10_reason_6 ?_
  refine lv_iconst (v := 3) hx hb dX10_reason_7 (by decide) ?_
  refine lv_icmp_ge (tgt := 13) hx hb dX10_reason_8 (by decide) (fun c_1 => ?_) (fun c_1 => ?_)
  · skip
    refine lv_aload_n hx hb dX10_reason_13 rfl (lv_at hl 0 rfl) ?_
    refine lv_iconst (v := 0) hx hb dX10_reason_14 (by decide) ?_
    refine z_Ri (va_runV (As := [.int (0 : Int32)]) (rest := []) ⟨hx, hb, hml, hown, hts⟩ (c_X10_turnError l D cA h0 h1 h2 h3 h4 h5 h6 h7 h8 h9 h10 h11 0 v (by decide)) (cwV 1 hts gX10_reason_X10_turnError rfl rfl rfl (by decide +kernel) ⟨Nat.le_of_ble_eq_true rfl, Nat.le_of_ble_eq_true rfl⟩) (zqVR hK hP hN (z_c1 (a := []) (b := []) rfl) 0 rfl rfl) rfl rfl hl.1 rfl (lv_room (Nat.le_of_ble_eq_true rfl)) dX10_reason_15 ⟨Nat.le_of_ble_eq_true rfl, Nat.le_of_ble_eq_true rfl⟩) ?_
    refine lv_aload_n hx hb dX10_reason_18 rfl (lv_at hl 0 rfl) ?_
    refine lv_iconst (v := 1) hx hb dX10_reason_19 (by decide) ?_
    refine z_Ri (va_runV (As := [.int (1 : Int32)]) (rest := [.int (v.1 (58 + 2 * 0))]) ⟨hx, hb, hml, hown, hts⟩ (c_X10_turnError l D cA h0 h1 h2 h3 h4 h5 h6 h7 h8 h9 h10 h11 1 v (by decide)) (cwV 1 hts gX10_reason_X10_turnError rfl rfl rfl (by decide +kernel) ⟨Nat.le_of_ble_eq_true rfl, Nat.le_of_ble_eq_true rfl⟩) (zqVR hK hP hN (z_c1 (a := []) (b := []) rfl) 0 rfl rfl) rfl rfl hl.1 rfl (lv_room (Nat.le_of_ble_eq_true rfl)) dX10_reason_20 ⟨Nat.le_of_ble_eq_true rfl, Nat.le_of_ble_eq_true rfl⟩) ?_
    refine lv_isub hx hb dX10_reason_23 ?_
    refine z_Ri (va_runS (As := [.int ((v.1 (58 + 2 * 0)) - (v.1 (58 + 2 * 1)))]) (rest := []) ⟨hx, hb, hml, hown, hts⟩ (c_X10_sizeOf l D cA  ((v.1 (58 + 2 * 0)) - (v.1 (58 + 2 * 1)))) (va_cwS 1 hts gX10_reason_X10_sizeOf rfl rfl rfl (by decide +kernel) ⟨Nat.le_of_ble_eq_true rfl, Nat.le_of_ble_eq_true rfl⟩) (zqSR0 hK hN) rfl rfl hl.1 rfl (lv_room (Nat.le_of_ble_eq_true rfl)) dX10_reason_24 ⟨Nat.le_of_ble_eq_true rfl, Nat.le_of_ble_eq_true rfl⟩) ?_
    refine lv_aload_n hx hb dX10_reason_27 rfl (lv_at hl 0 rfl) ?_
    refine lv_iconst (v := 3) hx hb dX10_reason_28 (by decide) ?_
    refine z_Ri (va_runV (As := [.int (3 : Int32)]) (rest := [.int (fm_size ((v.1 (58 + 2 * 0)) - (v.1 (58 + 2 * 1))))]) ⟨hx, hb, hml, hown, hts⟩ (c_X10_setting l D cA h0 h1 h2 h3 h4 h5 h6 h7 h8 h9 h10 h11 3 v (by decide)) (cwV 1 hts gX10_reason_X10_setting rfl rfl rfl (by decide +kernel) ⟨Nat.le_of_ble_eq_true rfl, Nat.le_of_ble_eq_true rfl⟩) (zqVR hK hP hN (z_c1 (a := []) (b := []) rfl) 0 rfl rfl) rfl rfl hl.1 rfl (lv_room (Nat.le_of_ble_eq_true rfl)) dX10_reason_29 ⟨Nat.le_of_ble_eq_true rfl, Nat.le_of_ble_eq_true rfl⟩) ?_
    refine lv_icmp_le (tgt := 37) hx hb dX10_reason_32 (by decide) (fun c_2 => ?_) (fun c_2 => ?_)
    · skip
      refine lv_aload_n hx hb dX10_reason_37 rfl (lv_at hl 0 rfl) ?_
      refine z_Ri (va_runV (As := []) (rest := []) ⟨hx, hb, hml, hown, hts⟩ (c_X10_settled l D cA h0 h1 h2 h3 h4 h5 h6 h7 h8 h9 h10 h11 v) (cwV 0 hts gX10_reason_X10_settled rfl rfl rfl (by decide +kernel) ⟨Nat.le_of_ble_eq_true rfl, Nat.le_of_ble_eq_true rfl⟩) (zqVR hK hP hN (z_c1 (a := []) (b := []) rfl) 0 rfl rfl) rfl rfl hl.1 rfl (lv_room (Nat.le_of_ble_eq_true rfl)) dX10_reason_38 ⟨Nat.le_of_ble_eq_true rfl, Nat.le_of_ble_eq_true rfl⟩) ?_
      refine lv_aload_n hx hb dX10_reason_41 rfl (lv_at hl 0 rfl) ?_
      refine z_Ri (va_runV (As := []) (rest := [.int (fm_settled v.1)]) ⟨hx, hb, hml, hown, hts⟩ (c_X10_settledByMean l D cA h0 h1 h2 h3 h4 h5 h6 h7 h8 h9 h10 h11 v (hT c_1)) (cwV 0 hts gX10_reason_X10_settledByMean rfl rfl rfl (by decide +kernel) ⟨Nat.le_of_ble_eq_true rfl, Nat.le_of_ble_eq_true rfl⟩) (zqVR hK hP hN (z_c1 (a := []) (b := []) rfl) 0 rfl rfl) rfl rfl hl.1 rfl (lv_room (Nat.le_of_ble_eq_true rfl)) dX10_reason_42 ⟨Nat.le_of_ble_eq_true rfl, Nat.le_of_ble_eq_true rfl⟩) ?_
      refine lv_isub hx hb dX10_reason_45 ?_
      refine z_Ri (va_runS (As := [.int ((fm_settled v.1) - (fm_mean v.1 v.2.1))]) (rest := []) ⟨hx, hb, hml, hown, hts⟩ (c_X10_sizeOf l D cA  ((fm_settled v.1) - (fm_mean v.1 v.2.1))) (va_cwS 1 hts gX10_reason_X10_sizeOf rfl rfl rfl (by decide +kernel) ⟨Nat.le_of_ble_eq_true rfl, Nat.le_of_ble_eq_true rfl⟩) (zqSR0 hK hN) rfl rfl hl.1 rfl (lv_room (Nat.le_of_ble_eq_true rfl)) dX10_reason_46 ⟨Nat.le_of_ble_eq_true rfl, Nat.le_of_ble_eq_true rfl⟩) ?_
      refine lv_aload_n hx hb dX10_reason_49 rfl (lv_at hl 0 rfl) ?_
      refine lv_iconst (v := 4) hx hb dX10_reason_50 (by decide) ?_
      refine z_Ri (va_runV (As := [.int (4 : Int32)]) (rest := [.int (fm_size ((fm_settled v.1) - (fm_mean v.1 v.2.1)))]) ⟨hx, hb, hml, hown, hts⟩ (c_X10_setting l D cA h0 h1 h2 h3 h4 h5 h6 h7 h8 h9 h10 h11 4 v (by decide)) (cwV 1 hts gX10_reason_X10_setting rfl rfl rfl (by decide +kernel) ⟨Nat.le_of_ble_eq_true rfl, Nat.le_of_ble_eq_true rfl⟩) (zqVR hK hP hN (z_c1 (a := []) (b := []) rfl) 0 rfl rfl) rfl rfl hl.1 rfl (lv_room (Nat.le_of_ble_eq_true rfl)) dX10_reason_51 ⟨Nat.le_of_ble_eq_true rfl, Nat.le_of_ble_eq_true rfl⟩) ?_
      refine lv_icmp_le (tgt := 59) hx hb dX10_reason_54 (by decide) (fun c_3 => ?_) (fun c_3 => ?_)
      · skip
        refine lv_aload_n hx hb dX10_reason_59 rfl (lv_at hl 0 rfl) ?_
        refine va_get (D := D) (ci := 10) (v := .ref h1) (C := RX10) (T := TX10) (N := 16) hx hb hts hinX10 hown hK hP 0 rfl rfl 0 (by decide) (hts (.fieldLink RX10 7 "GyroTrainerModel" "at" "[I") (List.mem_of_getElem? (i := 1) rfl)) (fun _ h9 => h9) rfl dX10_reason_60 ?_
        refine lv_bipush (v := 15) hx hb dX10_reason_63 (by decide) ?_
        refine z_iald (k := 15) hx hb hK hP 1 1 rfl rfl rfl (by decide) (by decide) dX10_reason_65 ?_
        refine lv_iconst (v := 3) hx hb dX10_reason_66 (by decide) ?_
        refine lv_icmp_ge (tgt := 72) hx hb dX10_reason_67 (by decide) (fun c_4 => ?_) (fun c_4 => ?_)
        · skip
          refine lv_bipush (v := 100) hx hb dX10_reason_72 (by decide) ?_
          refine lv_aload_n hx hb dX10_reason_74 rfl (lv_at hl 0 rfl) ?_
          refine lv_iconst (v := 3) hx hb dX10_reason_75 (by decide) ?_
          refine z_Ri (va_runV (As := [.int (3 : Int32)]) (rest := [.int (100 : Int32)]) ⟨hx, hb, hml, hown, hts⟩ (c_X10_checksSum l D cA h0 h1 h2 h3 h4 h5 h6 h7 h8 h9 h10 h11 v 3 (by decide)) (cwV 1 hts gX10_reason_X10_checksSum rfl rfl rfl (by decide +kernel) ⟨Nat.le_of_ble_eq_true rfl, Nat.le_of_ble_eq_true rfl⟩) (zqVR hK hP hN (z_c1 (a := []) (b := []) rfl) 0 rfl rfl) rfl rfl hl.1 rfl (lv_room (Nat.le_of_ble_eq_true rfl)) dX10_reason_76 ⟨Nat.le_of_ble_eq_true rfl, Nat.le_of_ble_eq_true rfl⟩) ?_
          refine lv_iconst (v := 3) hx hb dX10_reason_79 (by decide) ?_
          refine lv_idiv hx hb dX10_reason_80 (by decide) ?_
          refine lv_imul hx hb dX10_reason_81 ?_
          refine lv_aload_n hx hb dX10_reason_82 rfl (lv_at hl 0 rfl) ?_
          refine z_Ri (va_runV (As := []) (rest := [.int ((100 : Int32) * ((fm_csum v.1 3) / (3 : Int32)))]) ⟨hx, hb, hml, hown, hts⟩ (c_X10_settled l D cA h0 h1 h2 h3 h4 h5 h6 h7 h8 h9 h10 h11 v) (cwV 0 hts gX10_reason_X10_settled rfl rfl rfl (by decide +kernel) ⟨Nat.le_of_ble_eq_true rfl, Nat.le_of_ble_eq_true rfl⟩) (zqVR hK hP hN (z_c1 (a := []) (b := []) rfl) 0 rfl rfl) rfl rfl hl.1 rfl (lv_room (Nat.le_of_ble_eq_true rfl)) dX10_reason_83 ⟨Nat.le_of_ble_eq_true rfl, Nat.le_of_ble_eq_true rfl⟩) ?_
          refine lv_isub hx hb dX10_reason_86 ?_
          refine z_Ri (va_runS (As := [.int (((100 : Int32) * ((fm_csum v.1 3) / (3 : Int32))) - (fm_settled v.1))]) (rest := []) ⟨hx, hb, hml, hown, hts⟩ (c_X10_sizeOf l D cA  (((100 : Int32) * ((fm_csum v.1 3) / (3 : Int32))) - (fm_settled v.1))) (va_cwS 1 hts gX10_reason_X10_sizeOf rfl rfl rfl (by decide +kernel) ⟨Nat.le_of_ble_eq_true rfl, Nat.le_of_ble_eq_true rfl⟩) (zqSR0 hK hN) rfl rfl hl.1 rfl (lv_room (Nat.le_of_ble_eq_true rfl)) dX10_reason_87 ⟨Nat.le_of_ble_eq_true rfl, Nat.le_of_ble_eq_true rfl⟩) ?_
          refine lv_aload_n hx hb dX10_reason_90 rfl (lv_at hl 0 rfl) ?_
          refine lv_iconst (v := 5) hx hb dX10_reason_91 (by decide) ?_
          refine z_Ri (va_runV (As := [.int (5 : Int32)]) (rest := [.int (fm_size (((100 : Int32) * ((fm_csum v.1 3) / (3 : Int32))) - (fm_settled v.1)))]) ⟨hx, hb, hml, hown, hts⟩ (c_X10_setting l D cA h0 h1 h2 h3 h4 h5 h6 h7 h8 h9 h10 h11 5 v (by decide)) (cwV 1 hts gX10_reason_X10_setting rfl rfl rfl (by decide +kernel) ⟨Nat.le_of_ble_eq_true rfl, Nat.le_of_ble_eq_true rfl⟩) (zqVR hK hP hN (z_c1 (a := []) (b := []) rfl) 0 rfl rfl) rfl rfl hl.1 rfl (lv_room (Nat.le_of_ble_eq_true rfl)) dX10_reason_92 ⟨Nat.le_of_ble_eq_true rfl, Nat.le_of_ble_eq_true rfl⟩) ?_
          refine lv_icmp_le (tgt := 100) hx hb dX10_reason_95 (by decide) (fun c_5 => ?_) (fun c_5 => ?_)
          · skip
            refine lv_aload_n hx hb dX10_reason_100 rfl (lv_at hl 0 rfl) ?_
            refine z_Ri (va_runV (As := []) (rest := []) ⟨hx, hb, hml, hown, hts⟩ (c_X10_settled l D cA h0 h1 h2 h3 h4 h5 h6 h7 h8 h9 h10 h11 v) (cwV 0 hts gX10_reason_X10_settled rfl rfl rfl (by decide +kernel) ⟨Nat.le_of_ble_eq_true rfl, Nat.le_of_ble_eq_true rfl⟩) (zqVR hK hP hN (z_c1 (a := []) (b := []) rfl) 0 rfl rfl) rfl rfl hl.1 rfl (lv_room (Nat.le_of_ble_eq_true rfl)) dX10_reason_101 ⟨Nat.le_of_ble_eq_true rfl, Nat.le_of_ble_eq_true rfl⟩) ?_
            refine z_Ri (va_runS (As := [.int (fm_settled v.1)]) (rest := []) ⟨hx, hb, hml, hown, hts⟩ (c_X10_sizeOf l D cA  (fm_settled v.1)) (va_cwS 1 hts gX10_reason_X10_sizeOf rfl rfl rfl (by decide +kernel) ⟨Nat.le_of_ble_eq_true rfl, Nat.le_of_ble_eq_true rfl⟩) (zqSR0 hK hN) rfl rfl hl.1 rfl (lv_room (Nat.le_of_ble_eq_true rfl)) dX10_reason_104 ⟨Nat.le_of_ble_eq_true rfl, Nat.le_of_ble_eq_true rfl⟩) ?_
            refine lv_aload_n hx hb dX10_reason_107 rfl (lv_at hl 0 rfl) ?_
            refine lv_iconst (v := 5) hx hb dX10_reason_108 (by decide) ?_
            refine z_Ri (va_runV (As := [.int (5 : Int32)]) (rest := [.int (fm_size (fm_settled v.1))]) ⟨hx, hb, hml, hown, hts⟩ (c_X10_setting l D cA h0 h1 h2 h3 h4 h5 h6 h7 h8 h9 h10 h11 5 v (by decide)) (cwV 1 hts gX10_reason_X10_setting rfl rfl rfl (by decide +kernel) ⟨Nat.le_of_ble_eq_true rfl, Nat.le_of_ble_eq_true rfl⟩) (zqVR hK hP hN (z_c1 (a := []) (b := []) rfl) 0 rfl rfl) rfl rfl hl.1 rfl (lv_room (Nat.le_of_ble_eq_true rfl)) dX10_reason_109 ⟨Nat.le_of_ble_eq_true rfl, Nat.le_of_ble_eq_true rfl⟩) ?_
            refine lv_icmp_le (tgt := 120) hx hb dX10_reason_112 (by decide) (fun c_6 => ?_) (fun c_6 => ?_)
            · skip
              refine lv_aload_n hx hb dX10_reason_120 rfl (lv_at hl 0 rfl) ?_
              refine va_get (D := D) (ci := 10) (v := .ref h1) (C := RX10) (T := TX10) (N := 16) hx hb hts hinX10 hown hK hP 0 rfl rfl 0 (by decide) (hts (.fieldLink RX10 7 "GyroTrainerModel" "at" "[I") (List.mem_of_getElem? (i := 1) rfl)) (fun _ h9 => h9) rfl dX10_reason_121 ?_
              refine lv_bipush (v := 8) hx hb dX10_reason_124 (by decide) ?_
              refine z_iald (k := 8) hx hb hK hP 1 1 rfl rfl rfl (by decide) (by decide) dX10_reason_126 ?_
              refine lv_if_ne (tgt := 135) hx hb dX10_reason_127 (by decide) (fun c_7 => ?_) (fun c_7 => ?_)
              · skip
                refine lv_iconst (v := 0) hx hb dX10_reason_135 (by decide) ?_
                have e9 : (fm_reason v.1 v.2.1) = (0 : Int32) := by unfold fm_reason; simp only [if_pos c_1, if_pos c_2, if_pos c_3, if_pos c_4, if_pos c_5, if_pos c_6, if_neg c_7] <;> rfl
                subst hQ
                exact W.iret (v := (0 : Int32)) hx hb hr (fun t ht hW => ⟨_, rfl, e9.symm, ht⟩) (fun q h => by cases h) dX10_reason_136
              · skip
                refine lv_bipush (v := 7) hx hb dX10_reason_130 (by decide) ?_
                refine lv_goto (tgt := 136) hx hb dX10_reason_132 (by decide) ?_
                have e9 : (fm_reason v.1 v.2.1) = (7 : Int32) := by unfold fm_reason; simp only [if_pos c_1, if_pos c_2, if_pos c_3, if_pos c_4, if_pos c_5, if_pos c_6, if_pos c_7] <;> rfl
                subst hQ
                exact W.iret (v := (7 : Int32)) hx hb hr (fun t ht hW => ⟨_, rfl, e9.symm, ht⟩) (fun q h => by cases h) dX10_reason_136
            · skip
              refine lv_bipush (v := 6) hx hb dX10_reason_115 (by decide) ?_
              refine lv_goto (tgt := 136) hx hb dX10_reason_117 (by decide) ?_
              have e9 : (fm_reason v.1 v.2.1) = (6 : Int32) := by unfold fm_reason; simp only [if_pos c_1, if_pos c_2, if_pos c_3, if_pos c_4, if_pos c_5, if_neg c_6] <;> rfl
              subst hQ
              exact W.iret (v := (6 : Int32)) hx hb hr (fun t ht hW => ⟨_, rfl, e9.symm, ht⟩) (fun q h => by cases h) dX10_reason_136
          · skip
            refine lv_iconst (v := 5) hx hb dX10_reason_98 (by decide) ?_
            have e9 : (fm_reason v.1 v.2.1) = (5 : Int32) := by unfold fm_reason; simp only [if_pos c_1, if_pos c_2, if_pos c_3, if_pos c_4, if_neg c_5] <;> rfl
            subst hQ
            exact W.iret (v := (5 : Int32)) hx hb hr (fun t ht hW => ⟨_, rfl, e9.symm, ht⟩) (fun q h => by cases h) dX10_reason_99
        · skip
          refine lv_iconst (v := 4) hx hb dX10_reason_70 (by decide) ?_
          have e9 : (fm_reason v.1 v.2.1) = (4 : Int32) := by unfold fm_reason; simp only [if_pos c_1, if_pos c_2, if_pos c_3, if_neg c_4] <;> rfl
          subst hQ
          exact W.iret (v := (4 : Int32)) hx hb hr (fun t ht hW => ⟨_, rfl, e9.symm, ht⟩) (fun q h => by cases h) dX10_reason_71
      · skip
        refine lv_iconst (v := 3) hx hb dX10_reason_57 (by decide) ?_
        have e9 : (fm_reason v.1 v.2.1) = (3 : Int32) := by unfold fm_reason; simp only [if_pos c_1, if_pos c_2, if_neg c_3] <;> rfl
        subst hQ
        exact W.iret (v := (3 : Int32)) hx hb hr (fun t ht hW => ⟨_, rfl, e9.symm, ht⟩) (fun q h => by cases h) dX10_reason_58
    · skip
      refine lv_iconst (v := 2) hx hb dX10_reason_35 (by decide) ?_
      have e9 : (fm_reason v.1 v.2.1) = (2 : Int32) := by unfold fm_reason; simp only [if_pos c_1, if_neg c_2] <;> rfl
      subst hQ
      exact W.iret (v := (2 : Int32)) hx hb hr (fun t ht hW => ⟨_, rfl, e9.symm, ht⟩) (fun q h => by cases h) dX10_reason_36
  · skip
    refine lv_iconst (v := 1) hx hb dX10_reason_11 (by decide) ?_
    have e9 : (fm_reason v.1 v.2.1) = (1 : Int32) := by unfold fm_reason; simp only [if_neg c_1] <;> rfl
    subst hQ
    exact W.iret (v := (1 : Int32)) hx hb hr (fun t ht hW => ⟨_, rfl, e9.symm, ht⟩) (fun q h => by cases h) dX10_reason_12
set_option maxHeartbeats 4000000 in
set_option maxRecDepth 100000 in
theorem c_X10_state (l : Launch) (D : va_G) (cA : Nat → ClassId) (h0 h1 h2 h3 h4 h5 h6 h7 h8 h9 h10 h11 : Nat) (v : vX10) (x1 : Int32)  : Met l yX10_state wsX10_state ({ frames := 1, cells := 0, slots := 0, locals := 22 }) (va_Pc [.ref h0, .int x1] (zPreR D (zty cA) (wX10 cA h0 h1 h2 h3 h4 h5 h6 h7 h8 h9 h10 h11 v))) (vp_Si (fun x => x = (fm_state v.1 v.2.2.2.2.2.2.1 v.2.2.2.2.2.2.2.2.2.2.2.1 x1))) 0 0 (fun _ => False) := by
  refine Met.ofW (cc := cX10_state) (maxL := 2) (ret := (some .int)) (by decide) rfl ?_
  intro p e s m args below meth c s₁ B hml hv
  obtain ⟨rfl, hP, hK, hN⟩ := hv
  have hx := B.exec
  have hb := B.bytes
  have hr := B.returns
  have hts := atoms_spec (ws := wsX10_state) B.pre
  have hown : s.vm.findClass RX10 = some m.cls := findClass_of_methodNamed B.named
  have hlocks := B.notSynchronized
  have hinX10 : ∀ w ∈ u_ws RX10 TX10 16, w ∈ wsX10_state := fun w h => List.mem_cons_of_mem _ (List.mem_append_right _ h)
  have hP : va_P D vwCl [(h0, .inr (10, [.ref h1, .ref h2, .ref h3, .ref h4, .ref h5, .ref h6, .int v.2.2.2.2.2.2.1, .ref h7, .ref h8, .ref h9, .ref h10, .int v.2.2.2.2.2.2.2.2.2.2.2.1, .int v.2.2.2.2.2.2.2.2.2.2.2.2.1, .int v.2.2.2.2.2.2.2.2.2.2.2.2.2.1, .ref h11, .int v.2.2.2.2.2.2.2.2.2.2.2.2.2.2.2])), (h1, .inl ((cA 1), 85, .inl v.1)), (h2, .inl ((cA 0), 9, .inr (.inl v.2.1))), (h3, .inl ((cA 1), 85, .inl v.2.2.1)), (h4, .inl ((cA 0), 9, .inr (.inl v.2.2.2.1))), (h5, .inl ((cA 1), 510, .inl v.2.2.2.2.1)), (h6, .inl ((cA 0), 54, .inr (.inl v.2.2.2.2.2.1))), (h7, .inl ((cA 1), 170, .inl v.2.2.2.2.2.2.2.1)), (h8, .inl ((cA 0), 18, .inr (.inl v.2.2.2.2.2.2.2.2.1))), (h9, .inl ((cA 2), 2, .inl v.2.2.2.2.2.2.2.2.2.1)), (h10, .inl ((cA 1), 80, .inl v.2.2.2.2.2.2.2.2.2.2.1)), (h11, .inl ((cA 1), 60, .inl v.2.2.2.2.2.2.2.2.2.2.2.2.2.2.1))] s.heap := hP
  have hl := lv_entry ([.ref h0, .int x1]) (n := 2) (Nat.le_of_ble_eq_true rfl)
  rw [lg_entry_eq]
  generalize (lg_sl ([.ref h0, .int x1]) ++ List.replicate (2 - (lg_sl ([.ref h0, .int x1])).length) Slot.unset).toArray = ls at hl ⊢
  have hl : lv_has ls 2 [(0, .ref h0), (1, .int x1)] := hl
  refine z_genQ (fun Q hQ => ?_)
  refine lv_iload_n hx hb dX10_state_0 rfl (lv_at hl 1 rfl) ?_
  refine lv_bipush (v := 8) hx hb dX10_state_1 (by decide) ?_
  refine lv_bipush (v := 12) hx hb dX10_state_3 (by decide) ?_
  refine z_Ri (va_runS (As := [.int x1, .int (8 : Int32), .int (12 : Int32)]) (rest := []) ⟨hx, hb, hml, hown, hts⟩ (c_X10_in l D cA  x1 (8 : Int32) (12 : Int32)) (va_cwS 3 hts gX10_state_X10_in rfl rfl rfl (by decide +kernel) ⟨Nat.le_of_ble_eq_true rfl, Nat.le_of_ble_eq_true rfl⟩) (zqSR0 hK hN) rfl rfl hl.1 rfl (lv_room (Nat.le_of_ble_eq_true rfl)) dX10_state_5 ⟨Nat.le_of_ble_eq_true rfl, Nat.le_of_ble_eq_true rfl⟩) ?_
  refine lv_if_eq (tgt := 24) hx hb dX10_state_8 (by decide) (fun c_1 => ?_) (fun c_1 => ?_)
  · skip
    refine lv_iload_n hx hb dX10_state_24 rfl (lv_at hl 1 rfl) ?_
    refine lv_bipush (v := 22) hx hb dX10_state_25 (by decide) ?_
    refine lv_bipush (v := 30) hx hb dX10_state_27 (by decide) ?_
    refine z_Ri (va_runS (As := [.int x1, .int (22 : Int32), .int (30 : Int32)]) (rest := []) ⟨hx, hb, hml, hown, hts⟩ (c_X10_in l D cA  x1 (22 : Int32) (30 : Int32)) (va_cwS 3 hts gX10_state_X10_in rfl rfl rfl (by decide +kernel) ⟨Nat.le_of_ble_eq_true rfl, Nat.le_of_ble_eq_true rfl⟩) (zqSR0 hK hN) rfl rfl hl.1 rfl (lv_room (Nat.le_of_ble_eq_true rfl)) dX10_state_29 ⟨Nat.le_of_ble_eq_true rfl, Nat.le_of_ble_eq_true rfl⟩) ?_
    refine lv_if_eq (tgt := 44) hx hb dX10_state_32 (by decide) (fun c_2 => ?_) (fun c_2 => ?_)
    · skip
      refine lv_iload_n hx hb dX10_state_44 rfl (lv_at hl 1 rfl) ?_
      rcases z_sw x1 0 21 with c_3 | ⟨j, hj, c_3⟩
      · skip
        refine lv_tableOut (tgt := 307) hx hb dX10_state_45 c_3 (by decide) ?_
        refine lv_bipush (v := -2) hx hb dX10_state_307 (by decide) ?_
        have e9 : (fm_state v.1 v.2.2.2.2.2.2.1 v.2.2.2.2.2.2.2.2.2.2.2.1 x1) = (-2 : Int32) := by unfold fm_state; simp only [if_pos c_1, if_pos c_2, if_neg (z_out c_3 (0 : Int32) (by decide)), if_neg (z_out c_3 (1 : Int32) (by decide)), if_neg (z_out c_3 (2 : Int32) (by decide)), if_neg (z_out c_3 (3 : Int32) (by decide)), if_neg (z_out c_3 (4 : Int32) (by decide)), if_neg (z_out c_3 (5 : Int32) (by decide)), if_neg (z_out c_3 (6 : Int32) (by decide)), if_neg (z_out c_3 (7 : Int32) (by decide)), if_neg (z_out c_3 (13 : Int32) (by decide)), if_neg (z_out c_3 (14 : Int32) (by decide)), if_neg (z_out c_3 (15 : Int32) (by decide)), if_neg (z_out c_3 (16 : Int32) (by decide)), if_neg (z_out c_3 (17 : Int32) (by decide)), if_neg (z_out c_3 (18 : Int32) (by decide)), if_neg (z_out c_3 (19 : Int32) (by decide)), if_neg (z_out c_3 (20 : Int32) (by decide)), if_neg (z_out c_3 (21 : Int32) (by decide))] <;> rfl
        subst hQ
        exact W.iret (v := (-2 : Int32)) hx hb hr (fun t ht hW => ⟨_, rfl, e9.symm, ht⟩) (fun q h => by cases h) dX10_state_309
      · skip
        have hj2 : j = 0 ∨ j = 1 ∨ j = 2 ∨ j = 3 ∨ j = 4 ∨ j = 5 ∨ j = 6 ∨ j = 7 ∨ j = 8 ∨ j = 9 ∨ j = 10 ∨ j = 11 ∨ j = 12 ∨ j = 13 ∨ j = 14 ∨ j = 15 ∨ j = 16 ∨ j = 17 ∨ j = 18 ∨ j = 19 ∨ j = 20 ∨ j = 21 := by omega
        rcases hj2 with rfl | rfl | rfl | rfl | rfl | rfl | rfl | rfl | rfl | rfl | rfl | rfl | rfl | rfl | rfl | rfl | rfl | rfl | rfl | rfl | rfl | rfl
        · skip
          have c_3 : x1 = 0 := c_3.trans (by decide)
          refine lv_tableIn (tgt := 148) (off := 103) hx hb dX10_state_45 (by rw [c_3]; decide) (by rw [c_3]; decide) (by rw [c_3]; decide) (by decide) ?_
          refine lv_aload_n hx hb dX10_state_148 rfl (lv_at hl 0 rfl) ?_
          refine va_get (D := D) (ci := 10) (v := .ref h1) (C := RX10) (T := TX10) (N := 16) hx hb hts hinX10 hown hK hP 0 rfl rfl 0 (by decide) (hts (.fieldLink RX10 7 "GyroTrainerModel" "at" "[I") (List.mem_of_getElem? (i := 1) rfl)) (fun _ h9 => h9) rfl dX10_state_149 ?_
          refine lv_bipush (v := 10) hx hb dX10_state_152 (by decide) ?_
          refine z_iald (k := 10) hx hb hK hP 1 1 rfl rfl rfl (by decide) (by decide) dX10_state_154 ?_
          have e9 : (fm_state v.1 v.2.2.2.2.2.2.1 v.2.2.2.2.2.2.2.2.2.2.2.1 x1) = (v.1 10) := by unfold fm_state; simp only [if_pos c_1, if_pos c_2, if_pos c_3] <;> rfl
          subst hQ
          exact W.iret (v := (v.1 10)) hx hb hr (fun t ht hW => ⟨_, rfl, e9.symm, ht⟩) (fun q h => by cases h) dX10_state_155
        · skip
          have c_3 : x1 = 1 := c_3.trans (by decide)
          refine lv_tableIn (tgt := 156) (off := 111) hx hb dX10_state_45 (by rw [c_3]; decide) (by rw [c_3]; decide) (by rw [c_3]; decide) (by decide) ?_
          refine lv_aload_n hx hb dX10_state_156 rfl (lv_at hl 0 rfl) ?_
          refine z_Ri (va_runV (As := []) (rest := []) ⟨hx, hb, hml, hown, hts⟩ (c_X10_course l D cA h0 h1 h2 h3 h4 h5 h6 h7 h8 h9 h10 h11 v) (cwV 0 hts gX10_state_X10_course rfl rfl rfl (by decide +kernel) ⟨Nat.le_of_ble_eq_true rfl, Nat.le_of_ble_eq_true rfl⟩) (zqVR hK hP hN (z_c1 (a := []) (b := []) rfl) 0 rfl rfl) rfl rfl hl.1 rfl (lv_room (Nat.le_of_ble_eq_true rfl)) dX10_state_157 ⟨Nat.le_of_ble_eq_true rfl, Nat.le_of_ble_eq_true rfl⟩) ?_
          have e9 : (fm_state v.1 v.2.2.2.2.2.2.1 v.2.2.2.2.2.2.2.2.2.2.2.1 x1) = (fm_course v.1) := by unfold fm_state; simp only [if_pos c_1, if_pos c_2, if_neg (show ¬ x1 = (0 : Int32) from fun h => absurd (c_3.symm.trans h) (by decide)), if_pos c_3] <;> rfl
          subst hQ
          exact W.iret (v := (fm_course v.1)) hx hb hr (fun t ht hW => ⟨_, rfl, e9.symm, ht⟩) (fun q h => by cases h) dX10_state_160
        · skip
          have c_3 : x1 = 2 := c_3.trans (by decide)
          refine lv_tableIn (tgt := 161) (off := 116) hx hb dX10_state_45 (by rw [c_3]; decide) (by rw [c_3]; decide) (by rw [c_3]; decide) (by decide) ?_
          refine lv_aload_n hx hb dX10_state_161 rfl (lv_at hl 0 rfl) ?_
          refine z_Ri (va_runV (As := []) (rest := []) ⟨hx, hb, hml, hown, hts⟩ (c_X10_speed l D cA h0 h1 h2 h3 h4 h5 h6 h7 h8 h9 h10 h11 v) (cwV 0 hts gX10_state_X10_speed rfl rfl rfl (by decide +kernel) ⟨Nat.le_of_ble_eq_true rfl, Nat.le_of_ble_eq_true rfl⟩) (zqVR hK hP hN (z_c1 (a := []) (b := []) rfl) 0 rfl rfl) rfl rfl hl.1 rfl (lv_room (Nat.le_of_ble_eq_true rfl)) dX10_state_162 ⟨Nat.le_of_ble_eq_true rfl, Nat.le_of_ble_eq_true rfl⟩) ?_
          have e9 : (fm_state v.1 v.2.2.2.2.2.2.1 v.2.2.2.2.2.2.2.2.2.2.2.1 x1) = (fm_speed v.1) := by unfold fm_state; simp only [if_pos c_1, if_pos c_2, if_neg (show ¬ x1 = (0 : Int32) from fun h => absurd (c_3.symm.trans h) (by decide)), if_neg (show ¬ x1 = (1 : Int32) from fun h => absurd (c_3.symm.trans h) (by decide)), if_pos c_3] <;> rfl
          subst hQ
          exact W.iret (v := (fm_speed v.1)) hx hb hr (fun t ht hW => ⟨_, rfl, e9.symm, ht⟩) (fun q h => by cases h) dX10_state_165
        · skip
          have c_3 : x1 = 3 := c_3.trans (by decide)
          refine lv_tableIn (tgt := 166) (off := 121) hx hb dX10_state_45 (by rw [c_3]; decide) (by rw [c_3]; decide) (by rw [c_3]; decide) (by decide) ?_
          refine lv_aload_n hx hb dX10_state_166 rfl (lv_at hl 0 rfl) ?_
          refine va_get (D := D) (ci := 10) (v := .ref h1) (C := RX10) (T := TX10) (N := 16) hx hb hts hinX10 hown hK hP 0 rfl rfl 0 (by decide) (hts (.fieldLink RX10 7 "GyroTrainerModel" "at" "[I") (List.mem_of_getElem? (i := 1) rfl)) (fun _ h9 => h9) rfl dX10_state_167 ?_
          refine lv_iconst (v := 3) hx hb dX10_state_170 (by decide) ?_
          refine z_iald (k := 3) hx hb hK hP 1 1 rfl rfl rfl (by decide) (by decide) dX10_state_171 ?_
          have e9 : (fm_state v.1 v.2.2.2.2.2.2.1 v.2.2.2.2.2.2.2.2.2.2.2.1 x1) = (v.1 3) := by unfold fm_state; simp only [if_pos c_1, if_pos c_2, if_neg (show ¬ x1 = (0 : Int32) from fun h => absurd (c_3.symm.trans h) (by decide)), if_neg (show ¬ x1 = (1 : Int32) from fun h => absurd (c_3.symm.trans h) (by decide)), if_neg (show ¬ x1 = (2 : Int32) from fun h => absurd (c_3.symm.trans h) (by decide)), if_pos c_3] <;> rfl
          subst hQ
          exact W.iret (v := (v.1 3)) hx hb hr (fun t ht hW => ⟨_, rfl, e9.symm, ht⟩) (fun q h => by cases h) dX10_state_172
        · skip
          have c_3 : x1 = 4 := c_3.trans (by decide)
          refine lv_tableIn (tgt := 173) (off := 128) hx hb dX10_state_45 (by rw [c_3]; decide) (by rw [c_3]; decide) (by rw [c_3]; decide) (by decide) ?_
          refine lv_aload_n hx hb dX10_state_173 rfl (lv_at hl 0 rfl) ?_
          refine va_get (D := D) (ci := 10) (v := .ref h1) (C := RX10) (T := TX10) (N := 16) hx hb hts hinX10 hown hK hP 0 rfl rfl 0 (by decide) (hts (.fieldLink RX10 7 "GyroTrainerModel" "at" "[I") (List.mem_of_getElem? (i := 1) rfl)) (fun _ h9 => h9) rfl dX10_state_174 ?_
          refine lv_iconst (v := 3) hx hb dX10_state_177 (by decide) ?_
          refine z_iald (k := 3) hx hb hK hP 1 1 rfl rfl rfl (by decide) (by decide) dX10_state_178 ?_
          refine lv_if_ne (tgt := 186) hx hb dX10_state_179 (by decide) (fun c_4 => ?_) (fun c_4 => ?_)
          · skip
            refine lv_aload_n hx hb dX10_state_186 rfl (lv_at hl 0 rfl) ?_
            refine va_get (D := D) (ci := 10) (v := .ref h1) (C := RX10) (T := TX10) (N := 16) hx hb hts hinX10 hown hK hP 0 rfl rfl 0 (by decide) (hts (.fieldLink RX10 7 "GyroTrainerModel" "at" "[I") (List.mem_of_getElem? (i := 1) rfl)) (fun _ h9 => h9) rfl dX10_state_187 ?_
            refine lv_bipush (v := 36) hx hb dX10_state_190 (by decide) ?_
            refine z_iald (k := 36) hx hb hK hP 1 1 rfl rfl rfl (by decide) (by decide) dX10_state_192 ?_
            have e9 : (fm_state v.1 v.2.2.2.2.2.2.1 v.2.2.2.2.2.2.2.2.2.2.2.1 x1) = (v.1 36) := by unfold fm_state; simp only [if_pos c_1, if_pos c_2, if_neg (show ¬ x1 = (0 : Int32) from fun h => absurd (c_3.symm.trans h) (by decide)), if_neg (show ¬ x1 = (1 : Int32) from fun h => absurd (c_3.symm.trans h) (by decide)), if_neg (show ¬ x1 = (2 : Int32) from fun h => absurd (c_3.symm.trans h) (by decide)), if_neg (show ¬ x1 = (3 : Int32) from fun h => absurd (c_3.symm.trans h) (by decide)), if_pos c_3, if_neg c_4] <;> rfl
            subst hQ
            exact W.iret (v := (v.1 36)) hx hb hr (fun t ht hW => ⟨_, rfl, e9.symm, ht⟩) (fun q h => by cases h) dX10_state_193
          · skip
            refine lv_iconst (v := 0) hx hb dX10_state_182 (by decide) ?_
            refine lv_goto (tgt := 193) hx hb dX10_state_183 (by decide) ?_
            have e9 : (fm_state v.1 v.2.2.2.2.2.2.1 v.2.2.2.2.2.2.2.2.2.2.2.1 x1) = (0 : Int32) := by unfold fm_state; simp only [if_pos c_1, if_pos c_2, if_neg (show ¬ x1 = (0 : Int32) from fun h => absurd (c_3.symm.trans h) (by decide)), if_neg (show ¬ x1 = (1 : Int32) from fun h => absurd (c_3.symm.trans h) (by decide)), if_neg (show ¬ x1 = (2 : Int32) from fun h => absurd (c_3.symm.trans h) (by decide)), if_neg (show ¬ x1 = (3 : Int32) from fun h => absurd (c_3.symm.trans h) (by decide)), if_pos c_3, if_pos c_4] <;> rfl
            subst hQ
            exact W.iret (v := (0 : Int32)) hx hb hr (fun t ht hW => ⟨_, rfl, e9.symm, ht⟩) (fun q h => by cases h) dX10_state_193
        · skip
          have c_3 : x1 = 5 := c_3.trans (by decide)
          refine lv_tableIn (tgt := 194) (off := 149) hx hb dX10_state_45 (by rw [c_3]; decide) (by rw [c_3]; decide) (by rw [c_3]; decide) (by decide) ?_
          refine lv_aload_n hx hb dX10_state_194 rfl (lv_at hl 0 rfl) ?_
          refine va_get (D := D) (ci := 10) (v := .ref h1) (C := RX10) (T := TX10) (N := 16) hx hb hts hinX10 hown hK hP 0 rfl rfl 0 (by decide) (hts (.fieldLink RX10 7 "GyroTrainerModel" "at" "[I") (List.mem_of_getElem? (i := 1) rfl)) (fun _ h9 => h9) rfl dX10_state_195 ?_
          refine lv_bipush (v := 11) hx hb dX10_state_198 (by decide) ?_
          refine z_iald (k := 11) hx hb hK hP 1 1 rfl rfl rfl (by decide) (by decide) dX10_state_200 ?_
          have e9 : (fm_state v.1 v.2.2.2.2.2.2.1 v.2.2.2.2.2.2.2.2.2.2.2.1 x1) = (v.1 11) := by unfold fm_state; simp only [if_pos c_1, if_pos c_2, if_neg (show ¬ x1 = (0 : Int32) from fun h => absurd (c_3.symm.trans h) (by decide)), if_neg (show ¬ x1 = (1 : Int32) from fun h => absurd (c_3.symm.trans h) (by decide)), if_neg (show ¬ x1 = (2 : Int32) from fun h => absurd (c_3.symm.trans h) (by decide)), if_neg (show ¬ x1 = (3 : Int32) from fun h => absurd (c_3.symm.trans h) (by decide)), if_neg (show ¬ x1 = (4 : Int32) from fun h => absurd (c_3.symm.trans h) (by decide)), if_pos c_3] <;> rfl
          subst hQ
          exact W.iret (v := (v.1 11)) hx hb hr (fun t ht hW => ⟨_, rfl, e9.symm, ht⟩) (fun q h => by cases h) dX10_state_201
        · skip
          have c_3 : x1 = 6 := c_3.trans (by decide)
          refine lv_tableIn (tgt := 202) (off := 157) hx hb dX10_state_45 (by rw [c_3]; decide) (by rw [c_3]; decide) (by rw [c_3]; decide) (by decide) ?_
          refine lv_aload_n hx hb dX10_state_202 rfl (lv_at hl 0 rfl) ?_
          refine va_get (D := D) (ci := 10) (v := .ref h1) (C := RX10) (T := TX10) (N := 16) hx hb hts hinX10 hown hK hP 0 rfl rfl 0 (by decide) (hts (.fieldLink RX10 7 "GyroTrainerModel" "at" "[I") (List.mem_of_getElem? (i := 1) rfl)) (fun _ h9 => h9) rfl dX10_state_203 ?_
          refine lv_bipush (v := 8) hx hb dX10_state_206 (by decide) ?_
          refine z_iald (k := 8) hx hb hK hP 1 1 rfl rfl rfl (by decide) (by decide) dX10_state_208 ?_
          have e9 : (fm_state v.1 v.2.2.2.2.2.2.1 v.2.2.2.2.2.2.2.2.2.2.2.1 x1) = (v.1 8) := by unfold fm_state; simp only [if_pos c_1, if_pos c_2, if_neg (show ¬ x1 = (0 : Int32) from fun h => absurd (c_3.symm.trans h) (by decide)), if_neg (show ¬ x1 = (1 : Int32) from fun h => absurd (c_3.symm.trans h) (by decide)), if_neg (show ¬ x1 = (2 : Int32) from fun h => absurd (c_3.symm.trans h) (by decide)), if_neg (show ¬ x1 = (3 : Int32) from fun h => absurd (c_3.symm.trans h) (by decide)), if_neg (show ¬ x1 = (4 : Int32) from fun h => absurd (c_3.symm.trans h) (by decide)), if_neg (show ¬ x1 = (5 : Int32) from fun h => absurd (c_3.symm.trans h) (by decide)), if_pos c_3] <;> rfl
          subst hQ
          exact W.iret (v := (v.1 8)) hx hb hr (fun t ht hW => ⟨_, rfl, e9.symm, ht⟩) (fun q h => by cases h) dX10_state_209
        · skip
          have c_3 : x1 = 7 := c_3.trans (by decide)
          refine lv_tableIn (tgt := 210) (off := 165) hx hb dX10_state_45 (by rw [c_3]; decide) (by rw [c_3]; decide) (by rw [c_3]; decide) (by decide) ?_
          refine lv_aload_n hx hb dX10_state_210 rfl (lv_at hl 0 rfl) ?_
          refine va_get (D := D) (ci := 10) (v := .ref h1) (C := RX10) (T := TX10) (N := 16) hx hb hts hinX10 hown hK hP 0 rfl rfl 0 (by decide) (hts (.fieldLink RX10 7 "GyroTrainerModel" "at" "[I") (List.mem_of_getElem? (i := 1) rfl)) (fun _ h9 => h9) rfl dX10_state_211 ?_
          refine lv_bipush (v := 9) hx hb dX10_state_214 (by decide) ?_
          refine z_iald (k := 9) hx hb hK hP 1 1 rfl rfl rfl (by decide) (by decide) dX10_state_216 ?_
          refine lv_if_ge (tgt := 225) hx hb dX10_state_217 (by decide) (fun c_5 => ?_) (fun c_5 => ?_)
          · skip
            refine lv_aload_n hx hb dX10_state_225 rfl (lv_at hl 0 rfl) ?_
            refine va_get (D := D) (ci := 10) (v := .ref h1) (C := RX10) (T := TX10) (N := 16) hx hb hts hinX10 hown hK hP 0 rfl rfl 0 (by decide) (hts (.fieldLink RX10 7 "GyroTrainerModel" "at" "[I") (List.mem_of_getElem? (i := 1) rfl)) (fun _ h9 => h9) rfl dX10_state_226 ?_
            refine lv_bipush (v := 10) hx hb dX10_state_229 (by decide) ?_
            refine z_iald (k := 10) hx hb hK hP 1 1 rfl rfl rfl (by decide) (by decide) dX10_state_231 ?_
            refine lv_aload_n hx hb dX10_state_232 rfl (lv_at hl 0 rfl) ?_
            refine va_get (D := D) (ci := 10) (v := .ref h1) (C := RX10) (T := TX10) (N := 16) hx hb hts hinX10 hown hK hP 0 rfl rfl 0 (by decide) (hts (.fieldLink RX10 7 "GyroTrainerModel" "at" "[I") (List.mem_of_getElem? (i := 1) rfl)) (fun _ h9 => h9) rfl dX10_state_233 ?_
            refine lv_bipush (v := 9) hx hb dX10_state_236 (by decide) ?_
            refine z_iald (k := 9) hx hb hK hP 1 1 rfl rfl rfl (by decide) (by decide) dX10_state_238 ?_
            refine lv_isub hx hb dX10_state_239 ?_
            have e9 : (fm_state v.1 v.2.2.2.2.2.2.1 v.2.2.2.2.2.2.2.2.2.2.2.1 x1) = ((v.1 10) - (v.1 9)) := by unfold fm_state; simp only [if_pos c_1, if_pos c_2, if_neg (show ¬ x1 = (0 : Int32) from fun h => absurd (c_3.symm.trans h) (by decide)), if_neg (show ¬ x1 = (1 : Int32) from fun h => absurd (c_3.symm.trans h) (by decide)), if_neg (show ¬ x1 = (2 : Int32) from fun h => absurd (c_3.symm.trans h) (by decide)), if_neg (show ¬ x1 = (3 : Int32) from fun h => absurd (c_3.symm.trans h) (by decide)), if_neg (show ¬ x1 = (4 : Int32) from fun h => absurd (c_3.symm.trans h) (by decide)), if_neg (show ¬ x1 = (5 : Int32) from fun h => absurd (c_3.symm.trans h) (by decide)), if_neg (show ¬ x1 = (6 : Int32) from fun h => absurd (c_3.symm.trans h) (by decide)), if_pos c_3, if_pos c_5] <;> rfl
            subst hQ
            exact W.iret (v := ((v.1 10) - (v.1 9))) hx hb hr (fun t ht hW => ⟨_, rfl, e9.symm, ht⟩) (fun q h => by cases h) dX10_state_240
          · skip
            refine lv_bipush (v := -6) hx hb dX10_state_220 (by decide) ?_
            refine lv_goto (tgt := 240) hx hb dX10_state_222 (by decide) ?_
            have e9 : (fm_state v.1 v.2.2.2.2.2.2.1 v.2.2.2.2.2.2.2.2.2.2.2.1 x1) = (-6 : Int32) := by unfold fm_state; simp only [if_pos c_1, if_pos c_2, if_neg (show ¬ x1 = (0 : Int32) from fun h => absurd (c_3.symm.trans h) (by decide)), if_neg (show ¬ x1 = (1 : Int32) from fun h => absurd (c_3.symm.trans h) (by decide)), if_neg (show ¬ x1 = (2 : Int32) from fun h => absurd (c_3.symm.trans h) (by decide)), if_neg (show ¬ x1 = (3 : Int32) from fun h => absurd (c_3.symm.trans h) (by decide)), if_neg (show ¬ x1 = (4 : Int32) from fun h => absurd (c_3.symm.trans h) (by decide)), if_neg (show ¬ x1 = (5 : Int32) from fun h => absurd (c_3.symm.trans h) (by decide)), if_neg (show ¬ x1 = (6 : Int32) from fun h => absurd (c_3.symm.trans h) (by decide)), if_pos c_3, if_neg c_5] <;> rfl
            subst hQ
            exact W.iret (v := (-6 : Int32)) hx hb hr (fun t ht hW => ⟨_, rfl, e9.symm, ht⟩) (fun q h => by cases h) dX10_state_240
        · skip
          have c_3 : x1 = 8 := c_3.trans (by decide)
          refine lv_tableIn (tgt := 307) (off := 262) hx hb dX10_state_45 (by rw [c_3]; decide) (by rw [c_3]; decide) (by rw [c_3]; decide) (by decide) ?_
          refine lv_bipush (v := -2) hx hb dX10_state_307 (by decide) ?_
          have e9 : (fm_state v.1 v.2.2.2.2.2.2.1 v.2.2.2.2.2.2.2.2.2.2.2.1 x1) = (-2 : Int32) := by unfold fm_state; simp only [if_pos c_1, if_pos c_2, if_neg (show ¬ x1 = (0 : Int32) from fun h => absurd (c_3.symm.trans h) (by decide)), if_neg (show ¬ x1 = (1 : Int32) from fun h => absurd (c_3.symm.trans h) (by decide)), if_neg (show ¬ x1 = (2 : Int32) from fun h => absurd (c_3.symm.trans h) (by decide)), if_neg (show ¬ x1 = (3 : Int32) from fun h => absurd (c_3.symm.trans h) (by decide)), if_neg (show ¬ x1 = (4 : Int32) from fun h => absurd (c_3.symm.trans h) (by decide)), if_neg (show ¬ x1 = (5 : Int32) from fun h => absurd (c_3.symm.trans h) (by decide)), if_neg (show ¬ x1 = (6 : Int32) from fun h => absurd (c_3.symm.trans h) (by decide)), if_neg (show ¬ x1 = (7 : Int32) from fun h => absurd (c_3.symm.trans h) (by decide)), if_neg (show ¬ x1 = (13 : Int32) from fun h => absurd (c_3.symm.trans h) (by decide)), if_neg (show ¬ x1 = (14 : Int32) from fun h => absurd (c_3.symm.trans h) (by decide)), if_neg (show ¬ x1 = (15 : Int32) from fun h => absurd (c_3.symm.trans h) (by decide)), if_neg (show ¬ x1 = (16 : Int32) from fun h => absurd (c_3.symm.trans h) (by decide)), if_neg (show ¬ x1 = (17 : Int32) from fun h => absurd (c_3.symm.trans h) (by decide)), if_neg (show ¬ x1 = (18 : Int32) from fun h => absurd (c_3.symm.trans h) (by decide)), if_neg (show ¬ x1 = (19 : Int32) from fun h => absurd (c_3.symm.trans h) (by decide)), if_neg (show ¬ x1 = (20 : Int32) from fun h => absurd (c_3.symm.trans h) (by decide)), if_neg (show ¬ x1 = (21 : Int32) from fun h => absurd (c_3.symm.trans h) (by decide))] <;> rfl
          subst hQ
          exact W.iret (v := (-2 : Int32)) hx hb hr (fun t ht hW => ⟨_, rfl, e9.symm, ht⟩) (fun q h => by cases h) dX10_state_309
        · skip
          have c_3 : x1 = 9 := c_3.trans (by decide)
          refine lv_tableIn (tgt := 307) (off := 262) hx hb dX10_state_45 (by rw [c_3]; decide) (by rw [c_3]; decide) (by rw [c_3]; decide) (by decide) ?_
          refine lv_bipush (v := -2) hx hb dX10_state_307 (by decide) ?_
          have e9 : (fm_state v.1 v.2.2.2.2.2.2.1 v.2.2.2.2.2.2.2.2.2.2.2.1 x1) = (-2 : Int32) := by unfold fm_state; simp only [if_pos c_1, if_pos c_2, if_neg (show ¬ x1 = (0 : Int32) from fun h => absurd (c_3.symm.trans h) (by decide)), if_neg (show ¬ x1 = (1 : Int32) from fun h => absurd (c_3.symm.trans h) (by decide)), if_neg (show ¬ x1 = (2 : Int32) from fun h => absurd (c_3.symm.trans h) (by decide)), if_neg (show ¬ x1 = (3 : Int32) from fun h => absurd (c_3.symm.trans h) (by decide)), if_neg (show ¬ x1 = (4 : Int32) from fun h => absurd (c_3.symm.trans h) (by decide)), if_neg (show ¬ x1 = (5 : Int32) from fun h => absurd (c_3.symm.trans h) (by decide)), if_neg (show ¬ x1 = (6 : Int32) from fun h => absurd (c_3.symm.trans h) (by decide)), if_neg (show ¬ x1 = (7 : Int32) from fun h => absurd (c_3.symm.trans h) (by decide)), if_neg (show ¬ x1 = (13 : Int32) from fun h => absurd (c_3.symm.trans h) (by decide)), if_neg (show ¬ x1 = (14 : Int32) from fun h => absurd (c_3.symm.trans h) (by decide)), if_neg (show ¬ x1 = (15 : Int32) from fun h => absurd (c_3.symm.trans h) (by decide)), if_neg (show ¬ x1 = (16 : Int32) from fun h => absurd (c_3.symm.trans h) (by decide)), if_neg (show ¬ x1 = (17 : Int32) from fun h => absurd (c_3.symm.trans h) (by decide)), if_neg (show ¬ x1 = (18 : Int32) from fun h => absurd (c_3.symm.trans h) (by decide)), if_neg (show ¬ x1 = (19 : Int32) from fun h => absurd (c_3.symm.trans h) (by decide)), if_neg (show ¬ x1 = (20 : Int32) from fun h => absurd (c_3.symm.trans h) (by decide)), if_neg (show ¬ x1 = (21 : Int32) from fun h => absurd (c_3.symm.trans h) (by decide))] <;> rfl
          subst hQ
          exact W.iret (v := (-2 : Int32)) hx hb hr (fun t ht hW => ⟨_, rfl, e9.symm, ht⟩) (fun q h => by cases h) dX10_state_309
        · skip
          have c_3 : x1 = 10 := c_3.trans (by decide)
          refine lv_tableIn (tgt := 307) (off := 262) hx hb dX10_state_45 (by rw [c_3]; decide) (by rw [c_3]; decide) (by rw [c_3]; decide) (by decide) ?_
          refine lv_bipush (v := -2) hx hb dX10_state_307 (by decide) ?_
          have e9 : (fm_state v.1 v.2.2.2.2.2.2.1 v.2.2.2.2.2.2.2.2.2.2.2.1 x1) = (-2 : Int32) := by unfold fm_state; simp only [if_pos c_1, if_pos c_2, if_neg (show ¬ x1 = (0 : Int32) from fun h => absurd (c_3.symm.trans h) (by decide)), if_neg (show ¬ x1 = (1 : Int32) from fun h => absurd (c_3.symm.trans h) (by decide)), if_neg (show ¬ x1 = (2 : Int32) from fun h => absurd (c_3.symm.trans h) (by decide)), if_neg (show ¬ x1 = (3 : Int32) from fun h => absurd (c_3.symm.trans h) (by decide)), if_neg (show ¬ x1 = (4 : Int32) from fun h => absurd (c_3.symm.trans h) (by decide)), if_neg (show ¬ x1 = (5 : Int32) from fun h => absurd (c_3.symm.trans h) (by decide)), if_neg (show ¬ x1 = (6 : Int32) from fun h => absurd (c_3.symm.trans h) (by decide)), if_neg (show ¬ x1 = (7 : Int32) from fun h => absurd (c_3.symm.trans h) (by decide)), if_neg (show ¬ x1 = (13 : Int32) from fun h => absurd (c_3.symm.trans h) (by decide)), if_neg (show ¬ x1 = (14 : Int32) from fun h => absurd (c_3.symm.trans h) (by decide)), if_neg (show ¬ x1 = (15 : Int32) from fun h => absurd (c_3.symm.trans h) (by decide)), if_neg (show ¬ x1 = (16 : Int32) from fun h => absurd (c_3.symm.trans h) (by decide)), if_neg (show ¬ x1 = (17 : Int32) from fun h => absurd (c_3.symm.trans h) (by decide)), if_neg (show ¬ x1 = (18 : Int32) from fun h => absurd (c_3.symm.trans h) (by decide)), if_neg (show ¬ x1 = (19 : Int32) from fun h => absurd (c_3.symm.trans h) (by decide)), if_neg (show ¬ x1 = (20 : Int32) from fun h => absurd (c_3.symm.trans h) (by decide)), if_neg (show ¬ x1 = (21 : Int32) from fun h => absurd (c_3.symm.trans h) (by decide))] <;> rfl
          subst hQ
          exact W.iret (v := (-2 : Int32)) hx hb hr (fun t ht hW => ⟨_, rfl, e9.symm, ht⟩) (fun q h => by cases h) dX10_state_309
        · skip
          have c_3 : x1 = 11 := c_3.trans (by decide)
          refine lv_tableIn (tgt := 307) (off := 262) hx hb dX10_state_45 (by rw [c_3]; decide) (by rw [c_3]; decide) (by rw [c_3]; decide) (by decide) ?_
          refine lv_bipush (v := -2) hx hb dX10_state_307 (by decide) ?_
          have e9 : (fm_state v.1 v.2.2.2.2.2.2.1 v.2.2.2.2.2.2.2.2.2.2.2.1 x1) = (-2 : Int32) := by unfold fm_state; simp only [if_pos c_1, if_pos c_2, if_neg (show ¬ x1 = (0 : Int32) from fun h => absurd (c_3.symm.trans h) (by decide)), if_neg (show ¬ x1 = (1 : Int32) from fun h => absurd (c_3.symm.trans h) (by decide)), if_neg (show ¬ x1 = (2 : Int32) from fun h => absurd (c_3.symm.trans h) (by decide)), if_neg (show ¬ x1 = (3 : Int32) from fun h => absurd (c_3.symm.trans h) (by decide)), if_neg (show ¬ x1 = (4 : Int32) from fun h => absurd (c_3.symm.trans h) (by decide)), if_neg (show ¬ x1 = (5 : Int32) from fun h => absurd (c_3.symm.trans h) (by decide)), if_neg (show ¬ x1 = (6 : Int32) from fun h => absurd (c_3.symm.trans h) (by decide)), if_neg (show ¬ x1 = (7 : Int32) from fun h => absurd (c_3.symm.trans h) (by decide)), if_neg (show ¬ x1 = (13 : Int32) from fun h => absurd (c_3.symm.trans h) (by decide)), if_neg (show ¬ x1 = (14 : Int32) from fun h => absurd (c_3.symm.trans h) (by decide)), if_neg (show ¬ x1 = (15 : Int32) from fun h => absurd (c_3.symm.trans h) (by decide)), if_neg (show ¬ x1 = (16 : Int32) from fun h => absurd (c_3.symm.trans h) (by decide)), if_neg (show ¬ x1 = (17 : Int32) from fun h => absurd (c_3.symm.trans h) (by decide)), if_neg (show ¬ x1 = (18 : Int32) from fun h => absurd (c_3.symm.trans h) (by decide)), if_neg (show ¬ x1 = (19 : Int32) from fun h => absurd (c_3.symm.trans h) (by decide)), if_neg (show ¬ x1 = (20 : Int32) from fun h => absurd (c_3.symm.trans h) (by decide)), if_neg (show ¬ x1 = (21 : Int32) from fun h => absurd (c_3.symm.trans h) (by decide))] <;> rfl
          subst hQ
          exact W.iret (v := (-2 : Int32)) hx hb hr (fun t ht hW => ⟨_, rfl, e9.symm, ht⟩) (fun q h => by cases h) dX10_state_309
        · skip
          have c_3 : x1 = 12 := c_3.trans (by decide)
          refine lv_tableIn (tgt := 307) (off := 262) hx hb dX10_state_45 (by rw [c_3]; decide) (by rw [c_3]; decide) (by rw [c_3]; decide) (by decide) ?_
          refine lv_bipush (v := -2) hx hb dX10_state_307 (by decide) ?_
          have e9 : (fm_state v.1 v.2.2.2.2.2.2.1 v.2.2.2.2.2.2.2.2.2.2.2.1 x1) = (-2 : Int32) := by unfold fm_state; simp only [if_pos c_1, if_pos c_2, if_neg (show ¬ x1 = (0 : Int32) from fun h => absurd (c_3.symm.trans h) (by decide)), if_neg (show ¬ x1 = (1 : Int32) from fun h => absurd (c_3.symm.trans h) (by decide)), if_neg (show ¬ x1 = (2 : Int32) from fun h => absurd (c_3.symm.trans h) (by decide)), if_neg (show ¬ x1 = (3 : Int32) from fun h => absurd (c_3.symm.trans h) (by decide)), if_neg (show ¬ x1 = (4 : Int32) from fun h => absurd (c_3.symm.trans h) (by decide)), if_neg (show ¬ x1 = (5 : Int32) from fun h => absurd (c_3.symm.trans h) (by decide)), if_neg (show ¬ x1 = (6 : Int32) from fun h => absurd (c_3.symm.trans h) (by decide)), if_neg (show ¬ x1 = (7 : Int32) from fun h => absurd (c_3.symm.trans h) (by decide)), if_neg (show ¬ x1 = (13 : Int32) from fun h => absurd (c_3.symm.trans h) (by decide)), if_neg (show ¬ x1 = (14 : Int32) from fun h => absurd (c_3.symm.trans h) (by decide)), if_neg (show ¬ x1 = (15 : Int32) from fun h => absurd (c_3.symm.trans h) (by decide)), if_neg (show ¬ x1 = (16 : Int32) from fun h => absurd (c_3.symm.trans h) (by decide)), if_neg (show ¬ x1 = (17 : Int32) from fun h => absurd (c_3.symm.trans h) (by decide)), if_neg (show ¬ x1 = (18 : Int32) from fun h => absurd (c_3.symm.trans h) (by decide)), if_neg (show ¬ x1 = (19 : Int32) from fun h => absurd (c_3.symm.trans h) (by decide)), if_neg (show ¬ x1 = (20 : Int32) from fun h => absurd (c_3.symm.trans h) (by decide)), if_neg (show ¬ x1 = (21 : Int32) from fun h => absurd (c_3.symm.trans h) (by decide))] <;> rfl
          subst hQ
          exact W.iret (v := (-2 : Int32)) hx hb hr (fun t ht hW => ⟨_, rfl, e9.symm, ht⟩) (fun q h => by cases h) dX10_state_309
        · skip
          have c_3 : x1 = 13 := c_3.trans (by decide)
          refine lv_tableIn (tgt := 241) (off := 196) hx hb dX10_state_45 (by rw [c_3]; decide) (by rw [c_3]; decide) (by rw [c_3]; decide) (by decide) ?_
          refine lv_aload_n hx hb dX10_state_241 rfl (lv_at hl 0 rfl) ?_
          refine va_get (D := D) (ci := 10) (v := .ref h1) (C := RX10) (T := TX10) (N := 16) hx hb hts hinX10 hown hK hP 0 rfl rfl 0 (by decide) (hts (.fieldLink RX10 7 "GyroTrainerModel" "at" "[I") (List.mem_of_getElem? (i := 1) rfl)) (fun _ h9 => h9) rfl dX10_state_242 ?_
          refine lv_bipush (v := 13) hx hb dX10_state_245 (by decide) ?_
          refine z_iald (k := 13) hx hb hK hP 1 1 rfl rfl rfl (by decide) (by decide) dX10_state_247 ?_
          have e9 : (fm_state v.1 v.2.2.2.2.2.2.1 v.2.2.2.2.2.2.2.2.2.2.2.1 x1) = (v.1 13) := by unfold fm_state; simp only [if_pos c_1, if_pos c_2, if_neg (show ¬ x1 = (0 : Int32) from fun h => absurd (c_3.symm.trans h) (by decide)), if_neg (show ¬ x1 = (1 : Int32) from fun h => absurd (c_3.symm.trans h) (by decide)), if_neg (show ¬ x1 = (2 : Int32) from fun h => absurd (c_3.symm.trans h) (by decide)), if_neg (show ¬ x1 = (3 : Int32) from fun h => absurd (c_3.symm.trans h) (by decide)), if_neg (show ¬ x1 = (4 : Int32) from fun h => absurd (c_3.symm.trans h) (by decide)), if_neg (show ¬ x1 = (5 : Int32) from fun h => absurd (c_3.symm.trans h) (by decide)), if_neg (show ¬ x1 = (6 : Int32) from fun h => absurd (c_3.symm.trans h) (by decide)), if_neg (show ¬ x1 = (7 : Int32) from fun h => absurd (c_3.symm.trans h) (by decide)), if_pos c_3] <;> rfl
          subst hQ
          exact W.iret (v := (v.1 13)) hx hb hr (fun t ht hW => ⟨_, rfl, e9.symm, ht⟩) (fun q h => by cases h) dX10_state_248
        · skip
          have c_3 : x1 = 14 := c_3.trans (by decide)
          refine lv_tableIn (tgt := 249) (off := 204) hx hb dX10_state_45 (by rw [c_3]; decide) (by rw [c_3]; decide) (by rw [c_3]; decide) (by decide) ?_
          refine lv_aload_n hx hb dX10_state_249 rfl (lv_at hl 0 rfl) ?_
          refine va_get (D := D) (ci := 10) (v := .ref h1) (C := RX10) (T := TX10) (N := 16) hx hb hts hinX10 hown hK hP 0 rfl rfl 0 (by decide) (hts (.fieldLink RX10 7 "GyroTrainerModel" "at" "[I") (List.mem_of_getElem? (i := 1) rfl)) (fun _ h9 => h9) rfl dX10_state_250 ?_
          refine lv_bipush (v := 14) hx hb dX10_state_253 (by decide) ?_
          refine z_iald (k := 14) hx hb hK hP 1 1 rfl rfl rfl (by decide) (by decide) dX10_state_255 ?_
          have e9 : (fm_state v.1 v.2.2.2.2.2.2.1 v.2.2.2.2.2.2.2.2.2.2.2.1 x1) = (v.1 14) := by unfold fm_state; simp only [if_pos c_1, if_pos c_2, if_neg (show ¬ x1 = (0 : Int32) from fun h => absurd (c_3.symm.trans h) (by decide)), if_neg (show ¬ x1 = (1 : Int32) from fun h => absurd (c_3.symm.trans h) (by decide)), if_neg (show ¬ x1 = (2 : Int32) from fun h => absurd (c_3.symm.trans h) (by decide)), if_neg (show ¬ x1 = (3 : Int32) from fun h => absurd (c_3.symm.trans h) (by decide)), if_neg (show ¬ x1 = (4 : Int32) from fun h => absurd (c_3.symm.trans h) (by decide)), if_neg (show ¬ x1 = (5 : Int32) from fun h => absurd (c_3.symm.trans h) (by decide)), if_neg (show ¬ x1 = (6 : Int32) from fun h => absurd (c_3.symm.trans h) (by decide)), if_neg (show ¬ x1 = (7 : Int32) from fun h => absurd (c_3.symm.trans h) (by decide)), if_neg (show ¬ x1 = (13 : Int32) from fun h => absurd (c_3.symm.trans h) (by decide)), if_pos c_3] <;> rfl
          subst hQ
          exact W.iret (v := (v.1 14)) hx hb hr (fun t ht hW => ⟨_, rfl, e9.symm, ht⟩) (fun q h => by cases h) dX10_state_256
        · skip
          have c_3 : x1 = 15 := c_3.trans (by decide)
          refine lv_tableIn (tgt := 257) (off := 212) hx hb dX10_state_45 (by rw [c_3]; decide) (by rw [c_3]; decide) (by rw [c_3]; decide) (by decide) ?_
          refine lv_aload_n hx hb dX10_state_257 rfl (lv_at hl 0 rfl) ?_
          refine va_get (D := D) (ci := 10) (v := .ref h1) (C := RX10) (T := TX10) (N := 16) hx hb hts hinX10 hown hK hP 0 rfl rfl 0 (by decide) (hts (.fieldLink RX10 7 "GyroTrainerModel" "at" "[I") (List.mem_of_getElem? (i := 1) rfl)) (fun _ h9 => h9) rfl dX10_state_258 ?_
          refine lv_bipush (v := 15) hx hb dX10_state_261 (by decide) ?_
          refine z_iald (k := 15) hx hb hK hP 1 1 rfl rfl rfl (by decide) (by decide) dX10_state_263 ?_
          have e9 : (fm_state v.1 v.2.2.2.2.2.2.1 v.2.2.2.2.2.2.2.2.2.2.2.1 x1) = (v.1 15) := by unfold fm_state; simp only [if_pos c_1, if_pos c_2, if_neg (show ¬ x1 = (0 : Int32) from fun h => absurd (c_3.symm.trans h) (by decide)), if_neg (show ¬ x1 = (1 : Int32) from fun h => absurd (c_3.symm.trans h) (by decide)), if_neg (show ¬ x1 = (2 : Int32) from fun h => absurd (c_3.symm.trans h) (by decide)), if_neg (show ¬ x1 = (3 : Int32) from fun h => absurd (c_3.symm.trans h) (by decide)), if_neg (show ¬ x1 = (4 : Int32) from fun h => absurd (c_3.symm.trans h) (by decide)), if_neg (show ¬ x1 = (5 : Int32) from fun h => absurd (c_3.symm.trans h) (by decide)), if_neg (show ¬ x1 = (6 : Int32) from fun h => absurd (c_3.symm.trans h) (by decide)), if_neg (show ¬ x1 = (7 : Int32) from fun h => absurd (c_3.symm.trans h) (by decide)), if_neg (show ¬ x1 = (13 : Int32) from fun h => absurd (c_3.symm.trans h) (by decide)), if_neg (show ¬ x1 = (14 : Int32) from fun h => absurd (c_3.symm.trans h) (by decide)), if_pos c_3] <;> rfl
          subst hQ
          exact W.iret (v := (v.1 15)) hx hb hr (fun t ht hW => ⟨_, rfl, e9.symm, ht⟩) (fun q h => by cases h) dX10_state_264
        · skip
          have c_3 : x1 = 16 := c_3.trans (by decide)
          refine lv_tableIn (tgt := 265) (off := 220) hx hb dX10_state_45 (by rw [c_3]; decide) (by rw [c_3]; decide) (by rw [c_3]; decide) (by decide) ?_
          refine lv_aload_n hx hb dX10_state_265 rfl (lv_at hl 0 rfl) ?_
          refine va_get (D := D) (ci := 10) (v := .ref h1) (C := RX10) (T := TX10) (N := 16) hx hb hts hinX10 hown hK hP 0 rfl rfl 0 (by decide) (hts (.fieldLink RX10 7 "GyroTrainerModel" "at" "[I") (List.mem_of_getElem? (i := 1) rfl)) (fun _ h9 => h9) rfl dX10_state_266 ?_
          refine lv_bipush (v := 16) hx hb dX10_state_269 (by decide) ?_
          refine z_iald (k := 16) hx hb hK hP 1 1 rfl rfl rfl (by decide) (by decide) dX10_state_271 ?_
          have e9 : (fm_state v.1 v.2.2.2.2.2.2.1 v.2.2.2.2.2.2.2.2.2.2.2.1 x1) = (v.1 16) := by unfold fm_state; simp only [if_pos c_1, if_pos c_2, if_neg (show ¬ x1 = (0 : Int32) from fun h => absurd (c_3.symm.trans h) (by decide)), if_neg (show ¬ x1 = (1 : Int32) from fun h => absurd (c_3.symm.trans h) (by decide)), if_neg (show ¬ x1 = (2 : Int32) from fun h => absurd (c_3.symm.trans h) (by decide)), if_neg (show ¬ x1 = (3 : Int32) from fun h => absurd (c_3.symm.trans h) (by decide)), if_neg (show ¬ x1 = (4 : Int32) from fun h => absurd (c_3.symm.trans h) (by decide)), if_neg (show ¬ x1 = (5 : Int32) from fun h => absurd (c_3.symm.trans h) (by decide)), if_neg (show ¬ x1 = (6 : Int32) from fun h => absurd (c_3.symm.trans h) (by decide)), if_neg (show ¬ x1 = (7 : Int32) from fun h => absurd (c_3.symm.trans h) (by decide)), if_neg (show ¬ x1 = (13 : Int32) from fun h => absurd (c_3.symm.trans h) (by decide)), if_neg (show ¬ x1 = (14 : Int32) from fun h => absurd (c_3.symm.trans h) (by decide)), if_neg (show ¬ x1 = (15 : Int32) from fun h => absurd (c_3.symm.trans h) (by decide)), if_pos c_3] <;> rfl
          subst hQ
          exact W.iret (v := (v.1 16)) hx hb hr (fun t ht hW => ⟨_, rfl, e9.symm, ht⟩) (fun q h => by cases h) dX10_state_272
        · skip
          have c_3 : x1 = 17 := c_3.trans (by decide)
          refine lv_tableIn (tgt := 273) (off := 228) hx hb dX10_state_45 (by rw [c_3]; decide) (by rw [c_3]; decide) (by rw [c_3]; decide) (by decide) ?_
          refine lv_aload_n hx hb dX10_state_273 rfl (lv_at hl 0 rfl) ?_
          refine va_get (D := D) (ci := 10) (v := .ref h1) (C := RX10) (T := TX10) (N := 16) hx hb hts hinX10 hown hK hP 0 rfl rfl 0 (by decide) (hts (.fieldLink RX10 7 "GyroTrainerModel" "at" "[I") (List.mem_of_getElem? (i := 1) rfl)) (fun _ h9 => h9) rfl dX10_state_274 ?_
          refine lv_bipush (v := 17) hx hb dX10_state_277 (by decide) ?_
          refine z_iald (k := 17) hx hb hK hP 1 1 rfl rfl rfl (by decide) (by decide) dX10_state_279 ?_
          have e9 : (fm_state v.1 v.2.2.2.2.2.2.1 v.2.2.2.2.2.2.2.2.2.2.2.1 x1) = (v.1 17) := by unfold fm_state; simp only [if_pos c_1, if_pos c_2, if_neg (show ¬ x1 = (0 : Int32) from fun h => absurd (c_3.symm.trans h) (by decide)), if_neg (show ¬ x1 = (1 : Int32) from fun h => absurd (c_3.symm.trans h) (by decide)), if_neg (show ¬ x1 = (2 : Int32) from fun h => absurd (c_3.symm.trans h) (by decide)), if_neg (show ¬ x1 = (3 : Int32) from fun h => absurd (c_3.symm.trans h) (by decide)), if_neg (show ¬ x1 = (4 : Int32) from fun h => absurd (c_3.symm.trans h) (by decide)), if_neg (show ¬ x1 = (5 : Int32) from fun h => absurd (c_3.symm.trans h) (by decide)), if_neg (show ¬ x1 = (6 : Int32) from fun h => absurd (c_3.symm.trans h) (by decide)), if_neg (show ¬ x1 = (7 : Int32) from fun h => absurd (c_3.symm.trans h) (by decide)), if_neg (show ¬ x1 = (13 : Int32) from fun h => absurd (c_3.symm.trans h) (by decide)), if_neg (show ¬ x1 = (14 : Int32) from fun h => absurd (c_3.symm.trans h) (by decide)), if_neg (show ¬ x1 = (15 : Int32) from fun h => absurd (c_3.symm.trans h) (by decide)), if_neg (show ¬ x1 = (16 : Int32) from fun h => absurd (c_3.symm.trans h) (by decide)), if_pos c_3] <;> rfl
          subst hQ
          exact W.iret (v := (v.1 17)) hx hb hr (fun t ht hW => ⟨_, rfl, e9.symm, ht⟩) (fun q h => by cases h) dX10_state_280
        · skip
          have c_3 : x1 = 18 := c_3.trans (by decide)
          refine lv_tableIn (tgt := 281) (off := 236) hx hb dX10_state_45 (by rw [c_3]; decide) (by rw [c_3]; decide) (by rw [c_3]; decide) (by decide) ?_
          refine lv_aload_n hx hb dX10_state_281 rfl (lv_at hl 0 rfl) ?_
          refine va_get (D := D) (ci := 10) (v := .ref h1) (C := RX10) (T := TX10) (N := 16) hx hb hts hinX10 hown hK hP 0 rfl rfl 0 (by decide) (hts (.fieldLink RX10 7 "GyroTrainerModel" "at" "[I") (List.mem_of_getElem? (i := 1) rfl)) (fun _ h9 => h9) rfl dX10_state_282 ?_
          refine lv_bipush (v := 7) hx hb dX10_state_285 (by decide) ?_
          refine z_iald (k := 7) hx hb hK hP 1 1 rfl rfl rfl (by decide) (by decide) dX10_state_287 ?_
          have e9 : (fm_state v.1 v.2.2.2.2.2.2.1 v.2.2.2.2.2.2.2.2.2.2.2.1 x1) = (v.1 7) := by unfold fm_state; simp only [if_pos c_1, if_pos c_2, if_neg (show ¬ x1 = (0 : Int32) from fun h => absurd (c_3.symm.trans h) (by decide)), if_neg (show ¬ x1 = (1 : Int32) from fun h => absurd (c_3.symm.trans h) (by decide)), if_neg (show ¬ x1 = (2 : Int32) from fun h => absurd (c_3.symm.trans h) (by decide)), if_neg (show ¬ x1 = (3 : Int32) from fun h => absurd (c_3.symm.trans h) (by decide)), if_neg (show ¬ x1 = (4 : Int32) from fun h => absurd (c_3.symm.trans h) (by decide)), if_neg (show ¬ x1 = (5 : Int32) from fun h => absurd (c_3.symm.trans h) (by decide)), if_neg (show ¬ x1 = (6 : Int32) from fun h => absurd (c_3.symm.trans h) (by decide)), if_neg (show ¬ x1 = (7 : Int32) from fun h => absurd (c_3.symm.trans h) (by decide)), if_neg (show ¬ x1 = (13 : Int32) from fun h => absurd (c_3.symm.trans h) (by decide)), if_neg (show ¬ x1 = (14 : Int32) from fun h => absurd (c_3.symm.trans h) (by decide)), if_neg (show ¬ x1 = (15 : Int32) from fun h => absurd (c_3.symm.trans h) (by decide)), if_neg (show ¬ x1 = (16 : Int32) from fun h => absurd (c_3.symm.trans h) (by decide)), if_neg (show ¬ x1 = (17 : Int32) from fun h => absurd (c_3.symm.trans h) (by decide)), if_pos c_3] <;> rfl
          subst hQ
          exact W.iret (v := (v.1 7)) hx hb hr (fun t ht hW => ⟨_, rfl, e9.symm, ht⟩) (fun q h => by cases h) dX10_state_288
        · skip
          have c_3 : x1 = 19 := c_3.trans (by decide)
          refine lv_tableIn (tgt := 289) (off := 244) hx hb dX10_state_45 (by rw [c_3]; decide) (by rw [c_3]; decide) (by rw [c_3]; decide) (by decide) ?_
          refine lv_aload_n hx hb dX10_state_289 rfl (lv_at hl 0 rfl) ?_
          refine va_get (D := D) (ci := 10) (v := .ref h1) (C := RX10) (T := TX10) (N := 16) hx hb hts hinX10 hown hK hP 0 rfl rfl 0 (by decide) (hts (.fieldLink RX10 7 "GyroTrainerModel" "at" "[I") (List.mem_of_getElem? (i := 1) rfl)) (fun _ h9 => h9) rfl dX10_state_290 ?_
          refine lv_bipush (v := 19) hx hb dX10_state_293 (by decide) ?_
          refine z_iald (k := 19) hx hb hK hP 1 1 rfl rfl rfl (by decide) (by decide) dX10_state_295 ?_
          have e9 : (fm_state v.1 v.2.2.2.2.2.2.1 v.2.2.2.2.2.2.2.2.2.2.2.1 x1) = (v.1 19) := by unfold fm_state; simp only [if_pos c_1, if_pos c_2, if_neg (show ¬ x1 = (0 : Int32) from fun h => absurd (c_3.symm.trans h) (by decide)), if_neg (show ¬ x1 = (1 : Int32) from fun h => absurd (c_3.symm.trans h) (by decide)), if_neg (show ¬ x1 = (2 : Int32) from fun h => absurd (c_3.symm.trans h) (by decide)), if_neg (show ¬ x1 = (3 : Int32) from fun h => absurd (c_3.symm.trans h) (by decide)), if_neg (show ¬ x1 = (4 : Int32) from fun h => absurd (c_3.symm.trans h) (by decide)), if_neg (show ¬ x1 = (5 : Int32) from fun h => absurd (c_3.symm.trans h) (by decide)), if_neg (show ¬ x1 = (6 : Int32) from fun h => absurd (c_3.symm.trans h) (by decide)), if_neg (show ¬ x1 = (7 : Int32) from fun h => absurd (c_3.symm.trans h) (by decide)), if_neg (show ¬ x1 = (13 : Int32) from fun h => absurd (c_3.symm.trans h) (by decide)), if_neg (show ¬ x1 = (14 : Int32) from fun h => absurd (c_3.symm.trans h) (by decide)), if_neg (show ¬ x1 = (15 : Int32) from fun h => absurd (c_3.symm.trans h) (by decide)), if_neg (show ¬ x1 = (16 : Int32) from fun h => absurd (c_3.symm.trans h) (by decide)), if_neg (show ¬ x1 = (17 : Int32) from fun h => absurd (c_3.symm.trans h) (by decide)), if_neg (show ¬ x1 = (18 : Int32) from fun h => absurd (c_3.symm.trans h) (by decide)), if_pos c_3] <;> rfl
          subst hQ
          exact W.iret (v := (v.1 19)) hx hb hr (fun t ht hW => ⟨_, rfl, e9.symm, ht⟩) (fun q h => by cases h) dX10_state_296
        · skip
          have c_3 : x1 = 20 := c_3.trans (by decide)
          refine lv_tableIn (tgt := 297) (off := 252) hx hb dX10_state_45 (by rw [c_3]; decide) (by rw [c_3]; decide) (by rw [c_3]; decide) (by decide) ?_
          refine lv_aload_n hx hb dX10_state_297 rfl (lv_at hl 0 rfl) ?_
          refine va_get (D := D) (ci := 10) (v := .int v.2.2.2.2.2.2.2.2.2.2.2.1) (C := RX10) (T := TX10) (N := 16) hx hb hts hinX10 hown hK hP 0 rfl rfl 11 (by decide) (hts (.fieldLink RX10 177 "GyroTrainerModel" "padMany" "I") (List.mem_of_getElem? (i := 2) rfl)) (fun _ h9 => h9) rfl dX10_state_298 ?_
          have e9 : (fm_state v.1 v.2.2.2.2.2.2.1 v.2.2.2.2.2.2.2.2.2.2.2.1 x1) = v.2.2.2.2.2.2.2.2.2.2.2.1 := by unfold fm_state; simp only [if_pos c_1, if_pos c_2, if_neg (show ¬ x1 = (0 : Int32) from fun h => absurd (c_3.symm.trans h) (by decide)), if_neg (show ¬ x1 = (1 : Int32) from fun h => absurd (c_3.symm.trans h) (by decide)), if_neg (show ¬ x1 = (2 : Int32) from fun h => absurd (c_3.symm.trans h) (by decide)), if_neg (show ¬ x1 = (3 : Int32) from fun h => absurd (c_3.symm.trans h) (by decide)), if_neg (show ¬ x1 = (4 : Int32) from fun h => absurd (c_3.symm.trans h) (by decide)), if_neg (show ¬ x1 = (5 : Int32) from fun h => absurd (c_3.symm.trans h) (by decide)), if_neg (show ¬ x1 = (6 : Int32) from fun h => absurd (c_3.symm.trans h) (by decide)), if_neg (show ¬ x1 = (7 : Int32) from fun h => absurd (c_3.symm.trans h) (by decide)), if_neg (show ¬ x1 = (13 : Int32) from fun h => absurd (c_3.symm.trans h) (by decide)), if_neg (show ¬ x1 = (14 : Int32) from fun h => absurd (c_3.symm.trans h) (by decide)), if_neg (show ¬ x1 = (15 : Int32) from fun h => absurd (c_3.symm.trans h) (by decide)), if_neg (show ¬ x1 = (16 : Int32) from fun h => absurd (c_3.symm.trans h) (by decide)), if_neg (show ¬ x1 = (17 : Int32) from fun h => absurd (c_3.symm.trans h) (by decide)), if_neg (show ¬ x1 = (18 : Int32) from fun h => absurd (c_3.symm.trans h) (by decide)), if_neg (show ¬ x1 = (19 : Int32) from fun h => absurd (c_3.symm.trans h) (by decide)), if_pos c_3] <;> rfl
          subst hQ
          exact W.iret (v := v.2.2.2.2.2.2.2.2.2.2.2.1) hx hb hr (fun t ht hW => ⟨_, rfl, e9.symm, ht⟩) (fun q h => by cases h) dX10_state_301
        · skip
          have c_3 : x1 = 21 := c_3.trans (by decide)
          refine lv_tableIn (tgt := 302) (off := 257) hx hb dX10_state_45 (by rw [c_3]; decide) (by rw [c_3]; decide) (by rw [c_3]; decide) (by decide) ?_
          refine lv_aload_n hx hb dX10_state_302 rfl (lv_at hl 0 rfl) ?_
          refine va_get (D := D) (ci := 10) (v := .int v.2.2.2.2.2.2.1) (C := RX10) (T := TX10) (N := 16) hx hb hts hinX10 hown hK hP 0 rfl rfl 6 (by decide) (hts (.fieldLink RX10 45 "GyroTrainerModel" "pastMany" "I") (List.mem_of_getElem? (i := 3) rfl)) (fun _ h9 => h9) rfl dX10_state_303 ?_
          have e9 : (fm_state v.1 v.2.2.2.2.2.2.1 v.2.2.2.2.2.2.2.2.2.2.2.1 x1) = v.2.2.2.2.2.2.1 := by unfold fm_state; simp only [if_pos c_1, if_pos c_2, if_neg (show ¬ x1 = (0 : Int32) from fun h => absurd (c_3.symm.trans h) (by decide)), if_neg (show ¬ x1 = (1 : Int32) from fun h => absurd (c_3.symm.trans h) (by decide)), if_neg (show ¬ x1 = (2 : Int32) from fun h => absurd (c_3.symm.trans h) (by decide)), if_neg (show ¬ x1 = (3 : Int32) from fun h => absurd (c_3.symm.trans h) (by decide)), if_neg (show ¬ x1 = (4 : Int32) from fun h => absurd (c_3.symm.trans h) (by decide)), if_neg (show ¬ x1 = (5 : Int32) from fun h => absurd (c_3.symm.trans h) (by decide)), if_neg (show ¬ x1 = (6 : Int32) from fun h => absurd (c_3.symm.trans h) (by decide)), if_neg (show ¬ x1 = (7 : Int32) from fun h => absurd (c_3.symm.trans h) (by decide)), if_neg (show ¬ x1 = (13 : Int32) from fun h => absurd (c_3.symm.trans h) (by decide)), if_neg (show ¬ x1 = (14 : Int32) from fun h => absurd (c_3.symm.trans h) (by decide)), if_neg (show ¬ x1 = (15 : Int32) from fun h => absurd (c_3.symm.trans h) (by decide)), if_neg (show ¬ x1 = (16 : Int32) from fun h => absurd (c_3.symm.trans h) (by decide)), if_neg (show ¬ x1 = (17 : Int32) from fun h => absurd (c_3.symm.trans h) (by decide)), if_neg (show ¬ x1 = (18 : Int32) from fun h => absurd (c_3.symm.trans h) (by decide)), if_neg (show ¬ x1 = (19 : Int32) from fun h => absurd (c_3.symm.trans h) (by decide)), if_neg (show ¬ x1 = (20 : Int32) from fun h => absurd (c_3.symm.trans h) (by decide)), if_pos c_3] <;> rfl
          subst hQ
          exact W.iret (v := v.2.2.2.2.2.2.1) hx hb hr (fun t ht hW => ⟨_, rfl, e9.symm, ht⟩) (fun q h => by cases h) dX10_state_306
    · skip
      refine lv_aload_n hx hb dX10_state_35 rfl (lv_at hl 0 rfl) ?_
      refine lv_iload_n hx hb dX10_state_36 rfl (lv_at hl 1 rfl) ?_
      refine lv_bipush (v := 22) hx hb dX10_state_37 (by decide) ?_
      refine lv_isub hx hb dX10_state_39 ?_
      obtain ⟨k, hk, ek⟩ := z_ixt (fm_in1 c_2)
      rw [ek]
      refine z_Ri (va_runV (As := [.int (nI k)]) (rest := []) ⟨hx, hb, hml, hown, hts⟩ (c_X10_setting l D cA h0 h1 h2 h3 h4 h5 h6 h7 h8 h9 h10 h11 k v hk) (cwV 1 hts gX10_state_X10_setting rfl rfl rfl (by decide +kernel) ⟨Nat.le_of_ble_eq_true rfl, Nat.le_of_ble_eq_true rfl⟩) (zqVR hK hP hN (z_c1 (a := []) (b := []) rfl) 0 rfl rfl) rfl rfl hl.1 rfl (lv_room (Nat.le_of_ble_eq_true rfl)) dX10_state_40 ⟨Nat.le_of_ble_eq_true rfl, Nat.le_of_ble_eq_true rfl⟩) ?_
      have e9 : (fm_state v.1 v.2.2.2.2.2.2.1 v.2.2.2.2.2.2.2.2.2.2.2.1 x1) = (v.1 (20 + k)) := by unfold fm_state; simp only [if_pos c_1, if_neg c_2]; rw [ek, nI_clamp (by omega)]
      subst hQ
      exact W.iret (v := (v.1 (20 + k))) hx hb hr (fun t ht hW => ⟨_, rfl, e9.symm, ht⟩) (fun q h => by cases h) dX10_state_43
  · skip
    refine lv_aload_n hx hb dX10_state_11 rfl (lv_at hl 0 rfl) ?_
    refine va_get (D := D) (ci := 10) (v := .ref h1) (C := RX10) (T := TX10) (N := 16) hx hb hts hinX10 hown hK hP 0 rfl rfl 0 (by decide) (hts (.fieldLink RX10 7 "GyroTrainerModel" "at" "[I") (List.mem_of_getElem? (i := 1) rfl)) (fun _ h9 => h9) rfl dX10_state_12 ?_
    refine lv_bipush (v := 29) hx hb dX10_state_15 (by decide) ?_
    refine lv_iload_n hx hb dX10_state_17 rfl (lv_at hl 1 rfl) ?_
    refine lv_iadd hx hb dX10_state_18 ?_
    refine lv_bipush (v := 8) hx hb dX10_state_19 (by decide) ?_
    refine lv_isub hx hb dX10_state_21 ?_
    obtain ⟨k, hk, ek⟩ := z_ixs (fm_in1 c_1)
    refine z_iald (k := k) hx hb hK hP 1 1 rfl rfl ek (by omega) (by decide) dX10_state_22 ?_
    have e9 : (fm_state v.1 v.2.2.2.2.2.2.1 v.2.2.2.2.2.2.2.2.2.2.2.1 x1) = (v.1 k) := by unfold fm_state; simp only [if_neg c_1]; rw [ek, nI_clamp (by omega)]
    subst hQ
    exact W.iret (v := (v.1 k)) hx hb hr (fun t ht hW => ⟨_, rfl, e9.symm, ht⟩) (fun q h => by cases h) dX10_state_23
set_option maxHeartbeats 4000000 in
set_option maxRecDepth 100000 in
theorem c_X10_wave (l : Launch) (D : va_G) (cA : Nat → ClassId) (h0 h1 h2 h3 h4 h5 h6 h7 h8 h9 h10 h11 : Nat) (v : vX10) (x1 : Int32) (x2 : Int32)  : Met l yX10_wave wsX10_wave ({ frames := 3, cells := 0, slots := 0, locals := 62 }) (va_Pc [.ref h0, .int x1, .int x2] (zPreR D (zty cA) (wX10 cA h0 h1 h2 h3 h4 h5 h6 h7 h8 h9 h10 h11 v))) (vp_Si (fun x => x = (fm_wave x1 x2))) 0 0 (fun _ => False) := by
  refine Met.ofW (cc := cX10_wave) (maxL := 3) (ret := (some .int)) (by decide) rfl ?_
  intro p e s m args below meth c s₁ B hml hv
  obtain ⟨rfl, hP, hK, hN⟩ := hv
  have hx := B.exec
  have hb := B.bytes
  have hr := B.returns
  have hts := atoms_spec (ws := wsX10_wave) B.pre
  have hown : s.vm.findClass RX10 = some m.cls := findClass_of_methodNamed B.named
  have hlocks := B.notSynchronized
  have hP : va_P D vwCl [(h0, .inr (10, [.ref h1, .ref h2, .ref h3, .ref h4, .ref h5, .ref h6, .int v.2.2.2.2.2.2.1, .ref h7, .ref h8, .ref h9, .ref h10, .int v.2.2.2.2.2.2.2.2.2.2.2.1, .int v.2.2.2.2.2.2.2.2.2.2.2.2.1, .int v.2.2.2.2.2.2.2.2.2.2.2.2.2.1, .ref h11, .int v.2.2.2.2.2.2.2.2.2.2.2.2.2.2.2])), (h1, .inl ((cA 1), 85, .inl v.1)), (h2, .inl ((cA 0), 9, .inr (.inl v.2.1))), (h3, .inl ((cA 1), 85, .inl v.2.2.1)), (h4, .inl ((cA 0), 9, .inr (.inl v.2.2.2.1))), (h5, .inl ((cA 1), 510, .inl v.2.2.2.2.1)), (h6, .inl ((cA 0), 54, .inr (.inl v.2.2.2.2.2.1))), (h7, .inl ((cA 1), 170, .inl v.2.2.2.2.2.2.2.1)), (h8, .inl ((cA 0), 18, .inr (.inl v.2.2.2.2.2.2.2.2.1))), (h9, .inl ((cA 2), 2, .inl v.2.2.2.2.2.2.2.2.2.1)), (h10, .inl ((cA 1), 80, .inl v.2.2.2.2.2.2.2.2.2.2.1)), (h11, .inl ((cA 1), 60, .inl v.2.2.2.2.2.2.2.2.2.2.2.2.2.2.1))] s.heap := hP
  have hl := lv_entry ([.ref h0, .int x1, .int x2]) (n := 3) (Nat.le_of_ble_eq_true rfl)
  rw [lg_entry_eq]
  generalize (lg_sl ([.ref h0, .int x1, .int x2]) ++ List.replicate (3 - (lg_sl ([.ref h0, .int x1, .int x2])).length) Slot.unset).toArray = ls at hl ⊢
  have hl : lv_has ls 3 [(0, .ref h0), (1, .int x1), (2, .int x2)] := hl
  refine z_genQ (fun Q hQ => ?_)
  refine lv_iload_n hx hb dX10_wave_0 rfl (lv_at hl 1 rfl) ?_
  refine z_Ri (va_runS (As := [.int x1]) (rest := []) ⟨hx, hb, hml, hown, hts⟩ (c_X10_isCourse l D cA  x1) (va_cwS 1 hts gX10_wave_X10_isCourse rfl rfl rfl (by decide +kernel) ⟨Nat.le_of_ble_eq_true rfl, Nat.le_of_ble_eq_true rfl⟩) (zqSR0 hK hN) rfl rfl hl.1 rfl (lv_room (Nat.le_of_ble_eq_true rfl)) dX10_wave_1 ⟨Nat.le_of_ble_eq_true rfl, Nat.le_of_ble_eq_true rfl⟩) ?_
  refine lv_if_eq (tgt := 16) hx hb dX10_wave_4 (by decide) (fun c_1 => ?_) (fun c_1 => ?_)
  · skip
    refine lv_ldc hx hb hown (hts (.constant RX10 111 (-1000000002)) (List.mem_of_getElem? (i := 1) rfl)) dX10_wave_16 ?_
    have e9 : (fm_wave x1 x2) = (-1000000002 : Int32) := by unfold fm_wave; simp only [if_pos c_1] <;> rfl
    subst hQ
    exact W.iret (v := (-1000000002 : Int32)) hx hb hr (fun t ht hW => ⟨_, rfl, e9.symm, ht⟩) (fun q h => by cases h) dX10_wave_18
  · skip
    refine lv_iload_n hx hb dX10_wave_7 rfl (lv_at hl 2 rfl) ?_
    refine lv_iconst (v := 0) hx hb dX10_wave_8 (by decide) ?_
    refine lv_iconst (v := 1) hx hb dX10_wave_9 (by decide) ?_
    refine z_Ri (va_runS (As := [.int x2, .int (0 : Int32), .int (1 : Int32)]) (rest := []) ⟨hx, hb, hml, hown, hts⟩ (c_X10_in l D cA  x2 (0 : Int32) (1 : Int32)) (va_cwS 3 hts gX10_wave_X10_in rfl rfl rfl (by decide +kernel) ⟨Nat.le_of_ble_eq_true rfl, Nat.le_of_ble_eq_true rfl⟩) (zqSR0 hK hN) rfl rfl hl.1 rfl (lv_room (Nat.le_of_ble_eq_true rfl)) dX10_wave_10 ⟨Nat.le_of_ble_eq_true rfl, Nat.le_of_ble_eq_true rfl⟩) ?_
    refine lv_if_ne (tgt := 19) hx hb dX10_wave_13 (by decide) (fun c_2 => ?_) (fun c_2 => ?_)
    · skip
      refine lv_iload_n hx hb dX10_wave_19 rfl (lv_at hl 2 rfl) ?_
      refine lv_if_ne (tgt := 30) hx hb dX10_wave_20 (by decide) (fun c_3 => ?_) (fun c_3 => ?_)
      · skip
        refine lv_iload_n hx hb dX10_wave_30 rfl (lv_at hl 1 rfl) ?_
        refine z_Ri (va_runS (As := [.int x1]) (rest := []) ⟨hx, hb, hml, hown, hts⟩ (c_X10_cosine l D cA  x1 (zcR_of c_1)) (va_cwS 1 hts gX10_wave_X10_cosine rfl rfl rfl (by decide +kernel) ⟨Nat.le_of_ble_eq_true rfl, Nat.le_of_ble_eq_true rfl⟩) (zqSR0 hK hN) rfl rfl hl.1 rfl (lv_room (Nat.le_of_ble_eq_true rfl)) dX10_wave_31 ⟨Nat.le_of_ble_eq_true rfl, Nat.le_of_ble_eq_true rfl⟩) ?_
        have e9 : (fm_wave x1 x2) = (fm_cosine x1) := by unfold fm_wave; simp only [if_neg c_1, if_neg c_2, if_neg c_3] <;> rfl
        subst hQ
        exact W.iret (v := (fm_cosine x1)) hx hb hr (fun t ht hW => ⟨_, rfl, e9.symm, ht⟩) (fun q h => by cases h) dX10_wave_34
      · skip
        refine lv_iload_n hx hb dX10_wave_23 rfl (lv_at hl 1 rfl) ?_
        refine z_Ri (va_runS (As := [.int x1]) (rest := []) ⟨hx, hb, hml, hown, hts⟩ (c_X10_sine l D cA  x1 (zcR_of c_1)) (va_cwS 1 hts gX10_wave_X10_sine rfl rfl rfl (by decide +kernel) ⟨Nat.le_of_ble_eq_true rfl, Nat.le_of_ble_eq_true rfl⟩) (zqSR0 hK hN) rfl rfl hl.1 rfl (lv_room (Nat.le_of_ble_eq_true rfl)) dX10_wave_24 ⟨Nat.le_of_ble_eq_true rfl, Nat.le_of_ble_eq_true rfl⟩) ?_
        refine lv_goto (tgt := 34) hx hb dX10_wave_27 (by decide) ?_
        have e9 : (fm_wave x1 x2) = (fm_sine x1) := by unfold fm_wave; simp only [if_neg c_1, if_neg c_2, if_pos c_3] <;> rfl
        subst hQ
        exact W.iret (v := (fm_sine x1)) hx hb hr (fun t ht hW => ⟨_, rfl, e9.symm, ht⟩) (fun q h => by cases h) dX10_wave_34
    · skip
      refine lv_ldc hx hb hown (hts (.constant RX10 111 (-1000000002)) (List.mem_of_getElem? (i := 1) rfl)) dX10_wave_16 ?_
      have e9 : (fm_wave x1 x2) = (-1000000002 : Int32) := by unfold fm_wave; simp only [if_neg c_1, if_pos c_2] <;> rfl
      subst hQ
      exact W.iret (v := (-1000000002 : Int32)) hx hb hr (fun t ht hW => ⟨_, rfl, e9.symm, ht⟩) (fun q h => by cases h) dX10_wave_18
set_option maxHeartbeats 4000000 in
set_option maxRecDepth 100000 in
theorem c_X10_restAt (l : Launch) (D : va_G) (cA : Nat → ClassId) (h0 h1 h2 h3 h4 h5 h6 h7 h8 h9 h10 h11 : Nat) (v : vX10) (x1 : Int32) (x2 : Int32) (x3 : Int32)  : Met l yX10_restAt wsX10_restAt ({ frames := 5, cells := 0, slots := 0, locals := 109 }) (va_Pc [.ref h0, .int x1, .int x2, .int x3] (zPreR D (zty cA) (wX10 cA h0 h1 h2 h3 h4 h5 h6 h7 h8 h9 h10 h11 v))) (vp_Si (fun x => x = (fm_restAt v.1 x1 x2 x3))) 0 0 (fun _ => False) := by
  refine Met.ofW (cc := cX10_restAt) (maxL := 4) (ret := (some .int)) (by decide) rfl ?_
  intro p e s m args below meth c s₁ B hml hv
  obtain ⟨rfl, hP, hK, hN⟩ := hv
  have hx := B.exec
  have hb := B.bytes
  have hr := B.returns
  have hts := atoms_spec (ws := wsX10_restAt) B.pre
  have hown : s.vm.findClass RX10 = some m.cls := findClass_of_methodNamed B.named
  have hlocks := B.notSynchronized
  have hinX10 : ∀ w ∈ u_ws RX10 TX10 16, w ∈ wsX10_restAt := fun w h => List.mem_cons_of_mem _ (List.mem_append_right _ h)
  have hP : va_P D vwCl [(h0, .inr (10, [.ref h1, .ref h2, .ref h3, .ref h4, .ref h5, .ref h6, .int v.2.2.2.2.2.2.1, .ref h7, .ref h8, .ref h9, .ref h10, .int v.2.2.2.2.2.2.2.2.2.2.2.1, .int v.2.2.2.2.2.2.2.2.2.2.2.2.1, .int v.2.2.2.2.2.2.2.2.2.2.2.2.2.1, .ref h11, .int v.2.2.2.2.2.2.2.2.2.2.2.2.2.2.2])), (h1, .inl ((cA 1), 85, .inl v.1)), (h2, .inl ((cA 0), 9, .inr (.inl v.2.1))), (h3, .inl ((cA 1), 85, .inl v.2.2.1)), (h4, .inl ((cA 0), 9, .inr (.inl v.2.2.2.1))), (h5, .inl ((cA 1), 510, .inl v.2.2.2.2.1)), (h6, .inl ((cA 0), 54, .inr (.inl v.2.2.2.2.2.1))), (h7, .inl ((cA 1), 170, .inl v.2.2.2.2.2.2.2.1)), (h8, .inl ((cA 0), 18, .inr (.inl v.2.2.2.2.2.2.2.2.1))), (h9, .inl ((cA 2), 2, .inl v.2.2.2.2.2.2.2.2.2.1)), (h10, .inl ((cA 1), 80, .inl v.2.2.2.2.2.2.2.2.2.2.1)), (h11, .inl ((cA 1), 60, .inl v.2.2.2.2.2.2.2.2.2.2.2.2.2.2.1))] s.heap := hP
  have hl := lv_entry ([.ref h0, .int x1, .int x2, .int x3]) (n := 4) (Nat.le_of_ble_eq_true rfl)
  rw [lg_entry_eq]
  generalize (lg_sl ([.ref h0, .int x1, .int x2, .int x3]) ++ List.replicate (4 - (lg_sl ([.ref h0, .int x1, .int x2, .int x3])).length) Slot.unset).toArray = ls at hl ⊢
  have hl : lv_has ls 4 [(0, .ref h0), (1, .int x1), (2, .int x2), (3, .int x3)] := hl
  refine z_genQ (fun Q hQ => ?_)
  refine lv_iload_n hx hb dX10_restAt_0 rfl (lv_at hl 1 rfl) ?_
  refine z_Ri (va_runS (As := [.int x1]) (rest := []) ⟨hx, hb, hml, hown, hts⟩ (c_X10_isDegrees l D cA  x1) (va_cwS 1 hts gX10_restAt_X10_isDegrees rfl rfl rfl (by decide +kernel) ⟨Nat.le_of_ble_eq_true rfl, Nat.le_of_ble_eq_true rfl⟩) (zqSR0 hK hN) rfl rfl hl.1 rfl (lv_room (Nat.le_of_ble_eq_true rfl)) dX10_restAt_1 ⟨Nat.le_of_ble_eq_true rfl, Nat.le_of_ble_eq_true rfl⟩) ?_
  refine lv_if_eq (tgt := 34) hx hb dX10_restAt_4 (by decide) (fun c_1 => ?_) (fun c_1 => ?_)
  · skip
    refine lv_ldc hx hb hown (hts (.constant RX10 111 (-1000000002)) (List.mem_of_getElem? (i := 2) rfl)) dX10_restAt_34 ?_
    have e9 : (fm_restAt v.1 x1 x2 x3) = (-1000000002 : Int32) := by unfold fm_restAt; simp only [if_pos c_1] <;> rfl
    subst hQ
    exact W.iret (v := (-1000000002 : Int32)) hx hb hr (fun t ht hW => ⟨_, rfl, e9.symm, ht⟩) (fun q h => by cases h) dX10_restAt_36
  · skip
    refine lv_iload_n hx hb dX10_restAt_7 rfl (lv_at hl 2 rfl) ?_
    refine z_Ri (va_runS (As := [.int x2]) (rest := []) ⟨hx, hb, hml, hown, hts⟩ (c_X10_isSpeed l D cA  x2) (va_cwS 1 hts gX10_restAt_X10_isSpeed rfl rfl rfl (by decide +kernel) ⟨Nat.le_of_ble_eq_true rfl, Nat.le_of_ble_eq_true rfl⟩) (zqSR0 hK hN) rfl rfl hl.1 rfl (lv_room (Nat.le_of_ble_eq_true rfl)) dX10_restAt_8 ⟨Nat.le_of_ble_eq_true rfl, Nat.le_of_ble_eq_true rfl⟩) ?_
    refine lv_if_eq (tgt := 34) hx hb dX10_restAt_11 (by decide) (fun c_2 => ?_) (fun c_2 => ?_)
    · skip
      refine lv_ldc hx hb hown (hts (.constant RX10 111 (-1000000002)) (List.mem_of_getElem? (i := 2) rfl)) dX10_restAt_34 ?_
      have e9 : (fm_restAt v.1 x1 x2 x3) = (-1000000002 : Int32) := by unfold fm_restAt; simp only [if_neg c_1, if_pos c_2] <;> rfl
      subst hQ
      exact W.iret (v := (-1000000002 : Int32)) hx hb hr (fun t ht hW => ⟨_, rfl, e9.symm, ht⟩) (fun q h => by cases h) dX10_restAt_36
    · skip
      refine lv_iload_n hx hb dX10_restAt_14 rfl (lv_at hl 3 rfl) ?_
      refine z_Ri (va_runS (As := [.int x3]) (rest := []) ⟨hx, hb, hml, hown, hts⟩ (c_X10_isCourse l D cA  x3) (va_cwS 1 hts gX10_restAt_X10_isCourse rfl rfl rfl (by decide +kernel) ⟨Nat.le_of_ble_eq_true rfl, Nat.le_of_ble_eq_true rfl⟩) (zqSR0 hK hN) rfl rfl hl.1 rfl (lv_room (Nat.le_of_ble_eq_true rfl)) dX10_restAt_15 ⟨Nat.le_of_ble_eq_true rfl, Nat.le_of_ble_eq_true rfl⟩) ?_
      refine lv_if_eq (tgt := 34) hx hb dX10_restAt_18 (by decide) (fun c_3 => ?_) (fun c_3 => ?_)
      · skip
        refine lv_ldc hx hb hown (hts (.constant RX10 111 (-1000000002)) (List.mem_of_getElem? (i := 2) rfl)) dX10_restAt_34 ?_
        have e9 : (fm_restAt v.1 x1 x2 x3) = (-1000000002 : Int32) := by unfold fm_restAt; simp only [if_neg c_1, if_neg c_2, if_pos c_3] <;> rfl
        subst hQ
        exact W.iret (v := (-1000000002 : Int32)) hx hb hr (fun t ht hW => ⟨_, rfl, e9.symm, ht⟩) (fun q h => by cases h) dX10_restAt_36
      · skip
        refine lv_aload_n hx hb dX10_restAt_21 rfl (lv_at hl 0 rfl) ?_
        refine lv_ldc hx hb hown (hts (.constant RX10 93 (1000000)) (List.mem_of_getElem? (i := 1) rfl)) dX10_restAt_22 ?_
        refine lv_iload_n hx hb dX10_restAt_24 rfl (lv_at hl 1 rfl) ?_
        refine lv_imul hx hb dX10_restAt_25 ?_
        refine lv_iload_n hx hb dX10_restAt_26 rfl (lv_at hl 2 rfl) ?_
        refine lv_iload_n hx hb dX10_restAt_27 rfl (lv_at hl 3 rfl) ?_
        refine z_Ri (va_runV (As := [.int ((1000000 : Int32) * x1), .int x2, .int x3]) (rest := []) ⟨hx, hb, hml, hown, hts⟩ (c_X10_restBy l D cA h0 h1 h2 h3 h4 h5 h6 h7 h8 h9 h10 h11 v ((1000000 : Int32) * x1) x2 x3 (z_deg (zdR_of c_1)) (zcR_of c_3)) (cwV 3 hts gX10_restAt_X10_restBy rfl rfl rfl (by decide +kernel) ⟨Nat.le_of_ble_eq_true rfl, Nat.le_of_ble_eq_true rfl⟩) (zqVR hK hP hN (z_c1 (a := []) (b := []) rfl) 0 rfl rfl) rfl rfl hl.1 rfl (lv_room (Nat.le_of_ble_eq_true rfl)) dX10_restAt_28 ⟨Nat.le_of_ble_eq_true rfl, Nat.le_of_ble_eq_true rfl⟩) ?_
        refine lv_goto (tgt := 36) hx hb dX10_restAt_31 (by decide) ?_
        have e9 : (fm_restAt v.1 x1 x2 x3) = (fm_restBy v.1 ((1000000 : Int32) * x1) x2 x3) := by unfold fm_restAt; simp only [if_neg c_1, if_neg c_2, if_neg c_3] <;> rfl
        subst hQ
        exact W.iret (v := (fm_restBy v.1 ((1000000 : Int32) * x1) x2 x3)) hx hb hr (fun t ht hW => ⟨_, rfl, e9.symm, ht⟩) (fun q h => by cases h) dX10_restAt_36
