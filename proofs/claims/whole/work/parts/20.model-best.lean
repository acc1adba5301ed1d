def fm_bw (v : vX10) : Nat → vX10
  | 0 => v
  | _ + 1 => fm_aside v
theorem bw_c0 (v : vX10) (k : Nat) (lv : Int32) : fm_c0 (fm_bw v k) lv = fm_c0 v lv := by
  cases k <;> rfl
theorem bw_as (v : vX10) (k : Nat) : fm_aside (fm_bw v k) = fm_bw v (k + 1) := by
  cases k <;> rfl

set_option maxHeartbeats 4000000 in
set_option maxRecDepth 100000 in
theorem c_X10_calmIn (l : Launch) (D : va_G) (cA : Nat → ClassId) (h0 h1 h2 h3 h4 h5 h6 h7 h8 h9 h10 h11 : Nat) (sz : Nat) (v : vX10) (x1 : Int32) (x2 : Int32) (hI : ∀ k, k ≤ x2.toNatClampNeg → MI (fm_it k (fm_c0 v (v.1 8))).1) : Met l yX10_calmIn wsX10_calmIn ({ frames := 9, cells := 0, slots := 0, locals := 205 }) (va_Pc [.ref h0, .int x1, .int x2] (zPre D (zty cA) (wX10 cA h0 h1 h2 h3 h4 h5 h6 h7 h8 h9 h10 h11 v) sz)) (va_Qi (fun (x : Int32) (u : vX10) => (x, u) = (fm_calmIn v x1 x2)) (fun u => zPost D (zty cA) (va_A (wX10 cA h0 h1 h2 h3 h4 h5 h6 h7 h8 h9 h10 h11 v) sz) (wX10 cA h0 h1 h2 h3 h4 h5 h6 h7 h8 h9 h10 h11 u)) (va_A (wX10 cA h0 h1 h2 h3 h4 h5 h6 h7 h8 h9 h10 h11 v) sz)) 0 0 (va_A (wX10 cA h0 h1 h2 h3 h4 h5 h6 h7 h8 h9 h10 h11 v) sz) := by
  refine Met.ofW (cc := cX10_calmIn) (maxL := 3) (ret := (some .int)) (by decide) rfl ?_
  intro p e s m args below meth c s₁ B hml hv
  obtain ⟨rfl, hsz, hP, hK, hD0, hE⟩ := hv
  have hx := B.exec
  have hb := B.bytes
  have hr := B.returns
  have hts := atoms_spec (ws := wsX10_calmIn) B.pre
  have hown : s.vm.findClass RX10 = some m.cls := findClass_of_methodNamed B.named
  have hlocks := B.notSynchronized
  have hinX10 : ∀ w ∈ u_ws RX10 TX10 16, w ∈ wsX10_calmIn := fun w h => List.mem_cons_of_mem _ (List.mem_append_right _ h)
  subst hsz
  have hD := hD0.self (sz := s.heap.size)
  generalize hAe : va_A (wX10 cA h0 h1 h2 h3 h4 h5 h6 h7 h8 h9 h10 h11 v) s.heap.size = A at hD hE ⊢
  have hA : ∀ q : Nat, s.heap.size ≤ q → A q := fun q h => by rw [← hAe]; exact Or.inr h
  have hS : va_S A s.heap s.heap [] := va_S.rf
  have hN : zN s := hE.1
  have hP : va_P D vwCl [(h0, .inr (10, [.ref h1, .ref h2, .ref h3, .ref h4, .ref h5, .ref h6, .int v.2.2.2.2.2.2.1, .ref h7, .ref h8, .ref h9, .ref h10, .int v.2.2.2.2.2.2.2.2.2.2.2.1, .int v.2.2.2.2.2.2.2.2.2.2.2.2.1, .int v.2.2.2.2.2.2.2.2.2.2.2.2.2.1, .ref h11, .int v.2.2.2.2.2.2.2.2.2.2.2.2.2.2.2])), (h1, .inl ((cA 1), 85, .inl v.1)), (h2, .inl ((cA 0), 9, .inr (.inl v.2.1))), (h3, .inl ((cA 1), 85, .inl v.2.2.1)), (h4, .inl ((cA 0), 9, .inr (.inl v.2.2.2.1))), (h5, .inl ((cA 1), 510, .inl v.2.2.2.2.1)), (h6, .inl ((cA 0), 54, .inr (.inl v.2.2.2.2.2.1))), (h7, .inl ((cA 1), 170, .inl v.2.2.2.2.2.2.2.1)), (h8, .inl ((cA 0), 18, .inr (.inl v.2.2.2.2.2.2.2.2.1))), (h9, .inl ((cA 2), 2, .inl v.2.2.2.2.2.2.2.2.2.1)), (h10, .inl ((cA 1), 80, .inl v.2.2.2.2.2.2.2.2.2.2.1)), (h11, .inl ((cA 1), 60, .inl v.2.2.2.2.2.2.2.2.2.2.2.2.2.2.1))] s.heap := hP
  have hD : va_D A [(h0, .inr (10, [.ref h1, .ref h2, .ref h3, .ref h4, .ref h5, .ref h6, .int v.2.2.2.2.2.2.1, .ref h7, .ref h8, .ref h9, .ref h10, .int v.2.2.2.2.2.2.2.2.2.2.2.1, .int v.2.2.2.2.2.2.2.2.2.2.2.2.1, .int v.2.2.2.2.2.2.2.2.2.2.2.2.2.1, .ref h11, .int v.2.2.2.2.2.2.2.2.2.2.2.2.2.2.2])), (h1, .inl ((cA 1), 85, .inl v.1)), (h2, .inl ((cA 0), 9, .inr (.inl v.2.1))), (h3, .inl ((cA 1), 85, .inl v.2.2.1)), (h4, .inl ((cA 0), 9, .inr (.inl v.2.2.2.1))), (h5, .inl ((cA 1), 510, .inl v.2.2.2.2.1)), (h6, .inl ((cA 0), 54, .inr (.inl v.2.2.2.2.2.1))), (h7, .inl ((cA 1), 170, .inl v.2.2.2.2.2.2.2.1)), (h8, .inl ((cA 0), 18, .inr (.inl v.2.2.2.2.2.2.2.2.1))), (h9, .inl ((cA 2), 2, .inl v.2.2.2.2.2.2.2.2.2.1)), (h10, .inl ((cA 1), 80, .inl v.2.2.2.2.2.2.2.2.2.2.1)), (h11, .inl ((cA 1), 60, .inl v.2.2.2.2.2.2.2.2.2.2.2.2.2.2.1))] := hD
  have hl := lv_entry ([.ref h0, .int x1, .int x2]) (n := 3) (Nat.le_of_ble_eq_true rfl)
  rw [lg_entry_eq]
  generalize (lg_sl ([.ref h0, .int x1, .int x2]) ++ List.replicate (3 - (lg_sl ([.ref h0, .int x1, .int x2])).length) Slot.unset).toArray = ls at hl ⊢
  have hl : lv_has ls 3 [(0, .ref h0), (1, .int x1), (2, .int x2)] := hl
  refine z_genQ (fun Q hQ => ?_)
  refine lv_iload_n hx hb dX10_calmIn_0 rfl (lv_at hl 1 rfl) ?_
  refine lv_iconst (v := 0) hx hb dX10_calmIn_1 (by decide) ?_
  refine lv_ldc hx hb hown (hts (.constant RX10 98 (100000)) (List.mem_of_getElem? (i := 1) rfl)) dX10_calmIn_2 ?_
  refine z_Ri (va_runS (As := [.int x1, .int (0 : Int32), .int (100000 : Int32)]) (rest := []) ⟨hx, hb, hml, hown, hts⟩ (c_X10_in l D cA  x1 (0 : Int32) (100000 : Int32)) (va_cwS 3 hts gX10_calmIn_X10_in rfl rfl rfl (by decide +kernel) ⟨Nat.le_of_ble_eq_true rfl, Nat.le_of_ble_eq_true rfl⟩) (zqSR0 hK hN) rfl rfl hl.1 rfl (lv_room (Nat.le_of_ble_eq_true rfl)) dX10_calmIn_4 ⟨Nat.le_of_ble_eq_true rfl, Nat.le_of_ble_eq_true rfl⟩) ?_
  refine lv_if_eq (tgt := 37) hx hb dX10_calmIn_7 (by decide) (fun c_1 => ?_) (fun c_1 => ?_)
  · skip
    refine lv_bipush (v := -2) hx hb dX10_calmIn_37 (by decide) ?_
    have e9 : (fm_calmIn v x1 x2) = ((-2 : Int32), v) := by unfold fm_calmIn; simp only [if_pos c_1] <;> rfl
    have hP9 : va_P D vwCl (wX10 cA h0 h1 h2 h3 h4 h5 h6 h7 h8 h9 h10 h11 (v : vX10)) s.heap := hP
    have hD9 : va_D A (wX10 cA h0 h1 h2 h3 h4 h5 h6 h7 h8 h9 h10 h11 (v : vX10)) := hD
    subst hQ
    exact W.iret (v := (-2 : Int32)) hx hb hr (fun t ht hW => ⟨⟨(-2 : Int32), v, rfl, e9.symm, ⟨by rw [ht]; exact hP9, va_K.moved hW.alike hK, hD9⟩⟩, hS.F ht⟩) hS.2.2 dX10_calmIn_39
  · skip
    refine lv_iload_n hx hb dX10_calmIn_10 rfl (lv_at hl 2 rfl) ?_
    refine lv_iconst (v := 1) hx hb dX10_calmIn_11 (by decide) ?_
    refine lv_sipush (v := 2000) hx hb dX10_calmIn_12 (by decide) ?_
    refine z_Ri (va_runS (As := [.int x2, .int (1 : Int32), .int (2000 : Int32)]) (rest := []) ⟨hx, hb, hml, hown, hts⟩ (c_X10_in l D cA  x2 (1 : Int32) (2000 : Int32)) (va_cwS 3 hts gX10_calmIn_X10_in rfl rfl rfl (by decide +kernel) ⟨Nat.le_of_ble_eq_true rfl, Nat.le_of_ble_eq_true rfl⟩) (zqSR0 hK hN) rfl rfl hl.1 rfl (lv_room (Nat.le_of_ble_eq_true rfl)) dX10_calmIn_15 ⟨Nat.le_of_ble_eq_true rfl, Nat.le_of_ble_eq_true rfl⟩) ?_
    refine lv_if_eq (tgt := 37) hx hb dX10_calmIn_18 (by decide) (fun c_2 => ?_) (fun c_2 => ?_)
    · skip
      refine lv_bipush (v := -2) hx hb dX10_calmIn_37 (by decide) ?_
      have e9 : (fm_calmIn v x1 x2) = ((-2 : Int32), v) := by unfold fm_calmIn; simp only [if_neg c_1, if_pos c_2] <;> rfl
      have hP9 : va_P D vwCl (wX10 cA h0 h1 h2 h3 h4 h5 h6 h7 h8 h9 h10 h11 (v : vX10)) s.heap := hP
      have hD9 : va_D A (wX10 cA h0 h1 h2 h3 h4 h5 h6 h7 h8 h9 h10 h11 (v : vX10)) := hD
      subst hQ
      exact W.iret (v := (-2 : Int32)) hx hb hr (fun t ht hW => ⟨⟨(-2 : Int32), v, rfl, e9.symm, ⟨by rw [ht]; exact hP9, va_K.moved hW.alike hK, hD9⟩⟩, hS.F ht⟩) hS.2.2 dX10_calmIn_39
    · skip
      obtain ⟨q0, hq, eq⟩ := z_ix600 (n := 2001) c_2 (by decide) (by decide)
      subst eq
      refine lv_aload_n hx hb dX10_calmIn_21 rfl (lv_at hl 0 rfl) ?_
      refine lv_aload_n hx hb dX10_calmIn_22 rfl (lv_at hl 0 rfl) ?_
      refine va_get (D := D) (ci := 10) (v := .ref h1) (C := RX10) (T := TX10) (N := 16) hx hb hts hinX10 hown hK hP 0 rfl rfl 0 (by decide) (hts (.fieldLink RX10 7 "GyroTrainerModel" "at" "[I") (List.mem_of_getElem? (i := 2) rfl)) (fun _ h9 => h9) rfl dX10_calmIn_23 ?_
      refine lv_bipush (v := 8) hx hb dX10_calmIn_26 (by decide) ?_
      refine z_iald (k := 8) hx hb hK hP 1 1 rfl rfl rfl (by decide) (by decide) dX10_calmIn_28 ?_
      refine lv_iload_n hx hb dX10_calmIn_29 rfl (lv_at hl 1 rfl) ?_
      refine lv_iload_n hx hb dX10_calmIn_30 rfl (lv_at hl 2 rfl) ?_
      refine z_Hi (wt := fun (u_3 : vX10) => [(h0, .inr (10, [.ref h1, .ref h2, .ref h3, .ref h4, .ref h5, .ref h6, .int u_3.2.2.2.2.2.2.1, .ref h7, .ref h8, .ref h9, .ref h10, .int u_3.2.2.2.2.2.2.2.2.2.2.2.1, .int u_3.2.2.2.2.2.2.2.2.2.2.2.2.1, .int u_3.2.2.2.2.2.2.2.2.2.2.2.2.2.1, .ref h11, .int u_3.2.2.2.2.2.2.2.2.2.2.2.2.2.2.2])), (h1, .inl ((cA 1), 85, .inl u_3.1)), (h2, .inl ((cA 0), 9, .inr (.inl u_3.2.1))), (h3, .inl ((cA 1), 85, .inl u_3.2.2.1)), (h4, .inl ((cA 0), 9, .inr (.inl u_3.2.2.2.1))), (h5, .inl ((cA 1), 510, .inl u_3.2.2.2.2.1)), (h6, .inl ((cA 0), 54, .inr (.inl u_3.2.2.2.2.2.1))), (h7, .inl ((cA 1), 170, .inl u_3.2.2.2.2.2.2.2.1)), (h8, .inl ((cA 0), 18, .inr (.inl u_3.2.2.2.2.2.2.2.2.1))), (h9, .inl ((cA 2), 2, .inl u_3.2.2.2.2.2.2.2.2.2.1)), (h10, .inl ((cA 1), 80, .inl u_3.2.2.2.2.2.2.2.2.2.2.1)), (h11, .inl ((cA 1), 60, .inl u_3.2.2.2.2.2.2.2.2.2.2.2.2.2.2.1))]) (va_runV (As := [.int (v.1 8), .int x1, .int (nI q0)]) (rest := []) ⟨hx, hb, hml, hown, hts⟩ (c_X10_calmBy l D cA h0 h1 h2 h3 h4 h5 h6 h7 h8 h9 h10 h11 s.heap.size q0 v (v.1 8) x1 (by omega) (fun k hk => hI k (by rw [nI_clamp (by omega)]; exact hk))) (cwV 3 hts gX10_calmIn_X10_calmBy rfl rfl rfl (by decide +kernel) ⟨Nat.le_of_ble_eq_true rfl, Nat.le_of_ble_eq_true rfl⟩) (zqV hK hP hD hS hA hE (z_c1 (a := []) (b := []) rfl) 0 rfl rfl) rfl rfl hl.1 rfl (lv_room (Nat.le_of_ble_eq_true rfl)) dX10_calmIn_31 ⟨Nat.le_of_ble_eq_true rfl, Nat.le_of_ble_eq_true rfl⟩) hP hD hS hA (z_c1 (a := []) (b := []) rfl) (fun u_3 => (z_c1' (a := []) (b := []) rfl)) (fun r_4 u_3 H locs eu_3 hP hD hS => ?_)
      have hP : va_P D vwCl [(h0, .inr (10, [.ref h1, .ref h2, .ref h3, .ref h4, .ref h5, .ref h6, .int u_3.2.2.2.2.2.2.1, .ref h7, .ref h8, .ref h9, .ref h10, .int u_3.2.2.2.2.2.2.2.2.2.2.2.1, .int u_3.2.2.2.2.2.2.2.2.2.2.2.2.1, .int u_3.2.2.2.2.2.2.2.2.2.2.2.2.2.1, .ref h11, .int u_3.2.2.2.2.2.2.2.2.2.2.2.2.2.2.2])), (h1, .inl ((cA 1), 85, .inl u_3.1)), (h2, .inl ((cA 0), 9, .inr (.inl u_3.2.1))), (h3, .inl ((cA 1), 85, .inl u_3.2.2.1)), (h4, .inl ((cA 0), 9, .inr (.inl u_3.2.2.2.1))), (h5, .inl ((cA 1), 510, .inl u_3.2.2.2.2.1)), (h6, .inl ((cA 0), 54, .inr (.inl u_3.2.2.2.2.2.1))), (h7, .inl ((cA 1), 170, .inl u_3.2.2.2.2.2.2.2.1)), (h8, .inl ((cA 0), 18, .inr (.inl u_3.2.2.2.2.2.2.2.2.1))), (h9, .inl ((cA 2), 2, .inl u_3.2.2.2.2.2.2.2.2.2.1)), (h10, .inl ((cA 1), 80, .inl u_3.2.2.2.2.2.2.2.2.2.2.1)), (h11, .inl ((cA 1), 60, .inl u_3.2.2.2.2.2.2.2.2.2.2.2.2.2.2.1))] H := hP
      have hD : va_D A [(h0, .inr (10, [.ref h1, .ref h2, .ref h3, .ref h4, .ref h5, .ref h6, .int u_3.2.2.2.2.2.2.1, .ref h7, .ref h8, .ref h9, .ref h10, .int u_3.2.2.2.2.2.2.2.2.2.2.2.1, .int u_3.2.2.2.2.2.2.2.2.2.2.2.2.1, .int u_3.2.2.2.2.2.2.2.2.2.2.2.2.2.1, .ref h11, .int u_3.2.2.2.2.2.2.2.2.2.2.2.2.2.2.2])), (h1, .inl ((cA 1), 85, .inl u_3.1)), (h2, .inl ((cA 0), 9, .inr (.inl u_3.2.1))), (h3, .inl ((cA 1), 85, .inl u_3.2.2.1)), (h4, .inl ((cA 0), 9, .inr (.inl u_3.2.2.2.1))), (h5, .inl ((cA 1), 510, .inl u_3.2.2.2.2.1)), (h6, .inl ((cA 0), 54, .inr (.inl u_3.2.2.2.2.2.1))), (h7, .inl ((cA 1), 170, .inl u_3.2.2.2.2.2.2.2.1)), (h8, .inl ((cA 0), 18, .inr (.inl u_3.2.2.2.2.2.2.2.2.1))), (h9, .inl ((cA 2), 2, .inl u_3.2.2.2.2.2.2.2.2.2.1)), (h10, .inl ((cA 1), 80, .inl u_3.2.2.2.2.2.2.2.2.2.2.1)), (h11, .inl ((cA 1), 60, .inl u_3.2.2.2.2.2.2.2.2.2.2.2.2.2.2.1))] := hD
      obtain ⟨er_4, eu_3⟩ := z_pr eu_3
      refine lv_goto (tgt := 39) hx hb dX10_calmIn_34 (by decide) ?_
      have e9 : (fm_calmIn v x1 (nI q0)) = (r_4, u_3) := by unfold fm_calmIn; simp only [if_neg c_1, if_neg c_2]; rw [nI_clamp (by omega)]; exact (Prod.ext er_4 eu_3).symm
      have hP9 : va_P D vwCl (wX10 cA h0 h1 h2 h3 h4 h5 h6 h7 h8 h9 h10 h11 (u_3 : vX10)) H := hP
      have hD9 : va_D A (wX10 cA h0 h1 h2 h3 h4 h5 h6 h7 h8 h9 h10 h11 (u_3 : vX10)) := hD
      subst hQ
      exact W.iret (v := r_4) hx hb hr (fun t ht hW => ⟨⟨r_4, u_3, rfl, e9.symm, ⟨by rw [ht]; exact hP9, va_K.moved hW.alike hK, hD9⟩⟩, hS.F ht⟩) hS.2.2 dX10_calmIn_39
set_option maxHeartbeats 4000000 in
set_option maxRecDepth 100000 in
theorem c_X10_bestLevel (l : Launch) (D : va_G) (cA : Nat → ClassId) (h0 h1 h2 h3 h4 h5 h6 h7 h8 h9 h10 h11 : Nat) (sz : Nat) (v : vX10) (x1 : Int32) (x2 : Int32) (hI : ∀ lv, lv < 5 → ∀ k, k ≤ x2.toNatClampNeg → MI (fm_it k (fm_c0 v (nI lv))).1) : Met l yX10_bestLevel wsX10_bestLevel ({ frames := 9, cells := 0, slots := 0, locals := 205 }) (va_Pc [.ref h0, .int x1, .int x2] (zPre D (zty cA) (wX10 cA h0 h1 h2 h3 h4 h5 h6 h7 h8 h9 h10 h11 v) sz)) (va_Qi (fun (x : Int32) (u : vX10) => (x, u) = (fm_best v x1 x2)) (fun u => zPost D (zty cA) (va_A (wX10 cA h0 h1 h2 h3 h4 h5 h6 h7 h8 h9 h10 h11 v) sz) (wX10 cA h0 h1 h2 h3 h4 h5 h6 h7 h8 h9 h10 h11 u)) (va_A (wX10 cA h0 h1 h2 h3 h4 h5 h6 h7 h8 h9 h10 h11 v) sz)) 0 0 (va_A (wX10 cA h0 h1 h2 h3 h4 h5 h6 h7 h8 h9 h10 h11 v) sz) := by
  refine Met.ofW (cc := cX10_bestLevel) (maxL := 7) (ret := (some .int)) (by decide) rfl ?_
  intro p e s m args below meth c s₁ B hml hv
  obtain ⟨rfl, hsz, hP, hK, hD0, hE⟩ := hv
  have hx := B.exec
  have hb := B.bytes
  have hr := B.returns
  have hts := atoms_spec (ws := wsX10_bestLevel) B.pre
  have hown : s.vm.findClass RX10 = some m.cls := findClass_of_methodNamed B.named
  have hlocks := B.notSynchronized
  have hinX10 : ∀ w ∈ u_ws RX10 TX10 16, w ∈ wsX10_bestLevel := fun w h => List.mem_cons_of_mem _ (List.mem_append_right _ h)
  subst hsz
  have hD := hD0.self (sz := s.heap.size)
  generalize hAe : va_A (wX10 cA h0 h1 h2 h3 h4 h5 h6 h7 h8 h9 h10 h11 v) s.heap.size = A at hD hE ⊢
  have hA : ∀ q : Nat, s.heap.size ≤ q → A q := fun q h => by rw [← hAe]; exact Or.inr h
  have hS : va_S A s.heap s.heap [] := va_S.rf
  have hN : zN s := hE.1
  have hP : va_P D vwCl [(h0, .inr (10, [.ref h1, .ref h2, .ref h3, .ref h4, .ref h5, .ref h6, .int v.2.2.2.2.2.2.1, .ref h7, .ref h8, .ref h9, .ref h10, .int v.2.2.2.2.2.2.2.2.2.2.2.1, .int v.2.2.2.2.2.2.2.2.2.2.2.2.1, .int v.2.2.2.2.2.2.2.2.2.2.2.2.2.1, .ref h11, .int v.2.2.2.2.2.2.2.2.2.2.2.2.2.2.2])), (h1, .inl ((cA 1), 85, .inl v.1)), (h2, .inl ((cA 0), 9, .inr (.inl v.2.1))), (h3, .inl ((cA 1), 85, .inl v.2.2.1)), (h4, .inl ((cA 0), 9, .inr (.inl v.2.2.2.1))), (h5, .inl ((cA 1), 510, .inl v.2.2.2.2.1)), (h6, .inl ((cA 0), 54, .inr (.inl v.2.2.2.2.2.1))), (h7, .inl ((cA 1), 170, .inl v.2.2.2.2.2.2.2.1)), (h8, .inl ((cA 0), 18, .inr (.inl v.2.2.2.2.2.2.2.2.1))), (h9, .inl ((cA 2), 2, .inl v.2.2.2.2.2.2.2.2.2.1)), (h10, .inl ((cA 1), 80, .inl v.2.2.2.2.2.2.2.2.2.2.1)), (h11, .inl ((cA 1), 60, .inl v.2.2.2.2.2.2.2.2.2.2.2.2.2.2.1))] s.heap := hP
  have hD : va_D A [(h0, .inr (10, [.ref h1, .ref h2, .ref h3, .ref h4, .ref h5, .ref h6, .int v.2.2.2.2.2.2.1, .ref h7, .ref h8, .ref h9, .ref h10, .int v.2.2.2.2.2.2.2.2.2.2.2.1, .int v.2.2.2.2.2.2.2.2.2.2.2.2.1, .int v.2.2.2.2.2.2.2.2.2.2.2.2.2.1, .ref h11, .int v.2.2.2.2.2.2.2.2.2.2.2.2.2.2.2])), (h1, .inl ((cA 1), 85, .inl v.1)), (h2, .inl ((cA 0), 9, .inr (.inl v.2.1))), (h3, .inl ((cA 1), 85, .inl v.2.2.1)), (h4, .inl ((cA 0), 9, .inr (.inl v.2.2.2.1))), (h5, .inl ((cA 1), 510, .inl v.2.2.2.2.1)), (h6, .inl ((cA 0), 54, .inr (.inl v.2.2.2.2.2.1))), (h7, .inl ((cA 1), 170, .inl v.2.2.2.2.2.2.2.1)), (h8, .inl ((cA 0), 18, .inr (.inl v.2.2.2.2.2.2.2.2.1))), (h9, .inl ((cA 2), 2, .inl v.2.2.2.2.2.2.2.2.2.1)), (h10, .inl ((cA 1), 80, .inl v.2.2.2.2.2.2.2.2.2.2.1)), (h11, .inl ((cA 1), 60, .inl v.2.2.2.2.2.2.2.2.2.2.2.2.2.2.1))] := hD
  have hl := lv_entry ([.ref h0, .int x1, .int x2]) (n := 7) (Nat.le_of_ble_eq_true rfl)
  rw [lg_entry_eq]
  generalize (lg_sl ([.ref h0, .int x1, .int x2]) ++ List.replicate (7 - (lg_sl ([.ref h0, .int x1, .int x2])).length) Slot.unset).toArray = ls at hl ⊢
  have hl : lv_has ls 7 [(0, .ref h0), (1, .int x1), (2, .int x2)] := hl
  refine z_genQ (fun Q hQ => ?_)
  refine lv_iload_n hx hb dX10_bestLevel_0 rfl (lv_at hl 1 rfl) ?_
  refine lv_iconst (v := 0) hx hb dX10_bestLevel_1 (by decide) ?_
  refine lv_ldc hx hb hown (hts (.constant RX10 98 (100000)) (List.mem_of_getElem? (i := 1) rfl)) dX10_bestLevel_2 ?_
  refine z_Ri (va_runS (As := [.int x1, .int (0 : Int32), .int (100000 : Int32)]) (rest := []) ⟨hx, hb, hml, hown, hts⟩ (c_X10_in l D cA  x1 (0 : Int32) (100000 : Int32)) (va_cwS 3 hts gX10_bestLevel_X10_in rfl rfl rfl (by decide +kernel) ⟨Nat.le_of_ble_eq_true rfl, Nat.le_of_ble_eq_true rfl⟩) (zqSR0 hK hN) rfl rfl hl.1 rfl (lv_room (Nat.le_of_ble_eq_true rfl)) dX10_bestLevel_4 ⟨Nat.le_of_ble_eq_true rfl, Nat.le_of_ble_eq_true rfl⟩) ?_
  refine lv_if_eq (tgt := 21) hx hb dX10_bestLevel_7 (by decide) (fun c_1 => ?_) (fun c_1 => ?_)
  · skip
    refine lv_bipush (v := -2) hx hb dX10_bestLevel_21 (by decide) ?_
    have e9 : (fm_best v x1 x2) = ((-2 : Int32), v) := by unfold fm_best; simp only [if_pos c_1] <;> rfl
    have hP9 : va_P D vwCl (wX10 cA h0 h1 h2 h3 h4 h5 h6 h7 h8 h9 h10 h11 (v : vX10)) s.heap := hP
    have hD9 : va_D A (wX10 cA h0 h1 h2 h3 h4 h5 h6 h7 h8 h9 h10 h11 (v : vX10)) := hD
    subst hQ
    exact W.iret (v := (-2 : Int32)) hx hb hr (fun t ht hW => ⟨⟨(-2 : Int32), v, rfl, e9.symm, ⟨by rw [ht]; exact hP9, va_K.moved hW.alike hK, hD9⟩⟩, hS.F ht⟩) hS.2.2 dX10_bestLevel_23
  · skip
    refine lv_iload_n hx hb dX10_bestLevel_10 rfl (lv_at hl 2 rfl) ?_
    refine lv_iconst (v := 1) hx hb dX10_bestLevel_11 (by decide) ?_
    refine lv_sipush (v := 500) hx hb dX10_bestLevel_12 (by decide) ?_
    refine z_Ri (va_runS (As := [.int x2, .int (1 : Int32), .int (500 : Int32)]) (rest := []) ⟨hx, hb, hml, hown, hts⟩ (c_X10_in l D cA  x2 (1 : Int32) (500 : Int32)) (va_cwS 3 hts gX10_bestLevel_X10_in rfl rfl rfl (by decide +kernel) ⟨Nat.le_of_ble_eq_true rfl, Nat.le_of_ble_eq_true rfl⟩) (zqSR0 hK hN) rfl rfl hl.1 rfl (lv_room (Nat.le_of_ble_eq_true rfl)) dX10_bestLevel_15 ⟨Nat.le_of_ble_eq_true rfl, Nat.le_of_ble_eq_true rfl⟩) ?_
    refine lv_if_ne (tgt := 24) hx hb dX10_bestLevel_18 (by decide) (fun c_2 => ?_) (fun c_2 => ?_)
    · skip
      obtain ⟨q0, hq, eq⟩ := z_ix600 (n := 501) c_2 (by decide) (by decide)
      subst eq
      refine lv_bipush (v := -6) hx hb dX10_bestLevel_24 (by decide) ?_
      refine lv_istore_n (lv' := [(3, .int (-6 : Int32)), (0, .ref h0), (1, .int x1), (2, .int (nI q0))]) hx hb dX10_bestLevel_26 rfl hl (by decide) rfl (fun ls hl => ?_)
      refine lv_iload_n hx hb dX10_bestLevel_27 rfl (lv_at hl 3 rfl) ?_
      refine lv_iconst (v := 1) hx hb dX10_bestLevel_28 (by decide) ?_
      refine lv_iadd hx hb dX10_bestLevel_29 ?_
      refine lv_istore (lv' := [(4, .int ((nI q0) + (1 : Int32))), (3, .int (-6 : Int32)), (0, .ref h0), (1, .int x1), (2, .int (nI q0))]) hx hb dX10_bestLevel_30 hl (by decide) rfl (fun ls hl => ?_)
      refine lv_iconst (v := 0) hx hb dX10_bestLevel_32 (by decide) ?_
      refine lv_istore (lv' := [(5, .int (0 : Int32)), (4, .int ((nI q0) + (1 : Int32))), (3, .int (-6 : Int32)), (0, .ref h0), (1, .int x1), (2, .int (nI q0))]) hx hb dX10_bestLevel_33 hl (by decide) rfl (fun ls hl => ?_)
      have L35 : ∀ (zn : Nat) (k : Nat), 5 - k < zn → (k ≤ 5) → ∀ (H : Heap) (locs : List Loc), va_P D vwCl [(h0, .inr (10, [.ref h1, .ref h2, .ref h3, .ref h4, .ref h5, .ref h6, .int (fm_bw v k).2.2.2.2.2.2.1, .ref h7, .ref h8, .ref h9, .ref h10, .int (fm_bw v k).2.2.2.2.2.2.2.2.2.2.2.1, .int (fm_bw v k).2.2.2.2.2.2.2.2.2.2.2.2.1, .int (fm_bw v k).2.2.2.2.2.2.2.2.2.2.2.2.2.1, .ref h11, .int (fm_bw v k).2.2.2.2.2.2.2.2.2.2.2.2.2.2.2])), (h1, .inl ((cA 1), 85, .inl (fm_bw v k).1)), (h2, .inl ((cA 0), 9, .inr (.inl (fm_bw v k).2.1))), (h3, .inl ((cA 1), 85, .inl (fm_bw v k).2.2.1)), (h4, .inl ((cA 0), 9, .inr (.inl (fm_bw v k).2.2.2.1))), (h5, .inl ((cA 1), 510, .inl (fm_bw v k).2.2.2.2.1)), (h6, .inl ((cA 0), 54, .inr (.inl (fm_bw v k).2.2.2.2.2.1))), (h7, .inl ((cA 1), 170, .inl (fm_bw v k).2.2.2.2.2.2.2.1)), (h8, .inl ((cA 0), 18, .inr (.inl (fm_bw v k).2.2.2.2.2.2.2.2.1))), (h9, .inl ((cA 2), 2, .inl (fm_bw v k).2.2.2.2.2.2.2.2.2.1)), (h10, .inl ((cA 1), 80, .inl (fm_bw v k).2.2.2.2.2.2.2.2.2.2.1)), (h11, .inl ((cA 1), 60, .inl (fm_bw v k).2.2.2.2.2.2.2.2.2.2.2.2.2.2.1))] H → va_D A [(h0, .inr (10, [.ref h1, .ref h2, .ref h3, .ref h4, .ref h5, .ref h6, .int (fm_bw v k).2.2.2.2.2.2.1, .ref h7, .ref h8, .ref h9, .ref h10, .int (fm_bw v k).2.2.2.2.2.2.2.2.2.2.2.1, .int (fm_bw v k).2.2.2.2.2.2.2.2.2.2.2.2.1, .int (fm_bw v k).2.2.2.2.2.2.2.2.2.2.2.2.2.1, .ref h11, .int (fm_bw v k).2.2.2.2.2.2.2.2.2.2.2.2.2.2.2])), (h1, .inl ((cA 1), 85, .inl (fm_bw v k).1)), (h2, .inl ((cA 0), 9, .inr (.inl (fm_bw v k).2.1))), (h3, .inl ((cA 1), 85, .inl (fm_bw v k).2.2.1)), (h4, .inl ((cA 0), 9, .inr (.inl (fm_bw v k).2.2.2.1))), (h5, .inl ((cA 1), 510, .inl (fm_bw v k).2.2.2.2.1)), (h6, .inl ((cA 0), 54, .inr (.inl (fm_bw v k).2.2.2.2.2.1))), (h7, .inl ((cA 1), 170, .inl (fm_bw v k).2.2.2.2.2.2.2.1)), (h8, .inl ((cA 0), 18, .inr (.inl (fm_bw v k).2.2.2.2.2.2.2.2.1))), (h9, .inl ((cA 2), 2, .inl (fm_bw v k).2.2.2.2.2.2.2.2.2.1)), (h10, .inl ((cA 1), 80, .inl (fm_bw v k).2.2.2.2.2.2.2.2.2.2.1)), (h11, .inl ((cA 1), 60, .inl (fm_bw v k).2.2.2.2.2.2.2.2.2.2.2.2.2.2.1))] → va_S A s.heap H locs → ∀ (ls : Array Slot), lv_has ls 7 [(5, .int (nI k)), (4, .int (fm_bl q0 v x1 k).2), (3, .int (fm_bl q0 v x1 k).1), (0, .ref h0), (1, .int x1), (2, .int (nI q0))] → W p l e (headSpec wsX10_bestLevel ({ frames := 9, cells := 0, slots := 0, locals := 205 })).room s m (([.ref h0, .int x1, .int (nI q0)] : List Value).toArray) below meth c H locs 0 0 Q (F0 m 35 ls []) := by
        intro zn
        induction zn with
        | zero =>
          intro k hm
          exact absurd hm (Nat.not_lt_zero _)
        | succ zn ih =>
          intro k hm hk H locs hP hD hS ls hl
          refine lv_iload hx hb dX10_bestLevel_35 (lv_at hl 0 rfl) ?_
          refine lv_iconst (v := 4) hx hb dX10_bestLevel_37 (by decide) ?_
          refine lv_icmp_gt (tgt := 76) hx hb dX10_bestLevel_38 (by decide) (fun c_3 => ?_) (fun c_3 => ?_)
          · skip
            have ek5 : k = 5 := by have h4 : ¬ k ≤ 4 := fun h => nI_ge (a := k) (b := 5) (by omega) (by decide) (by have h5 := c_3; have h6 := (nI_ltI (a := 4) (b := k) (by decide) (by omega)).mp h5; omega); omega
            refine lv_iload_n hx hb dX10_bestLevel_76 rfl (lv_at hl 2 rfl) ?_
            have e9 : (fm_best v x1 (nI q0)) = ((fm_bl q0 v x1 k).1, (fm_bw v k)) := by unfold fm_best; simp only [if_neg c_1, if_neg c_2]; rw [nI_clamp (by omega), ek5] <;> rfl
            have hP9 : va_P D vwCl (wX10 cA h0 h1 h2 h3 h4 h5 h6 h7 h8 h9 h10 h11 ((fm_bw v k) : vX10)) H := hP
            have hD9 : va_D A (wX10 cA h0 h1 h2 h3 h4 h5 h6 h7 h8 h9 h10 h11 ((fm_bw v k) : vX10)) := hD
            subst hQ
            exact W.iret (v := (fm_bl q0 v x1 k).1) hx hb hr (fun t ht hW => ⟨⟨(fm_bl q0 v x1 k).1, (fm_bw v k), rfl, e9.symm, ⟨by rw [ht]; exact hP9, va_K.moved hW.alike hK, hD9⟩⟩, hS.F ht⟩) hS.2.2 dX10_bestLevel_77
          · skip
            have hk5 : k < 5 := by have h5 : ¬ 4 < k := fun h => c_3 (nI_lt (a := 4) (b := k) h (by omega)); omega
            refine lv_aload_n hx hb dX10_bestLevel_41 rfl (lv_at hl 3 rfl) ?_
            refine lv_iload hx hb dX10_bestLevel_42 (lv_at hl 0 rfl) ?_
            refine lv_iload_n hx hb dX10_bestLevel_44 rfl (lv_at hl 4 rfl) ?_
            refine lv_iload_n hx hb dX10_bestLevel_45 rfl (lv_at hl 5 rfl) ?_
            refine z_Hi (wt := fun (u_4 : vX10) => [(h0, .inr (10, [.ref h1, .ref h2, .ref h3, .ref h4, .ref h5, .ref h6, .int u_4.2.2.2.2.2.2.1, .ref h7, .ref h8, .ref h9, .ref h10, .int u_4.2.2.2.2.2.2.2.2.2.2.2.1, .int u_4.2.2.2.2.2.2.2.2.2.2.2.2.1, .int u_4.2.2.2.2.2.2.2.2.2.2.2.2.2.1, .ref h11, .int u_4.2.2.2.2.2.2.2.2.2.2.2.2.2.2.2])), (h1, .inl ((cA 1), 85, .inl u_4.1)), (h2, .inl ((cA 0), 9, .inr (.inl u_4.2.1))), (h3, .inl ((cA 1), 85, .inl u_4.2.2.1)), (h4, .inl ((cA 0), 9, .inr (.inl u_4.2.2.2.1))), (h5, .inl ((cA 1), 510, .inl u_4.2.2.2.2.1)), (h6, .inl ((cA 0), 54, .inr (.inl u_4.2.2.2.2.2.1))), (h7, .inl ((cA 1), 170, .inl u_4.2.2.2.2.2.2.2.1)), (h8, .inl ((cA 0), 18, .inr (.inl u_4.2.2.2.2.2.2.2.2.1))), (h9, .inl ((cA 2), 2, .inl u_4.2.2.2.2.2.2.2.2.2.1)), (h10, .inl ((cA 1), 80, .inl u_4.2.2.2.2.2.2.2.2.2.2.1)), (h11, .inl ((cA 1), 60, .inl u_4.2.2.2.2.2.2.2.2.2.2.2.2.2.2.1))]) (va_runV (As := [.int (nI k), .int x1, .int (nI q0)]) (rest := []) ⟨hx, hb, hml, hown, hts⟩ (c_X10_calmBy l D cA h0 h1 h2 h3 h4 h5 h6 h7 h8 h9 h10 h11 H.size q0 (fm_bw v k) (nI k) x1 (by omega) (fun j hj => by rw [bw_c0]; exact hI k hk5 j (by rw [nI_clamp (by omega)]; exact hj))) (cwV 3 hts gX10_bestLevel_X10_calmBy rfl rfl rfl (by decide +kernel) ⟨Nat.le_of_ble_eq_true rfl, Nat.le_of_ble_eq_true rfl⟩) (zqV hK hP hD hS hA hE (z_c1 (a := []) (b := []) rfl) 0 rfl rfl) rfl rfl hl.1 rfl (lv_room (Nat.le_of_ble_eq_true rfl)) dX10_bestLevel_46 ⟨Nat.le_of_ble_eq_true rfl, Nat.le_of_ble_eq_true rfl⟩) hP hD hS hA (z_c1 (a := []) (b := []) rfl) (fun u_4 => (z_c1' (a := []) (b := []) rfl)) (fun r_5 u_4 H locs eu_4 hP hD hS => ?_)
            have hP : va_P D vwCl [(h0, .inr (10, [.ref h1, .ref h2, .ref h3, .ref h4, .ref h5, .ref h6, .int u_4.2.2.2.2.2.2.1, .ref h7, .ref h8, .ref h9, .ref h10, .int u_4.2.2.2.2.2.2.2.2.2.2.2.1, .int u_4.2.2.2.2.2.2.2.2.2.2.2.2.1, .int u_4.2.2.2.2.2.2.2.2.2.2.2.2.2.1, .ref h11, .int u_4.2.2.2.2.2.2.2.2.2.2.2.2.2.2.2])), (h1, .inl ((cA 1), 85, .inl u_4.1)), (h2, .inl ((cA 0), 9, .inr (.inl u_4.2.1))), (h3, .inl ((cA 1), 85, .inl u_4.2.2.1)), (h4, .inl ((cA 0), 9, .inr (.inl u_4.2.2.2.1))), (h5, .inl ((cA 1), 510, .inl u_4.2.2.2.2.1)), (h6, .inl ((cA 0), 54, .inr (.inl u_4.2.2.2.2.2.1))), (h7, .inl ((cA 1), 170, .inl u_4.2.2.2.2.2.2.2.1)), (h8, .inl ((cA 0), 18, .inr (.inl u_4.2.2.2.2.2.2.2.2.1))), (h9, .inl ((cA 2), 2, .inl u_4.2.2.2.2.2.2.2.2.2.1)), (h10, .inl ((cA 1), 80, .inl u_4.2.2.2.2.2.2.2.2.2.2.1)), (h11, .inl ((cA 1), 60, .inl u_4.2.2.2.2.2.2.2.2.2.2.2.2.2.2.1))] H := hP
            have hD : va_D A [(h0, .inr (10, [.ref h1, .ref h2, .ref h3, .ref h4, .ref h5, .ref h6, .int u_4.2.2.2.2.2.2.1, .ref h7, .ref h8, .ref h9, .ref h10, .int u_4.2.2.2.2.2.2.2.2.2.2.2.1, .int u_4.2.2.2.2.2.2.2.2.2.2.2.2.1, .int u_4.2.2.2.2.2.2.2.2.2.2.2.2.2.1, .ref h11, .int u_4.2.2.2.2.2.2.2.2.2.2.2.2.2.2.2])), (h1, .inl ((cA 1), 85, .inl u_4.1)), (h2, .inl ((cA 0), 9, .inr (.inl u_4.2.1))), (h3, .inl ((cA 1), 85, .inl u_4.2.2.1)), (h4, .inl ((cA 0), 9, .inr (.inl u_4.2.2.2.1))), (h5, .inl ((cA 1), 510, .inl u_4.2.2.2.2.1)), (h6, .inl ((cA 0), 54, .inr (.inl u_4.2.2.2.2.2.1))), (h7, .inl ((cA 1), 170, .inl u_4.2.2.2.2.2.2.2.1)), (h8, .inl ((cA 0), 18, .inr (.inl u_4.2.2.2.2.2.2.2.2.1))), (h9, .inl ((cA 2), 2, .inl u_4.2.2.2.2.2.2.2.2.2.1)), (h10, .inl ((cA 1), 80, .inl u_4.2.2.2.2.2.2.2.2.2.2.1)), (h11, .inl ((cA 1), 60, .inl u_4.2.2.2.2.2.2.2.2.2.2.2.2.2.2.1))] := hD
            obtain ⟨er_5, eu_4⟩ := z_pr eu_4
            have eo : r_5 = fm_look x1 q0 0 (fm_c0 v (nI k)) := by rw [er_5]; show fm_look x1 q0 0 (fm_c0 (fm_bw v k) (nI k)) = _; rw [bw_c0]
            have ew : u_4 = fm_bw v (k + 1) := by rw [eu_4]; exact bw_as v k
            subst ew
            have hP : va_P D vwCl [(h0, .inr (10, [.ref h1, .ref h2, .ref h3, .ref h4, .ref h5, .ref h6, .int (fm_bw v (k + 1)).2.2.2.2.2.2.1, .ref h7, .ref h8, .ref h9, .ref h10, .int (fm_bw v (k + 1)).2.2.2.2.2.2.2.2.2.2.2.1, .int (fm_bw v (k + 1)).2.2.2.2.2.2.2.2.2.2.2.2.1, .int (fm_bw v (k + 1)).2.2.2.2.2.2.2.2.2.2.2.2.2.1, .ref h11, .int (fm_bw v (k + 1)).2.2.2.2.2.2.2.2.2.2.2.2.2.2.2])), (h1, .inl ((cA 1), 85, .inl (fm_bw v (k + 1)).1)), (h2, .inl ((cA 0), 9, .inr (.inl (fm_bw v (k + 1)).2.1))), (h3, .inl ((cA 1), 85, .inl (fm_bw v (k + 1)).2.2.1)), (h4, .inl ((cA 0), 9, .inr (.inl (fm_bw v (k + 1)).2.2.2.1))), (h5, .inl ((cA 1), 510, .inl (fm_bw v (k + 1)).2.2.2.2.1)), (h6, .inl ((cA 0), 54, .inr (.inl (fm_bw v (k + 1)).2.2.2.2.2.1))), (h7, .inl ((cA 1), 170, .inl (fm_bw v (k + 1)).2.2.2.2.2.2.2.1)), (h8, .inl ((cA 0), 18, .inr (.inl (fm_bw v (k + 1)).2.2.2.2.2.2.2.2.1))), (h9, .inl ((cA 2), 2, .inl (fm_bw v (k + 1)).2.2.2.2.2.2.2.2.2.1)), (h10, .inl ((cA 1), 80, .inl (fm_bw v (k + 1)).2.2.2.2.2.2.2.2.2.2.1)), (h11, .inl ((cA 1), 60, .inl (fm_bw v (k + 1)).2.2.2.2.2.2.2.2.2.2.2.2.2.2.1))] H := hP
            have hD : va_D A [(h0, .inr (10, [.ref h1, .ref h2, .ref h3, .ref h4, .ref h5, .ref h6, .int (fm_bw v (k + 1)).2.2.2.2.2.2.1, .ref h7, .ref h8, .ref h9, .ref h10, .int (fm_bw v (k + 1)).2.2.2.2.2.2.2.2.2.2.2.1, .int (fm_bw v (k + 1)).2.2.2.2.2.2.2.2.2.2.2.2.1, .int (fm_bw v (k + 1)).2.2.2.2.2.2.2.2.2.2.2.2.2.1, .ref h11, .int (fm_bw v (k + 1)).2.2.2.2.2.2.2.2.2.2.2.2.2.2.2])), (h1, .inl ((cA 1), 85, .inl (fm_bw v (k + 1)).1)), (h2, .inl ((cA 0), 9, .inr (.inl (fm_bw v (k + 1)).2.1))), (h3, .inl ((cA 1), 85, .inl (fm_bw v (k + 1)).2.2.1)), (h4, .inl ((cA 0), 9, .inr (.inl (fm_bw v (k + 1)).2.2.2.1))), (h5, .inl ((cA 1), 510, .inl (fm_bw v (k + 1)).2.2.2.2.1)), (h6, .inl ((cA 0), 54, .inr (.inl (fm_bw v (k + 1)).2.2.2.2.2.1))), (h7, .inl ((cA 1), 170, .inl (fm_bw v (k + 1)).2.2.2.2.2.2.2.1)), (h8, .inl ((cA 0), 18, .inr (.inl (fm_bw v (k + 1)).2.2.2.2.2.2.2.2.1))), (h9, .inl ((cA 2), 2, .inl (fm_bw v (k + 1)).2.2.2.2.2.2.2.2.2.1)), (h10, .inl ((cA 1), 80, .inl (fm_bw v (k + 1)).2.2.2.2.2.2.2.2.2.2.1)), (h11, .inl ((cA 1), 60, .inl (fm_bw v (k + 1)).2.2.2.2.2.2.2.2.2.2.2.2.2.2.1))] := hD
            refine lv_istore (lv' := [(6, .int r_5), (5, .int (nI k)), (4, .int (fm_bl q0 v x1 k).2), (3, .int (fm_bl q0 v x1 k).1), (0, .ref h0), (1, .int x1), (2, .int (nI q0))]) hx hb dX10_bestLevel_49 hl (by decide) rfl (fun ls hl => ?_)
            refine lv_iload hx hb dX10_bestLevel_51 (lv_at hl 0 rfl) ?_
            refine lv_if_lt (tgt := 70) hx hb dX10_bestLevel_53 (by decide) (fun c_6 => ?_) (fun c_6 => ?_)
            · skip
              refine lv_iinc (v := (nI (k + 1))) (lv' := [(5, .int (nI (k + 1))), (6, .int r_5), (4, .int (fm_bl q0 v x1 k).2), (3, .int (fm_bl q0 v x1 k).1), (0, .ref h0), (1, .int x1), (2, .int (nI q0))]) hx hb dX10_bestLevel_70 hl (k := 1) rfl (nI_1 k) (by decide) rfl (fun ls hl => ?_)
              refine lv_goto (tgt := 35) hx hb dX10_bestLevel_73 (by decide) ?_
              have hb : fm_bl q0 v x1 (k + 1) = ((fm_bl q0 v x1 k).1, (fm_bl q0 v x1 k).2) := by show (if fm_look x1 q0 0 (fm_c0 v (nI k)) < 0 then fm_bl q0 v x1 k else if (fm_bl q0 v x1 k).2 ≤ fm_look x1 q0 0 (fm_c0 v (nI k)) then fm_bl q0 v x1 k else (nI k, fm_look x1 q0 0 (fm_c0 v (nI k)))) = _; rw [← eo, if_pos c_6]
              exact ih (k + 1) (by omega) (by omega) _ _ hP hD hS ls (by rw [hb]; exact lv_sub hl [0, 2, 3, 4, 5, 6] rfl)
            · skip
              refine lv_iload hx hb dX10_bestLevel_56 (lv_at hl 0 rfl) ?_
              refine lv_iload hx hb dX10_bestLevel_58 (lv_at hl 2 rfl) ?_
              refine lv_icmp_ge (tgt := 70) hx hb dX10_bestLevel_60 (by decide) (fun c_7 => ?_) (fun c_7 => ?_)
              · skip
                refine lv_iinc (v := (nI (k + 1))) (lv' := [(5, .int (nI (k + 1))), (6, .int r_5), (4, .int (fm_bl q0 v x1 k).2), (3, .int (fm_bl q0 v x1 k).1), (0, .ref h0), (1, .int x1), (2, .int (nI q0))]) hx hb dX10_bestLevel_70 hl (k := 1) rfl (nI_1 k) (by decide) rfl (fun ls hl => ?_)
                refine lv_goto (tgt := 35) hx hb dX10_bestLevel_73 (by decide) ?_
                have hb : fm_bl q0 v x1 (k + 1) = ((fm_bl q0 v x1 k).1, (fm_bl q0 v x1 k).2) := by show (if fm_look x1 q0 0 (fm_c0 v (nI k)) < 0 then fm_bl q0 v x1 k else if (fm_bl q0 v x1 k).2 ≤ fm_look x1 q0 0 (fm_c0 v (nI k)) then fm_bl q0 v x1 k else (nI k, fm_look x1 q0 0 (fm_c0 v (nI k)))) = _; rw [← eo, if_neg c_6, if_pos c_7]
                exact ih (k + 1) (by omega) (by omega) _ _ hP hD hS ls (by rw [hb]; exact lv_sub hl [0, 2, 3, 4, 5, 6] rfl)
              · skip
                refine lv_iload hx hb dX10_bestLevel_63 (lv_at hl 1 rfl) ?_
                refine lv_istore_n (lv' := [(3, .int (nI k)), (6, .int r_5), (5, .int (nI k)), (4, .int (fm_bl q0 v x1 k).2), (0, .ref h0), (1, .int x1), (2, .int (nI q0))]) hx hb dX10_bestLevel_65 rfl hl (by decide) rfl (fun ls hl => ?_)
                refine lv_iload hx hb dX10_bestLevel_66 (lv_at hl 1 rfl) ?_
                refine lv_istore (lv' := [(4, .int r_5), (3, .int (nI k)), (6, .int r_5), (5, .int (nI k)), (0, .ref h0), (1, .int x1), (2, .int (nI q0))]) hx hb dX10_bestLevel_68 hl (by decide) rfl (fun ls hl => ?_)
                refine lv_iinc (v := (nI (k + 1))) (lv' := [(5, .int (nI (k + 1))), (4, .int r_5), (3, .int (nI k)), (6, .int r_5), (0, .ref h0), (1, .int x1), (2, .int (nI q0))]) hx hb dX10_bestLevel_70 hl (k := 3) rfl (nI_1 k) (by decide) rfl (fun ls hl => ?_)
                refine lv_goto (tgt := 35) hx hb dX10_bestLevel_73 (by decide) ?_
                have hb : fm_bl q0 v x1 (k + 1) = ((nI k), r_5) := by show (if fm_look x1 q0 0 (fm_c0 v (nI k)) < 0 then fm_bl q0 v x1 k else if (fm_bl q0 v x1 k).2 ≤ fm_look x1 q0 0 (fm_c0 v (nI k)) then fm_bl q0 v x1 k else (nI k, fm_look x1 q0 0 (fm_c0 v (nI k)))) = _; rw [← eo, if_neg c_6, if_neg c_7]
                exact ih (k + 1) (by omega) (by omega) _ _ hP hD hS ls (by rw [hb]; exact lv_sub hl [0, 1, 2, 4, 5, 6] rfl)
      exact L35 (5 + 1) (0) (by omega) (Nat.zero_le _) _ _ hP hD hS ls (lv_sub hl [0, 1, 2, 3, 4, 5] rfl)
    · skip
      refine lv_bipush (v := -2) hx hb dX10_bestLevel_21 (by decide) ?_
      have e9 : (fm_best v x1 x2) = ((-2 : Int32), v) := by unfold fm_best; simp only [if_neg c_1, if_pos c_2] <;> rfl
      have hP9 : va_P D vwCl (wX10 cA h0 h1 h2 h3 h4 h5 h6 h7 h8 h9 h10 h11 (v : vX10)) s.heap := hP
      have hD9 : va_D A (wX10 cA h0 h1 h2 h3 h4 h5 h6 h7 h8 h9 h10 h11 (v : vX10)) := hD
      subst hQ
      exact W.iret (v := (-2 : Int32)) hx hb hr (fun t ht hW => ⟨⟨(-2 : Int32), v, rfl, e9.symm, ⟨by rw [ht]; exact hP9, va_K.moved hW.alike hK, hD9⟩⟩, hS.F ht⟩) hS.2.2 dX10_bestLevel_23
