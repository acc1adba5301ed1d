set_option maxHeartbeats 4000000 in
set_option maxRecDepth 100000 in
theorem c_L_back (l : Launch) (D : va_G) (cA : Nat → ClassId) (g : Nat → Nat) (sz : Nat) {t : vTv} {w : vX10} (x1 : Int32) (n : Nat) (hR : Rel t w) (hI : IV n w) (hn : n < 80000) : Met l yL_back wsL_back ({ frames := 7, cells := 120, slots := 700, locals := 153 }) (va_Pc [.ref (g 0), .int x1] (zPre D (zty cA) (zTr cA g t) sz)) (va_Qi (fun (x : Int32) (u : vTv) => x = 1 ∧ ∃ w9, Rel u w9 ∧ True) (fun u => zPost D (zty cA) (va_A (zTr cA g t) sz) (zTr cA g u)) (va_A (zTr cA g t) sz)) 120 700 (va_A (zTr cA g t) sz) := by
  refine Met.ofW (cc := cL_back) (maxL := 11) (ret := (some .boolean)) (by decide) rfl ?_
  intro p e s m args below meth c s₁ B hml hv
  obtain ⟨rfl, hsz, hP, hK, hD0, hE⟩ := hv
  have hx := B.exec
  have hb := B.bytes
  have hr := B.returns
  have hts := atoms_spec (ws := wsL_back) B.pre
  have hown : s.vm.findClass RL = some m.cls := findClass_of_methodNamed B.named
  subst hsz
  have hD := hD0.self (sz := s.heap.size)
  generalize hAe : va_A (zTr cA g t) s.heap.size = A at hD hE ⊢
  have hA : ∀ q : Nat, s.heap.size ≤ q → A q := fun q h => by rw [← hAe]; exact Or.inr h
  have hS : va_S A s.heap s.heap [] := va_S.rf
  have hN : zN s := hE.1
  have hP : va_P D vwCl (zTr cA g t) s.heap := hP
  have hD : va_D A (zTr cA g t) := hD
  have hl := lv_entry ([.ref (g 0), .int x1]) (n := 11) (Nat.le_of_ble_eq_true rfl)
  rw [lg_entry_eq]
  generalize (lg_sl ([.ref (g 0), .int x1]) ++ List.replicate (11 - (lg_sl ([.ref (g 0), .int x1])).length) Slot.unset).toArray = ls at hl ⊢
  have hl : lv_has ls 11 [(0, .ref (g 0)), (1, .int x1)] := hl
  refine z_genQ (fun Q hQ => ?_)
  refine lv_aload_n hx hb dL_back_0 rfl (lv_at hl 0 rfl) ?_
  refine lv_iconst (v := 0) hx hb dL_back_1 (by decide) ?_
  refine z_Ri (va_runV (As := [.int (0 : Int32)]) (rest := []) ⟨hx, hb, hml, hown, hts⟩ (d_X9_compass l D cA g (0 : Int32) hR) (cwV 1 hts gL_back_X9_compass rfl rfl rfl (by decide +kernel) ⟨Nat.le_of_ble_eq_true rfl, Nat.le_of_ble_eq_true rfl⟩) (zqVR (wr := []) (wc := zTr cA g t) hK hP hN (List.Perm.refl _) 0 rfl rfl) rfl rfl hl.1 rfl (lv_room (Nat.le_of_ble_eq_true rfl)) dL_back_2 ⟨Nat.le_of_ble_eq_true rfl, Nat.le_of_ble_eq_true rfl⟩) ?_
  refine lv_topi (fun v_1 ev_1 => ?_)
  rw [fk_0] at ev_1
  refine lv_istore_n (lv' := [(2, .int v_1), (0, .ref (g 0)), (1, .int x1)]) hx hb dL_back_5 rfl hl (by decide) rfl (fun ls hl => ?_)
  refine lv_aload_n hx hb dL_back_6 rfl (lv_at hl 1 rfl) ?_
  refine lv_iconst (v := 1) hx hb dL_back_7 (by decide) ?_
  refine z_Ri (va_runV (As := [.int (1 : Int32)]) (rest := []) ⟨hx, hb, hml, hown, hts⟩ (d_X9_compass l D cA g (1 : Int32) hR) (cwV 1 hts gL_back_X9_compass rfl rfl rfl (by decide +kernel) ⟨Nat.le_of_ble_eq_true rfl, Nat.le_of_ble_eq_true rfl⟩) (zqVR (wr := []) (wc := zTr cA g t) hK hP hN (List.Perm.refl _) 0 rfl rfl) rfl rfl hl.1 rfl (lv_room (Nat.le_of_ble_eq_true rfl)) dL_back_8 ⟨Nat.le_of_ble_eq_true rfl, Nat.le_of_ble_eq_true rfl⟩) ?_
  refine lv_topi (fun v_2 ev_2 => ?_)
  rw [fk_1] at ev_2
  refine lv_istore_n (lv' := [(3, .int v_2), (2, .int v_1), (0, .ref (g 0)), (1, .int x1)]) hx hb dL_back_11 rfl hl (by decide) rfl (fun ls hl => ?_)
  refine lv_aload_n hx hb dL_back_12 rfl (lv_at hl 2 rfl) ?_
  refine lv_iconst (v := 2) hx hb dL_back_13 (by decide) ?_
  refine z_Ri (va_runV (As := [.int (2 : Int32)]) (rest := []) ⟨hx, hb, hml, hown, hts⟩ (d_X9_compass l D cA g (2 : Int32) hR) (cwV 1 hts gL_back_X9_compass rfl rfl rfl (by decide +kernel) ⟨Nat.le_of_ble_eq_true rfl, Nat.le_of_ble_eq_true rfl⟩) (zqVR (wr := []) (wc := zTr cA g t) hK hP hN (List.Perm.refl _) 0 rfl rfl) rfl rfl hl.1 rfl (lv_room (Nat.le_of_ble_eq_true rfl)) dL_back_14 ⟨Nat.le_of_ble_eq_true rfl, Nat.le_of_ble_eq_true rfl⟩) ?_
  refine lv_topi (fun v_3 ev_3 => ?_)
  rw [fk_2] at ev_3
  refine lv_istore (lv' := [(4, .int v_3), (3, .int v_2), (2, .int v_1), (0, .ref (g 0)), (1, .int x1)]) hx hb dL_back_17 hl (by decide) rfl (fun ls hl => ?_)
  refine lv_aload_n hx hb dL_back_19 rfl (lv_at hl 3 rfl) ?_
  refine lv_iconst (v := 0) hx hb dL_back_20 (by decide) ?_
  refine z_Ri (va_runV (As := [.int (0 : Int32)]) (rest := []) ⟨hx, hb, hml, hown, hts⟩ (d_X9_state l D cA g (0 : Int32) hR) (cwV 1 hts gL_back_X9_state rfl rfl rfl (by decide +kernel) ⟨Nat.le_of_ble_eq_true rfl, Nat.le_of_ble_eq_true rfl⟩) (zqVR (wr := []) (wc := zTr cA g t) hK hP hN (List.Perm.refl _) 0 rfl rfl) rfl rfl hl.1 rfl (lv_room (Nat.le_of_ble_eq_true rfl)) dL_back_21 ⟨Nat.le_of_ble_eq_true rfl, Nat.le_of_ble_eq_true rfl⟩) ?_
  refine lv_topi (fun v_4 ev_4 => ?_)
  rw [fs_0] at ev_4
  refine lv_istore (lv' := [(5, .int v_4), (4, .int v_3), (3, .int v_2), (2, .int v_1), (0, .ref (g 0)), (1, .int x1)]) hx hb dL_back_24 hl (by decide) rfl (fun ls hl => ?_)
  refine lv_aload_n hx hb dL_back_26 rfl (lv_at hl 4 rfl) ?_
  refine lv_bipush (v := 13) hx hb dL_back_27 (by decide) ?_
  refine z_Ri (va_runV (As := [.int (13 : Int32)]) (rest := []) ⟨hx, hb, hml, hown, hts⟩ (d_X9_state l D cA g (13 : Int32) hR) (cwV 1 hts gL_back_X9_state rfl rfl rfl (by decide +kernel) ⟨Nat.le_of_ble_eq_true rfl, Nat.le_of_ble_eq_true rfl⟩) (zqVR (wr := []) (wc := zTr cA g t) hK hP hN (List.Perm.refl _) 0 rfl rfl) rfl rfl hl.1 rfl (lv_room (Nat.le_of_ble_eq_true rfl)) dL_back_29 ⟨Nat.le_of_ble_eq_true rfl, Nat.le_of_ble_eq_true rfl⟩) ?_
  refine lv_topi (fun v_5 ev_5 => ?_)
  rw [fs_13] at ev_5
  refine lv_istore (lv' := [(6, .int v_5), (5, .int v_4), (4, .int v_3), (3, .int v_2), (2, .int v_1), (0, .ref (g 0)), (1, .int x1)]) hx hb dL_back_32 hl (by decide) rfl (fun ls hl => ?_)
  refine lv_aload_n hx hb dL_back_34 rfl (lv_at hl 5 rfl) ?_
  refine lv_iconst (v := 4) hx hb dL_back_35 (by decide) ?_
  refine z_Ri (va_runV (As := [.int (4 : Int32)]) (rest := []) ⟨hx, hb, hml, hown, hts⟩ (d_X9_compass l D cA g (4 : Int32) hR) (cwV 1 hts gL_back_X9_compass rfl rfl rfl (by decide +kernel) ⟨Nat.le_of_ble_eq_true rfl, Nat.le_of_ble_eq_true rfl⟩) (zqVR (wr := []) (wc := zTr cA g t) hK hP hN (List.Perm.refl _) 0 rfl rfl) rfl rfl hl.1 rfl (lv_room (Nat.le_of_ble_eq_true rfl)) dL_back_36 ⟨Nat.le_of_ble_eq_true rfl, Nat.le_of_ble_eq_true rfl⟩) ?_
  refine lv_topi (fun v_6 ev_6 => ?_)
  rw [fk_4] at ev_6
  refine lv_istore (lv' := [(7, .int v_6), (6, .int v_5), (5, .int v_4), (4, .int v_3), (3, .int v_2), (2, .int v_1), (0, .ref (g 0)), (1, .int x1)]) hx hb dL_back_39 hl (by decide) rfl (fun ls hl => ?_)
  refine lv_aload_n hx hb dL_back_41 rfl (lv_at hl 6 rfl) ?_
  refine lv_iconst (v := 5) hx hb dL_back_42 (by decide) ?_
  refine z_Ri (va_runV (As := [.int (5 : Int32)]) (rest := []) ⟨hx, hb, hml, hown, hts⟩ (d_X9_compass l D cA g (5 : Int32) hR) (cwV 1 hts gL_back_X9_compass rfl rfl rfl (by decide +kernel) ⟨Nat.le_of_ble_eq_true rfl, Nat.le_of_ble_eq_true rfl⟩) (zqVR (wr := []) (wc := zTr cA g t) hK hP hN (List.Perm.refl _) 0 rfl rfl) rfl rfl hl.1 rfl (lv_room (Nat.le_of_ble_eq_true rfl)) dL_back_43 ⟨Nat.le_of_ble_eq_true rfl, Nat.le_of_ble_eq_true rfl⟩) ?_
  refine lv_topi (fun v_7 ev_7 => ?_)
  rw [fk_5] at ev_7
  refine lv_istore (lv' := [(8, .int v_7), (7, .int v_6), (6, .int v_5), (5, .int v_4), (4, .int v_3), (3, .int v_2), (2, .int v_1), (0, .ref (g 0)), (1, .int x1)]) hx hb dL_back_46 hl (by decide) rfl (fun ls hl => ?_)
  refine lv_aload_n hx hb dL_back_48 rfl (lv_at hl 7 rfl) ?_
  refine lv_iconst (v := 1) hx hb dL_back_49 (by decide) ?_
  refine lv_iload_n hx hb dL_back_50 rfl (lv_at hl 8 rfl) ?_
  refine lv_bipush (v := 100) hx hb dL_back_51 (by decide) ?_
  refine z_Ri (va_runS (As := [.int x1, .int (100 : Int32)]) (rest := [.int (1 : Int32), .ref (g 0)]) ⟨hx, hb, hml, hown, hts⟩ (c_L_up l D cA (x1) (100 : Int32)  (by decide)) (va_cwS 2 hts gL_back_L_up rfl rfl rfl (by decide +kernel) ⟨Nat.le_of_ble_eq_true rfl, Nat.le_of_ble_eq_true rfl⟩) (zqSR0 hK hN) rfl rfl hl.1 rfl (lv_room (Nat.le_of_ble_eq_true rfl)) dL_back_53 ⟨Nat.le_of_ble_eq_true rfl, Nat.le_of_ble_eq_true rfl⟩) ?_
  refine lv_iadd hx hb dL_back_56 ?_
  refine z_Hp (wr := []) (wt := fun u => zTr cA g u) (va_runV (As := [.int ((1 : Int32) + (fl_up (x1) (100 : Int32)))]) (rest := []) ⟨hx, hb, hml, hown, hts⟩ (d_X9_pass l D cA g s.heap.size ((1 : Int32) + (fl_up (x1) (100 : Int32))) hR) (cwV 1 hts gL_back_X9_pass rfl rfl rfl (by decide +kernel) ⟨Nat.le_of_ble_eq_true rfl, Nat.le_of_ble_eq_true rfl⟩) (zqV (wr := []) (wc := zTr cA g t) hK hP hD hS hA hE (List.Perm.refl _) 0 rfl rfl) rfl rfl hl.1 rfl (lv_room (Nat.le_of_ble_eq_true rfl)) dL_back_57 ⟨Nat.le_of_ble_eq_true rfl, Nat.le_of_ble_eq_true rfl⟩) hP hD hS hA (List.Perm.refl _) (fun u => List.Perm.refl _) (fun r_8 t_8 H locs hp_8 hP hD hS => ?_)
  obtain ⟨er_8, hR_8⟩ := hp_8
  obtain ⟨w_8, ew_8⟩ : ∃ z : vX10, z = ((fm_pass (pmN w) w ((1 : Int32) + (fl_up (x1) (100 : Int32))))).2 := ⟨_, rfl⟩
  rw [← ew_8] at hR_8
  have hP : va_P D vwCl (zTr cA g t_8) H := hP
  have hD : va_D A (zTr cA g t_8) := hD
  refine W.widen (k := 20) (n := 115) (by omega) (by omega) ?_
  obtain ⟨c1, hE1⟩ := he_0 hR (bk_pass hR hI hn ew_8)
  refine lv_pop hx hb dL_back_60 rfl ?_
  refine lv_aload_n hx hb dL_back_61 rfl (lv_at hl 7 rfl) ?_
  refine lv_iconst (v := 0) hx hb dL_back_62 (by decide) ?_
  refine lv_iconst (v := 1) hx hb dL_back_63 (by decide) ?_
  refine lv_iload_n hx hb dL_back_64 rfl (lv_at hl 8 rfl) ?_
  refine lv_iconst (v := 3) hx hb dL_back_65 (by decide) ?_
  refine lv_ishr hx hb dL_back_66 ?_
  refine lv_bipush (v := 100) hx hb dL_back_67 (by decide) ?_
  refine z_Ri (va_runS (As := [.int (x1 >>> ((3 : Int32) &&& 31)), .int (100 : Int32)]) (rest := [.int (1 : Int32), .int (0 : Int32), .ref (g 0)]) ⟨hx, hb, hml, hown, hts⟩ (c_L_up l D cA (x1 >>> ((3 : Int32) &&& 31)) (100 : Int32)  (by decide)) (va_cwS 2 hts gL_back_L_up rfl rfl rfl (by decide +kernel) ⟨Nat.le_of_ble_eq_true rfl, Nat.le_of_ble_eq_true rfl⟩) (zqSR0 hK hN) rfl rfl hl.1 rfl (lv_room (Nat.le_of_ble_eq_true rfl)) dL_back_69 ⟨Nat.le_of_ble_eq_true rfl, Nat.le_of_ble_eq_true rfl⟩) ?_
  refine lv_iadd hx hb dL_back_72 ?_
  refine z_Hp (wr := []) (wt := fun u => zTr cA g u) (va_runV (As := [.int (0 : Int32), .int ((1 : Int32) + (fl_up (x1 >>> ((3 : Int32) &&& 31)) (100 : Int32)))]) (rest := []) ⟨hx, hb, hml, hown, hts⟩ (d_X9_set l D cA g H.size (0 : Int32) ((1 : Int32) + (fl_up (x1 >>> ((3 : Int32) &&& 31)) (100 : Int32))) hR_8) (cwV 2 hts gL_back_X9_set rfl rfl rfl (by decide +kernel) ⟨Nat.le_of_ble_eq_true rfl, Nat.le_of_ble_eq_true rfl⟩) (zqV (wr := []) (wc := zTr cA g t_8) hK hP hD hS hA hE (List.Perm.refl _) 0 rfl rfl) rfl rfl hl.1 rfl (lv_room (Nat.le_of_ble_eq_true rfl)) dL_back_73 ⟨Nat.le_of_ble_eq_true rfl, Nat.le_of_ble_eq_true rfl⟩) hP hD hS hA (List.Perm.refl _) (fun u => List.Perm.refl _) (fun r_9 t_9 H locs hp_9 hP hD hS => ?_)
  obtain ⟨er_9, hR_9⟩ := hp_9
  obtain ⟨w_9, ew_9⟩ : ∃ z : vX10, z = ((fm_set (pmN w_8) w_8 (0 : Int32) ((1 : Int32) + (fl_up (x1 >>> ((3 : Int32) &&& 31)) (100 : Int32))))).2 := ⟨_, rfl⟩
  rw [← ew_9] at hR_9
  have hP : va_P D vwCl (zTr cA g t_9) H := hP
  have hD : va_D A (zTr cA g t_9) := hD
  refine W.widen (k := 40) (n := 230) (by omega) (by omega) ?_
  obtain ⟨c2, hE2⟩ := he_s (bk_set ew_9) hE1 (by decide)
  refine lv_pop hx hb dL_back_76 rfl ?_
  refine lv_aload_n hx hb dL_back_77 rfl (lv_at hl 7 rfl) ?_
  refine lv_iload_n hx hb dL_back_78 rfl (lv_at hl 8 rfl) ?_
  refine lv_bipush (v := 70) hx hb dL_back_79 (by decide) ?_
  refine z_Ri (va_runS (As := [.int x1, .int (70 : Int32)]) (rest := [.ref (g 0)]) ⟨hx, hb, hml, hown, hts⟩ (c_L_up l D cA (x1) (70 : Int32)  (by decide)) (va_cwS 2 hts gL_back_L_up rfl rfl rfl (by decide +kernel) ⟨Nat.le_of_ble_eq_true rfl, Nat.le_of_ble_eq_true rfl⟩) (zqSR0 hK hN) rfl rfl hl.1 rfl (lv_room (Nat.le_of_ble_eq_true rfl)) dL_back_81 ⟨Nat.le_of_ble_eq_true rfl, Nat.le_of_ble_eq_true rfl⟩) ?_
  refine lv_iload_n hx hb dL_back_84 rfl (lv_at hl 8 rfl) ?_
  refine lv_bipush (v := 6) hx hb dL_back_85 (by decide) ?_
  refine lv_ishr hx hb dL_back_87 ?_
  refine lv_sipush (v := 401) hx hb dL_back_88 (by decide) ?_
  refine z_Ri (va_runS (As := [.int (x1 >>> ((6 : Int32) &&& 31)), .int (401 : Int32)]) (rest := [.int (fl_up (x1) (70 : Int32)), .ref (g 0)]) ⟨hx, hb, hml, hown, hts⟩ (c_L_up l D cA (x1 >>> ((6 : Int32) &&& 31)) (401 : Int32)  (by decide)) (va_cwS 2 hts gL_back_L_up rfl rfl rfl (by decide +kernel) ⟨Nat.le_of_ble_eq_true rfl, Nat.le_of_ble_eq_true rfl⟩) (zqSR0 hK hN) rfl rfl hl.1 rfl (lv_room (Nat.le_of_ble_eq_true rfl)) dL_back_91 ⟨Nat.le_of_ble_eq_true rfl, Nat.le_of_ble_eq_true rfl⟩) ?_
  refine z_Hp (wr := []) (wt := fun u => zTr cA g u) (va_runV (As := [.int (fl_up (x1) (70 : Int32)), .int (fl_up (x1 >>> ((6 : Int32) &&& 31)) (401 : Int32))]) (rest := []) ⟨hx, hb, hml, hown, hts⟩ (d_X9_correct l D cA g H.size (fl_up (x1) (70 : Int32)) (fl_up (x1 >>> ((6 : Int32) &&& 31)) (401 : Int32)) hR_9) (cwV 2 hts gL_back_X9_correct rfl rfl rfl (by decide +kernel) ⟨Nat.le_of_ble_eq_true rfl, Nat.le_of_ble_eq_true rfl⟩) (zqV (wr := []) (wc := zTr cA g t_9) hK hP hD hS hA hE (List.Perm.refl _) 0 rfl rfl) rfl rfl hl.1 rfl (lv_room (Nat.le_of_ble_eq_true rfl)) dL_back_94 ⟨Nat.le_of_ble_eq_true rfl, Nat.le_of_ble_eq_true rfl⟩) hP hD hS hA (List.Perm.refl _) (fun u => List.Perm.refl _) (fun r_10 t_10 H locs hp_10 hP hD hS => ?_)
  obtain ⟨er_10, hR_10⟩ := hp_10
  obtain ⟨w_10, ew_10⟩ : ∃ z : vX10, z = ((fm_correct (pmN w_9) w_9 (fl_up (x1) (70 : Int32)) (fl_up (x1 >>> ((6 : Int32) &&& 31)) (401 : Int32)))).2 := ⟨_, rfl⟩
  rw [← ew_10] at hR_10
  have hP : va_P D vwCl (zTr cA g t_10) H := hP
  have hD : va_D A (zTr cA g t_10) := hD
  refine W.widen (k := 60) (n := 345) (by omega) (by omega) ?_
  obtain ⟨c3, hE3⟩ := he_s (bk_corr ew_10) hE2 (by decide)
  refine lv_pop hx hb dL_back_97 rfl ?_
  refine lv_aload_n hx hb dL_back_98 rfl (lv_at hl 7 rfl) ?_
  refine z_Hp (wr := []) (wt := fun u => zTr cA g u) (va_runV (As := []) (rest := []) ⟨hx, hb, hml, hown, hts⟩ (d_X9_forgetSwings l D cA g H.size  hR_10) (cwV 0 hts gL_back_X9_forgetSwings rfl rfl rfl (by decide +kernel) ⟨Nat.le_of_ble_eq_true rfl, Nat.le_of_ble_eq_true rfl⟩) (zqV (wr := []) (wc := zTr cA g t_10) hK hP hD hS hA hE (List.Perm.refl _) 0 rfl rfl) rfl rfl hl.1 rfl (lv_room (Nat.le_of_ble_eq_true rfl)) dL_back_99 ⟨Nat.le_of_ble_eq_true rfl, Nat.le_of_ble_eq_true rfl⟩) hP hD hS hA (List.Perm.refl _) (fun u => List.Perm.refl _) (fun r_11 t_11 H locs hp_11 hP hD hS => ?_)
  obtain ⟨er_11, hR_11⟩ := hp_11
  obtain ⟨w_11, ew_11⟩ : ∃ z : vX10, z = ((fm_forget (pmN w_10) w_10)).2 := ⟨_, rfl⟩
  rw [← ew_11] at hR_11
  have hP : va_P D vwCl (zTr cA g t_11) H := hP
  have hD : va_D A (zTr cA g t_11) := hD
  refine W.widen (k := 80) (n := 460) (by omega) (by omega) ?_
  obtain ⟨c4, hE4⟩ := he_s (bk_forget ew_11) hE3 (by decide)
  refine lv_pop hx hb dL_back_102 rfl ?_
  refine lv_aload_n hx hb dL_back_103 rfl (lv_at hl 7 rfl) ?_
  refine lv_iload_n hx hb dL_back_104 rfl (lv_at hl 8 rfl) ?_
  refine lv_ldc hx hb hown (hts (.constant RL 64 (36000)) (List.mem_of_getElem? (i := 1) rfl)) dL_back_105 ?_
  refine z_Ri (va_runS (As := [.int x1, .int (36000 : Int32)]) (rest := [.ref (g 0)]) ⟨hx, hb, hml, hown, hts⟩ (c_L_up l D cA (x1) (36000 : Int32)  (by decide)) (va_cwS 2 hts gL_back_L_up rfl rfl rfl (by decide +kernel) ⟨Nat.le_of_ble_eq_true rfl, Nat.le_of_ble_eq_true rfl⟩) (zqSR0 hK hN) rfl rfl hl.1 rfl (lv_room (Nat.le_of_ble_eq_true rfl)) dL_back_107 ⟨Nat.le_of_ble_eq_true rfl, Nat.le_of_ble_eq_true rfl⟩) ?_
  refine lv_sipush (v := 400) hx hb dL_back_110 (by decide) ?_
  refine z_Hp (wr := []) (wt := fun u => zTr cA g u) (va_runV (As := [.int (fl_up (x1) (36000 : Int32)), .int (400 : Int32)]) (rest := []) ⟨hx, hb, hml, hown, hts⟩ (d_X9_steer l D cA g H.size (fl_up (x1) (36000 : Int32)) (400 : Int32) hR_11) (cwV 2 hts gL_back_X9_steer rfl rfl rfl (by decide +kernel) ⟨Nat.le_of_ble_eq_true rfl, Nat.le_of_ble_eq_true rfl⟩) (zqV (wr := []) (wc := zTr cA g t_11) hK hP hD hS hA hE (List.Perm.refl _) 0 rfl rfl) rfl rfl hl.1 rfl (lv_room (Nat.le_of_ble_eq_true rfl)) dL_back_113 ⟨Nat.le_of_ble_eq_true rfl, Nat.le_of_ble_eq_true rfl⟩) hP hD hS hA (List.Perm.refl _) (fun u => List.Perm.refl _) (fun r_12 t_12 H locs hp_12 hP hD hS => ?_)
  obtain ⟨er_12, hR_12⟩ := hp_12
  obtain ⟨w_12, ew_12⟩ : ∃ z : vX10, z = ((fm_steer (pmN w_11) w_11 (fl_up (x1) (36000 : Int32)) (400 : Int32))).2 := ⟨_, rfl⟩
  rw [← ew_12] at hR_12
  have hP : va_P D vwCl (zTr cA g t_12) H := hP
  have hD : va_D A (zTr cA g t_12) := hD
  refine W.widen (k := 100) (n := 575) (by omega) (by omega) ?_
  obtain ⟨c5, hE5⟩ := he_s (bk_steer ew_12) hE4 (by decide)
  refine lv_pop hx hb dL_back_116 rfl ?_
  refine lv_aload_n hx hb dL_back_117 rfl (lv_at hl 7 rfl) ?_
  refine lv_bipush (v := 21) hx hb dL_back_118 (by decide) ?_
  refine z_Ri (va_runV (As := [.int (21 : Int32)]) (rest := []) ⟨hx, hb, hml, hown, hts⟩ (d_X9_state l D cA g (21 : Int32) hR_12) (cwV 1 hts gL_back_X9_state rfl rfl rfl (by decide +kernel) ⟨Nat.le_of_ble_eq_true rfl, Nat.le_of_ble_eq_true rfl⟩) (zqVR (wr := []) (wc := zTr cA g t_12) hK hP hN (List.Perm.refl _) 0 rfl rfl) rfl rfl hl.1 rfl (lv_room (Nat.le_of_ble_eq_true rfl)) dL_back_120 ⟨Nat.le_of_ble_eq_true rfl, Nat.le_of_ble_eq_true rfl⟩) ?_
  refine lv_topi (fun v_13 ev_13 => ?_)
  rw [fs_21] at ev_13
  refine lv_iconst (v := 5) hx hb dL_back_123 (by decide) ?_
  refine lv_icmp_ge (tgt := 129) hx hb dL_back_124 (by decide) (fun c_14 => ?_) (fun c_14 => ?_)
  · skip
    obtain ⟨hb1, hb2, hb3, hb4, hb5⟩ := id hE5
    refine lv_aload_n hx hb dL_back_129 rfl (lv_at hl 7 rfl) ?_
    refine lv_bipush (v := 21) hx hb dL_back_130 (by decide) ?_
    refine z_Ri (va_runV (As := [.int (21 : Int32)]) (rest := []) ⟨hx, hb, hml, hown, hts⟩ (d_X9_state l D cA g (21 : Int32) hR_12) (cwV 1 hts gL_back_X9_state rfl rfl rfl (by decide +kernel) ⟨Nat.le_of_ble_eq_true rfl, Nat.le_of_ble_eq_true rfl⟩) (zqVR (wr := []) (wc := zTr cA g t_12) hK hP hN (List.Perm.refl _) 0 rfl rfl) rfl rfl hl.1 rfl (lv_room (Nat.le_of_ble_eq_true rfl)) dL_back_132 ⟨Nat.le_of_ble_eq_true rfl, Nat.le_of_ble_eq_true rfl⟩) ?_
    refine lv_topi (fun v_15 ev_15 => ?_)
    rw [fs_21] at ev_15
    refine lv_istore (lv' := [(9, .int v_15), (8, .int v_7), (7, .int v_6), (6, .int v_5), (5, .int v_4), (4, .int v_3), (3, .int v_2), (2, .int v_1), (0, .ref (g 0)), (1, .int x1)]) hx hb dL_back_135 hl (by decide) rfl (fun ls hl => ?_)
    refine lv_iconst (v := 1) hx hb dL_back_137 (by decide) ?_
    refine lv_istore (lv' := [(10, .int (1 : Int32)), (9, .int v_15), (8, .int v_7), (7, .int v_6), (6, .int v_5), (5, .int v_4), (4, .int v_3), (3, .int v_2), (2, .int v_1), (0, .ref (g 0)), (1, .int x1)]) hx hb dL_back_138 hl (by decide) rfl (fun ls hl => ?_)
    have L140 : ∀ (zn : Nat) (k : Nat) (t1 : vTv) (w1 : vX10), 6 - k < zn → (1 ≤ k) → (k ≤ 6) → (Rel t1 w1) → (UI w w1 c5 k) → ∀ (H : Heap) (locs : List Loc), va_P D vwCl (zTr cA g t1) H → va_D A (zTr cA g t1) → va_S A s.heap H locs → ∀ (ls : Array Slot), lv_has ls 11 [(10, .int (nI k)), (9, .int v_15), (8, .int v_7), (7, .int v_6), (6, .int v_5), (5, .int v_4), (4, .int v_3), (3, .int v_2), (2, .int v_1), (0, .ref (g 0)), (1, .int x1)] → W p l e (headSpec wsL_back ({ frames := 7, cells := 120, slots := 700, locals := 153 })).room s m (([.ref (g 0), .int x1] : List Value).toArray) below meth c H locs 100 575 Q (F0 m 140 ls []) := by
      intro zn
      induction zn with
      | zero =>
        intro k t1 w1 hm
        exact absurd hm (Nat.not_lt_zero _)
      | succ zn ih =>
        intro k t1 w1 hm hk1 hk hR1 hU H locs hP hD hS ls hl
        refine lv_iload hx hb dL_back_140 (lv_at hl 0 rfl) ?_
        refine lv_iconst (v := 5) hx hb dL_back_142 (by decide) ?_
        refine lv_icmp_gt (tgt := 166) hx hb dL_back_143 (by decide) (fun c_16 => ?_) (fun c_16 => ?_)
        · skip
          have hk6 : k = 6 := by have := (nI_ltI (a := 5) (b := k) (by decide) (by omega)).mp c_16; omega
          obtain ⟨ha, hs⟩ := hU.2 hk6
          refine lv_aload_n hx hb dL_back_166 rfl (lv_at hl 9 rfl) ?_
          refine lv_iconst (v := 0) hx hb dL_back_167 (by decide) ?_
          refine z_Ri (va_runV (As := [.int (0 : Int32)]) (rest := []) ⟨hx, hb, hml, hown, hts⟩ (d_X9_compass l D cA g (0 : Int32) hR1) (cwV 1 hts gL_back_X9_compass rfl rfl rfl (by decide +kernel) ⟨Nat.le_of_ble_eq_true rfl, Nat.le_of_ble_eq_true rfl⟩) (zqVR (wr := []) (wc := zTr cA g t1) hK hP hN (List.Perm.refl _) 0 rfl rfl) rfl rfl hl.1 rfl (lv_room (Nat.le_of_ble_eq_true rfl)) dL_back_168 ⟨Nat.le_of_ble_eq_true rfl, Nat.le_of_ble_eq_true rfl⟩) ?_
          refine lv_topi (fun v_17 ev_17 => ?_)
          rw [fk_0] at ev_17
          refine lv_iload_n hx hb dL_back_171 rfl (lv_at hl 8 rfl) ?_
          refine lv_icmp_ne (tgt := 239) hx hb dL_back_172 (by decide) (fun c_18 => ?_) (fun c_18 => ?_)
          · skip
            -- bad leaf 0
            rw [ev_17, ev_1] at c_18
            exact (c_18 (ha 4 (by decide))).elim
          · skip
            refine lv_aload_n hx hb dL_back_175 rfl (lv_at hl 9 rfl) ?_
            refine lv_iconst (v := 1) hx hb dL_back_176 (by decide) ?_
            refine z_Ri (va_runV (As := [.int (1 : Int32)]) (rest := []) ⟨hx, hb, hml, hown, hts⟩ (d_X9_compass l D cA g (1 : Int32) hR1) (cwV 1 hts gL_back_X9_compass rfl rfl rfl (by decide +kernel) ⟨Nat.le_of_ble_eq_true rfl, Nat.le_of_ble_eq_true rfl⟩) (zqVR (wr := []) (wc := zTr cA g t1) hK hP hN (List.Perm.refl _) 0 rfl rfl) rfl rfl hl.1 rfl (lv_room (Nat.le_of_ble_eq_true rfl)) dL_back_177 ⟨Nat.le_of_ble_eq_true rfl, Nat.le_of_ble_eq_true rfl⟩) ?_
            refine lv_topi (fun v_19 ev_19 => ?_)
            rw [fk_1] at ev_19
            refine lv_iload_n hx hb dL_back_180 rfl (lv_at hl 7 rfl) ?_
            refine lv_icmp_ne (tgt := 239) hx hb dL_back_181 (by decide) (fun c_20 => ?_) (fun c_20 => ?_)
            · skip
              -- bad leaf 1
              rw [ev_19, ev_2] at c_20
              exact (c_20 (ha 5 (by decide))).elim
            · skip
              refine lv_aload_n hx hb dL_back_184 rfl (lv_at hl 9 rfl) ?_
              refine lv_iconst (v := 2) hx hb dL_back_185 (by decide) ?_
              refine z_Ri (va_runV (As := [.int (2 : Int32)]) (rest := []) ⟨hx, hb, hml, hown, hts⟩ (d_X9_compass l D cA g (2 : Int32) hR1) (cwV 1 hts gL_back_X9_compass rfl rfl rfl (by decide +kernel) ⟨Nat.le_of_ble_eq_true rfl, Nat.le_of_ble_eq_true rfl⟩) (zqVR (wr := []) (wc := zTr cA g t1) hK hP hN (List.Perm.refl _) 0 rfl rfl) rfl rfl hl.1 rfl (lv_room (Nat.le_of_ble_eq_true rfl)) dL_back_186 ⟨Nat.le_of_ble_eq_true rfl, Nat.le_of_ble_eq_true rfl⟩) ?_
              refine lv_topi (fun v_21 ev_21 => ?_)
              rw [fk_2] at ev_21
              refine lv_iload hx hb dL_back_189 (lv_at hl 6 rfl) ?_
              refine lv_icmp_ne (tgt := 239) hx hb dL_back_191 (by decide) (fun c_22 => ?_) (fun c_22 => ?_)
              · skip
                -- bad leaf 2
                rw [ev_21, ev_3] at c_22
                exact (c_22 (bk_c ha)).elim
              · skip
                refine lv_aload_n hx hb dL_back_194 rfl (lv_at hl 9 rfl) ?_
                refine lv_iconst (v := 0) hx hb dL_back_195 (by decide) ?_
                refine z_Ri (va_runV (As := [.int (0 : Int32)]) (rest := []) ⟨hx, hb, hml, hown, hts⟩ (d_X9_state l D cA g (0 : Int32) hR1) (cwV 1 hts gL_back_X9_state rfl rfl rfl (by decide +kernel) ⟨Nat.le_of_ble_eq_true rfl, Nat.le_of_ble_eq_true rfl⟩) (zqVR (wr := []) (wc := zTr cA g t1) hK hP hN (List.Perm.refl _) 0 rfl rfl) rfl rfl hl.1 rfl (lv_room (Nat.le_of_ble_eq_true rfl)) dL_back_196 ⟨Nat.le_of_ble_eq_true rfl, Nat.le_of_ble_eq_true rfl⟩) ?_
                refine lv_topi (fun v_23 ev_23 => ?_)
                rw [fs_0] at ev_23
                refine lv_iload hx hb dL_back_199 (lv_at hl 5 rfl) ?_
                refine lv_icmp_ne (tgt := 239) hx hb dL_back_201 (by decide) (fun c_24 => ?_) (fun c_24 => ?_)
                · skip
                  -- bad leaf 3
                  rw [ev_23, ev_4] at c_24
                  exact (c_24 (ha 10 (by decide))).elim
                · skip
                  refine lv_aload_n hx hb dL_back_204 rfl (lv_at hl 9 rfl) ?_
                  refine lv_bipush (v := 13) hx hb dL_back_205 (by decide) ?_
                  refine z_Ri (va_runV (As := [.int (13 : Int32)]) (rest := []) ⟨hx, hb, hml, hown, hts⟩ (d_X9_state l D cA g (13 : Int32) hR1) (cwV 1 hts gL_back_X9_state rfl rfl rfl (by decide +kernel) ⟨Nat.le_of_ble_eq_true rfl, Nat.le_of_ble_eq_true rfl⟩) (zqVR (wr := []) (wc := zTr cA g t1) hK hP hN (List.Perm.refl _) 0 rfl rfl) rfl rfl hl.1 rfl (lv_room (Nat.le_of_ble_eq_true rfl)) dL_back_207 ⟨Nat.le_of_ble_eq_true rfl, Nat.le_of_ble_eq_true rfl⟩) ?_
                  refine lv_topi (fun v_25 ev_25 => ?_)
                  rw [fs_13] at ev_25
                  refine lv_iload hx hb dL_back_210 (lv_at hl 4 rfl) ?_
                  refine lv_icmp_ne (tgt := 239) hx hb dL_back_212 (by decide) (fun c_26 => ?_) (fun c_26 => ?_)
                  · skip
                    -- bad leaf 4
                    rw [ev_25, ev_5] at c_26
                    exact (c_26 (ha 13 (by decide))).elim
                  · skip
                    refine lv_aload_n hx hb dL_back_215 rfl (lv_at hl 9 rfl) ?_
                    refine lv_iconst (v := 4) hx hb dL_back_216 (by decide) ?_
                    refine z_Ri (va_runV (As := [.int (4 : Int32)]) (rest := []) ⟨hx, hb, hml, hown, hts⟩ (d_X9_compass l D cA g (4 : Int32) hR1) (cwV 1 hts gL_back_X9_compass rfl rfl rfl (by decide +kernel) ⟨Nat.le_of_ble_eq_true rfl, Nat.le_of_ble_eq_true rfl⟩) (zqVR (wr := []) (wc := zTr cA g t1) hK hP hN (List.Perm.refl _) 0 rfl rfl) rfl rfl hl.1 rfl (lv_room (Nat.le_of_ble_eq_true rfl)) dL_back_217 ⟨Nat.le_of_ble_eq_true rfl, Nat.le_of_ble_eq_true rfl⟩) ?_
                    refine lv_topi (fun v_27 ev_27 => ?_)
                    rw [fk_4] at ev_27
                    refine lv_iload hx hb dL_back_220 (lv_at hl 3 rfl) ?_
                    refine lv_icmp_ne (tgt := 239) hx hb dL_back_222 (by decide) (fun c_28 => ?_) (fun c_28 => ?_)
                    · skip
                      -- bad leaf 5
                      rw [ev_27, ev_6] at c_28
                      exact (c_28 (bk_4 ha)).elim
                    · skip
                      refine lv_aload_n hx hb dL_back_225 rfl (lv_at hl 9 rfl) ?_
                      refine lv_iconst (v := 5) hx hb dL_back_226 (by decide) ?_
                      refine z_Ri (va_runV (As := [.int (5 : Int32)]) (rest := []) ⟨hx, hb, hml, hown, hts⟩ (d_X9_compass l D cA g (5 : Int32) hR1) (cwV 1 hts gL_back_X9_compass rfl rfl rfl (by decide +kernel) ⟨Nat.le_of_ble_eq_true rfl, Nat.le_of_ble_eq_true rfl⟩) (zqVR (wr := []) (wc := zTr cA g t1) hK hP hN (List.Perm.refl _) 0 rfl rfl) rfl rfl hl.1 rfl (lv_room (Nat.le_of_ble_eq_true rfl)) dL_back_227 ⟨Nat.le_of_ble_eq_true rfl, Nat.le_of_ble_eq_true rfl⟩) ?_
                      refine lv_topi (fun v_29 ev_29 => ?_)
                      rw [fk_5] at ev_29
                      refine lv_iload hx hb dL_back_230 (lv_at hl 2 rfl) ?_
                      refine lv_icmp_ne (tgt := 239) hx hb dL_back_232 (by decide) (fun c_30 => ?_) (fun c_30 => ?_)
                      · skip
                        -- bad leaf 6
                        rw [ev_29, ev_7] at c_30
                        exact (c_30 (bk_m ha hs)).elim
                      · skip
                        refine lv_iconst (v := 1) hx hb dL_back_235 (by decide) ?_
                        refine lv_goto (tgt := 240) hx hb dL_back_236 (by decide) ?_
                        have hP9 : va_P D vwCl (zTr cA g t1) H := hP
                        have hD9 : va_D A (zTr cA g t1) := hD
                        have hI9 : True := trivial
                        subst hQ
                        refine W.widen (k := 120) (n := 700) (by omega) (by omega) ?_
                        exact W.zret (ty := .boolean) (v := 1) hx hb hr rfl (fun t ht hW => ⟨⟨1, t1, rfl, ⟨rfl, w1, hR1, hI9⟩, ⟨by rw [ht]; exact hP9, va_K.moved hW.alike hK, hD9⟩⟩, hS.F ht⟩) hS.2.2 dL_back_240
        · skip
          have hk5 : k ≤ 5 := Nat.le_of_not_lt (fun q => c_16 (nI_lt q (by omega)))
          refine lv_aload_n hx hb dL_back_146 rfl (lv_at hl 9 rfl) ?_
          refine z_Hp (wr := []) (wt := fun u => zTr cA g u) (va_runV (As := []) (rest := []) ⟨hx, hb, hml, hown, hts⟩ (d_X9_undo l D cA g H.size  hR1) (cwV 0 hts gL_back_X9_undo rfl rfl rfl (by decide +kernel) ⟨Nat.le_of_ble_eq_true rfl, Nat.le_of_ble_eq_true rfl⟩) (zqV (wr := []) (wc := zTr cA g t1) hK hP hD hS hA hE (List.Perm.refl _) 0 rfl rfl) rfl rfl hl.1 rfl (lv_room (Nat.le_of_ble_eq_true rfl)) dL_back_147 ⟨Nat.le_of_ble_eq_true rfl, Nat.le_of_ble_eq_true rfl⟩) hP hD hS hA (List.Perm.refl _) (fun u => List.Perm.refl _) (fun r_31 t_31 H locs hp_31 hP hD hS => ?_)
          obtain ⟨er_31, hR_31⟩ := hp_31
          obtain ⟨w_31, ew_31⟩ : ∃ z : vX10, z = ((fm_undo (pmN w1) w1)).2 := ⟨_, rfl⟩
          rw [← ew_31] at hR_31
          have hP : va_P D vwCl (zTr cA g t_31) H := hP
          have hD : va_D A (zTr cA g t_31) := hD
          refine W.widen (k := 100) (n := 575) (by omega) (by omega) ?_
          obtain ⟨hr9, hU9⟩ := ui_s hU hk1 hk5 er_31 ew_31
          refine lv_iload hx hb dL_back_150 (lv_at hl 1 rfl) ?_
          refine lv_iload hx hb dL_back_152 (lv_at hl 0 rfl) ?_
          refine lv_isub hx hb dL_back_154 ?_
          refine lv_icmp_eq (tgt := 160) hx hb dL_back_155 (by decide) (fun c_32 => ?_) (fun c_32 => ?_)
          · skip
            refine lv_iinc (v := (nI (k + 1))) (lv' := [(10, .int (nI (k + 1))), (9, .int v_15), (8, .int v_7), (7, .int v_6), (6, .int v_5), (5, .int v_4), (4, .int v_3), (3, .int v_2), (2, .int v_1), (0, .ref (g 0)), (1, .int x1)]) hx hb dL_back_160 hl (k := 0) rfl (nI_1 k) (by decide) rfl (fun ls hl => ?_)
            refine lv_goto (tgt := 140) hx hb dL_back_163 (by decide) ?_
            exact ih (k + 1) (t_31) (w_31) (by omega) (by omega) (by omega) hR_31 hU9 _ _ hP hD hS ls (lv_sub hl [0, 1, 2, 3, 4, 5, 6, 7, 8, 9, 10] rfl)
          · skip
            -- bad leaf 7
            rw [ev_15, hb3] at c_32
            exact (c_32 hr9).elim
    exact L140 (6 + 1) (1) (t_12) (w_12) (by omega) (Nat.le_refl _) (by decide) hR_12 ⟨fun _ => hE5, fun h => absurd h (by decide)⟩ _ _ hP hD hS ls (lv_sub hl [0, 1, 2, 3, 4, 5, 6, 7, 8, 9, 10] rfl)
  · skip
    -- bad leaf 8
    rw [ev_13] at c_14
    exact (c_14 (bk_5 hE5)).elim
