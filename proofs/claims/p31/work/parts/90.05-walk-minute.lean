set_option maxHeartbeats 4000000 in
set_option maxRecDepth 100000 in
theorem c_L_minute (l : Launch) (D : va_G) (cA : Nat → ClassId) (g : Nat → Nat) (sz : Nat) {t : vTv} {w : vX10} (n : Nat) (hR : Rel t w) (hI : IV n w) (hn : n < 90000) : Met l yL_minute wsL_minute ({ frames := 7, cells := 20, slots := 115, locals := 152 }) (va_Pc [.ref (g 0)] (zPre D (zty cA) (zTr cA g t) sz)) (va_Qi (fun (x : Int32) (u : vTv) => x = 1 ∧ ∃ w9, Rel u w9 ∧ IV (n + 1) w9) (fun u => zPost D (zty cA) (va_A (zTr cA g t) sz) (zTr cA g u)) (va_A (zTr cA g t) sz)) 20 115 (va_A (zTr cA g t) sz) := by
  refine Met.ofW (cc := cL_minute) (maxL := 29) (ret := (some .boolean)) (by decide) rfl ?_
  intro p e s m args below meth c s₁ B hml hv
  obtain ⟨rfl, hsz, hP, hK, hD0, hE⟩ := hv
  have hx := B.exec
  have hb := B.bytes
  have hr := B.returns
  have hts := atoms_spec (ws := wsL_minute) B.pre
  have hown : s.vm.findClass RL = some m.cls := findClass_of_methodNamed B.named
  subst hsz
  have hD := hD0.self (sz := s.heap.size)
  generalize hAe : va_A (zTr cA g t) s.heap.size = A at hD hE ⊢
  have hA : ∀ q : Nat, s.heap.size ≤ q → A q := fun q h => by rw [← hAe]; exact Or.inr h
  have hS : va_S A s.heap s.heap [] := va_S.rf
  have hN : zN s := hE.1
  have hP : va_P D vwCl (zTr cA g t) s.heap := hP
  have hD : va_D A (zTr cA g t) := hD
  have hl := lv_entry ([.ref (g 0)]) (n := 29) (Nat.le_of_ble_eq_true rfl)
  rw [lg_entry_eq]
  generalize (lg_sl ([.ref (g 0)]) ++ List.replicate (29 - (lg_sl ([.ref (g 0)])).length) Slot.unset).toArray = ls at hl ⊢
  have hl : lv_has ls 29 [(0, .ref (g 0))] := hl
  refine z_genQ (fun Q hQ => ?_)
  refine lv_aload_n hx hb dL_minute_0 rfl (lv_at hl 0 rfl) ?_
  refine lv_iconst (v := 0) hx hb dL_minute_1 (by decide) ?_
  refine z_Ri (va_runV (As := [.int (0 : Int32)]) (rest := []) ⟨hx, hb, hml, hown, hts⟩ (d_X9_compass l D cA g (0 : Int32) hR) (cwV 1 hts gL_minute_X9_compass rfl rfl rfl (by decide +kernel) ⟨Nat.le_of_ble_eq_true rfl, Nat.le_of_ble_eq_true rfl⟩) (zqVR (wr := []) (wc := zTr cA g t) hK hP hN (List.Perm.refl _) 0 rfl rfl) rfl rfl hl.1 rfl (lv_room (Nat.le_of_ble_eq_true rfl)) dL_minute_2 ⟨Nat.le_of_ble_eq_true rfl, Nat.le_of_ble_eq_true rfl⟩) ?_
  refine lv_topi (fun v_1 ev_1 => ?_)
  rw [fk_0] at ev_1
  refine lv_istore_n (lv' := [(1, .int v_1), (0, .ref (g 0))]) hx hb dL_minute_5 rfl hl (by decide) rfl (fun ls hl => ?_)
  refine lv_aload_n hx hb dL_minute_6 rfl (lv_at hl 1 rfl) ?_
  refine lv_iconst (v := 1) hx hb dL_minute_7 (by decide) ?_
  refine z_Ri (va_runV (As := [.int (1 : Int32)]) (rest := []) ⟨hx, hb, hml, hown, hts⟩ (d_X9_compass l D cA g (1 : Int32) hR) (cwV 1 hts gL_minute_X9_compass rfl rfl rfl (by decide +kernel) ⟨Nat.le_of_ble_eq_true rfl, Nat.le_of_ble_eq_true rfl⟩) (zqVR (wr := []) (wc := zTr cA g t) hK hP hN (List.Perm.refl _) 0 rfl rfl) rfl rfl hl.1 rfl (lv_room (Nat.le_of_ble_eq_true rfl)) dL_minute_8 ⟨Nat.le_of_ble_eq_true rfl, Nat.le_of_ble_eq_true rfl⟩) ?_
  refine lv_topi (fun v_2 ev_2 => ?_)
  rw [fk_1] at ev_2
  refine lv_istore_n (lv' := [(2, .int v_2), (1, .int v_1), (0, .ref (g 0))]) hx hb dL_minute_11 rfl hl (by decide) rfl (fun ls hl => ?_)
  refine lv_aload_n hx hb dL_minute_12 rfl (lv_at hl 2 rfl) ?_
  refine lv_iconst (v := 2) hx hb dL_minute_13 (by decide) ?_
  refine z_Ri (va_runV (As := [.int (2 : Int32)]) (rest := []) ⟨hx, hb, hml, hown, hts⟩ (d_X9_compass l D cA g (2 : Int32) hR) (cwV 1 hts gL_minute_X9_compass rfl rfl rfl (by decide +kernel) ⟨Nat.le_of_ble_eq_true rfl, Nat.le_of_ble_eq_true rfl⟩) (zqVR (wr := []) (wc := zTr cA g t) hK hP hN (List.Perm.refl _) 0 rfl rfl) rfl rfl hl.1 rfl (lv_room (Nat.le_of_ble_eq_true rfl)) dL_minute_14 ⟨Nat.le_of_ble_eq_true rfl, Nat.le_of_ble_eq_true rfl⟩) ?_
  refine lv_topi (fun v_3 ev_3 => ?_)
  rw [fk_2] at ev_3
  refine lv_istore_n (lv' := [(3, .int v_3), (2, .int v_2), (1, .int v_1), (0, .ref (g 0))]) hx hb dL_minute_17 rfl hl (by decide) rfl (fun ls hl => ?_)
  refine lv_aload_n hx hb dL_minute_18 rfl (lv_at hl 3 rfl) ?_
  refine lv_iconst (v := 3) hx hb dL_minute_19 (by decide) ?_
  refine z_Ri (va_runV (As := [.int (3 : Int32)]) (rest := []) ⟨hx, hb, hml, hown, hts⟩ (d_X9_compass l D cA g (3 : Int32) hR) (cwV 1 hts gL_minute_X9_compass rfl rfl rfl (by decide +kernel) ⟨Nat.le_of_ble_eq_true rfl, Nat.le_of_ble_eq_true rfl⟩) (zqVR (wr := []) (wc := zTr cA g t) hK hP hN (List.Perm.refl _) 0 rfl rfl) rfl rfl hl.1 rfl (lv_room (Nat.le_of_ble_eq_true rfl)) dL_minute_20 ⟨Nat.le_of_ble_eq_true rfl, Nat.le_of_ble_eq_true rfl⟩) ?_
  refine lv_topi (fun v_4 ev_4 => ?_)
  rw [fk_3] at ev_4
  refine lv_istore (lv' := [(4, .int v_4), (3, .int v_3), (2, .int v_2), (1, .int v_1), (0, .ref (g 0))]) hx hb dL_minute_23 hl (by decide) rfl (fun ls hl => ?_)
  refine lv_aload_n hx hb dL_minute_25 rfl (lv_at hl 4 rfl) ?_
  refine lv_bipush (v := 8) hx hb dL_minute_26 (by decide) ?_
  refine z_Ri (va_runV (As := [.int (8 : Int32)]) (rest := []) ⟨hx, hb, hml, hown, hts⟩ (d_X9_compass l D cA g (8 : Int32) hR) (cwV 1 hts gL_minute_X9_compass rfl rfl rfl (by decide +kernel) ⟨Nat.le_of_ble_eq_true rfl, Nat.le_of_ble_eq_true rfl⟩) (zqVR (wr := []) (wc := zTr cA g t) hK hP hN (List.Perm.refl _) 0 rfl rfl) rfl rfl hl.1 rfl (lv_room (Nat.le_of_ble_eq_true rfl)) dL_minute_28 ⟨Nat.le_of_ble_eq_true rfl, Nat.le_of_ble_eq_true rfl⟩) ?_
  refine lv_topi (fun v_5 ev_5 => ?_)
  rw [fk_8] at ev_5
  refine lv_istore (lv' := [(5, .int v_5), (4, .int v_4), (3, .int v_3), (2, .int v_2), (1, .int v_1), (0, .ref (g 0))]) hx hb dL_minute_31 hl (by decide) rfl (fun ls hl => ?_)
  refine lv_aload_n hx hb dL_minute_33 rfl (lv_at hl 5 rfl) ?_
  refine lv_iconst (v := 0) hx hb dL_minute_34 (by decide) ?_
  refine z_Ri (va_runV (As := [.int (0 : Int32)]) (rest := []) ⟨hx, hb, hml, hown, hts⟩ (d_X9_state l D cA g (0 : Int32) hR) (cwV 1 hts gL_minute_X9_state rfl rfl rfl (by decide +kernel) ⟨Nat.le_of_ble_eq_true rfl, Nat.le_of_ble_eq_true rfl⟩) (zqVR (wr := []) (wc := zTr cA g t) hK hP hN (List.Perm.refl _) 0 rfl rfl) rfl rfl hl.1 rfl (lv_room (Nat.le_of_ble_eq_true rfl)) dL_minute_35 ⟨Nat.le_of_ble_eq_true rfl, Nat.le_of_ble_eq_true rfl⟩) ?_
  refine lv_topi (fun v_6 ev_6 => ?_)
  rw [fs_0] at ev_6
  refine lv_istore (lv' := [(6, .int v_6), (5, .int v_5), (4, .int v_4), (3, .int v_3), (2, .int v_2), (1, .int v_1), (0, .ref (g 0))]) hx hb dL_minute_38 hl (by decide) rfl (fun ls hl => ?_)
  refine lv_aload_n hx hb dL_minute_40 rfl (lv_at hl 6 rfl) ?_
  refine lv_iconst (v := 1) hx hb dL_minute_41 (by decide) ?_
  refine z_Ri (va_runV (As := [.int (1 : Int32)]) (rest := []) ⟨hx, hb, hml, hown, hts⟩ (d_X9_state l D cA g (1 : Int32) hR) (cwV 1 hts gL_minute_X9_state rfl rfl rfl (by decide +kernel) ⟨Nat.le_of_ble_eq_true rfl, Nat.le_of_ble_eq_true rfl⟩) (zqVR (wr := []) (wc := zTr cA g t) hK hP hN (List.Perm.refl _) 0 rfl rfl) rfl rfl hl.1 rfl (lv_room (Nat.le_of_ble_eq_true rfl)) dL_minute_42 ⟨Nat.le_of_ble_eq_true rfl, Nat.le_of_ble_eq_true rfl⟩) ?_
  refine lv_topi (fun v_7 ev_7 => ?_)
  rw [fs_1] at ev_7
  refine lv_istore (lv' := [(7, .int v_7), (6, .int v_6), (5, .int v_5), (4, .int v_4), (3, .int v_3), (2, .int v_2), (1, .int v_1), (0, .ref (g 0))]) hx hb dL_minute_45 hl (by decide) rfl (fun ls hl => ?_)
  refine lv_aload_n hx hb dL_minute_47 rfl (lv_at hl 7 rfl) ?_
  refine lv_iconst (v := 2) hx hb dL_minute_48 (by decide) ?_
  refine z_Ri (va_runV (As := [.int (2 : Int32)]) (rest := []) ⟨hx, hb, hml, hown, hts⟩ (d_X9_state l D cA g (2 : Int32) hR) (cwV 1 hts gL_minute_X9_state rfl rfl rfl (by decide +kernel) ⟨Nat.le_of_ble_eq_true rfl, Nat.le_of_ble_eq_true rfl⟩) (zqVR (wr := []) (wc := zTr cA g t) hK hP hN (List.Perm.refl _) 0 rfl rfl) rfl rfl hl.1 rfl (lv_room (Nat.le_of_ble_eq_true rfl)) dL_minute_49 ⟨Nat.le_of_ble_eq_true rfl, Nat.le_of_ble_eq_true rfl⟩) ?_
  refine lv_topi (fun v_8 ev_8 => ?_)
  rw [fs_2] at ev_8
  refine lv_istore (lv' := [(8, .int v_8), (7, .int v_7), (6, .int v_6), (5, .int v_5), (4, .int v_4), (3, .int v_3), (2, .int v_2), (1, .int v_1), (0, .ref (g 0))]) hx hb dL_minute_52 hl (by decide) rfl (fun ls hl => ?_)
  refine lv_aload_n hx hb dL_minute_54 rfl (lv_at hl 8 rfl) ?_
  refine lv_iconst (v := 3) hx hb dL_minute_55 (by decide) ?_
  refine z_Ri (va_runV (As := [.int (3 : Int32)]) (rest := []) ⟨hx, hb, hml, hown, hts⟩ (d_X9_state l D cA g (3 : Int32) hR) (cwV 1 hts gL_minute_X9_state rfl rfl rfl (by decide +kernel) ⟨Nat.le_of_ble_eq_true rfl, Nat.le_of_ble_eq_true rfl⟩) (zqVR (wr := []) (wc := zTr cA g t) hK hP hN (List.Perm.refl _) 0 rfl rfl) rfl rfl hl.1 rfl (lv_room (Nat.le_of_ble_eq_true rfl)) dL_minute_56 ⟨Nat.le_of_ble_eq_true rfl, Nat.le_of_ble_eq_true rfl⟩) ?_
  refine lv_topi (fun v_9 ev_9 => ?_)
  rw [fs_3] at ev_9
  refine lv_istore (lv' := [(9, .int v_9), (8, .int v_8), (7, .int v_7), (6, .int v_6), (5, .int v_5), (4, .int v_4), (3, .int v_3), (2, .int v_2), (1, .int v_1), (0, .ref (g 0))]) hx hb dL_minute_59 hl (by decide) rfl (fun ls hl => ?_)
  refine lv_aload_n hx hb dL_minute_61 rfl (lv_at hl 9 rfl) ?_
  refine lv_iconst (v := 4) hx hb dL_minute_62 (by decide) ?_
  refine z_Ri (va_runV (As := [.int (4 : Int32)]) (rest := []) ⟨hx, hb, hml, hown, hts⟩ (d_X9_state l D cA g (4 : Int32) hR) (cwV 1 hts gL_minute_X9_state rfl rfl rfl (by decide +kernel) ⟨Nat.le_of_ble_eq_true rfl, Nat.le_of_ble_eq_true rfl⟩) (zqVR (wr := []) (wc := zTr cA g t) hK hP hN (List.Perm.refl _) 0 rfl rfl) rfl rfl hl.1 rfl (lv_room (Nat.le_of_ble_eq_true rfl)) dL_minute_63 ⟨Nat.le_of_ble_eq_true rfl, Nat.le_of_ble_eq_true rfl⟩) ?_
  refine lv_topi (fun v_10 ev_10 => ?_)
  rw [fs_4] at ev_10
  refine lv_istore (lv' := [(10, .int v_10), (9, .int v_9), (8, .int v_8), (7, .int v_7), (6, .int v_6), (5, .int v_5), (4, .int v_4), (3, .int v_3), (2, .int v_2), (1, .int v_1), (0, .ref (g 0))]) hx hb dL_minute_66 hl (by decide) rfl (fun ls hl => ?_)
  refine lv_aload_n hx hb dL_minute_68 rfl (lv_at hl 10 rfl) ?_
  refine lv_iconst (v := 5) hx hb dL_minute_69 (by decide) ?_
  refine z_Ri (va_runV (As := [.int (5 : Int32)]) (rest := []) ⟨hx, hb, hml, hown, hts⟩ (d_X9_state l D cA g (5 : Int32) hR) (cwV 1 hts gL_minute_X9_state rfl rfl rfl (by decide +kernel) ⟨Nat.le_of_ble_eq_true rfl, Nat.le_of_ble_eq_true rfl⟩) (zqVR (wr := []) (wc := zTr cA g t) hK hP hN (List.Perm.refl _) 0 rfl rfl) rfl rfl hl.1 rfl (lv_room (Nat.le_of_ble_eq_true rfl)) dL_minute_70 ⟨Nat.le_of_ble_eq_true rfl, Nat.le_of_ble_eq_true rfl⟩) ?_
  refine lv_topi (fun v_11 ev_11 => ?_)
  rw [fs_5] at ev_11
  refine lv_istore (lv' := [(11, .int v_11), (10, .int v_10), (9, .int v_9), (8, .int v_8), (7, .int v_7), (6, .int v_6), (5, .int v_5), (4, .int v_4), (3, .int v_3), (2, .int v_2), (1, .int v_1), (0, .ref (g 0))]) hx hb dL_minute_73 hl (by decide) rfl (fun ls hl => ?_)
  refine lv_aload_n hx hb dL_minute_75 rfl (lv_at hl 11 rfl) ?_
  refine lv_bipush (v := 6) hx hb dL_minute_76 (by decide) ?_
  refine z_Ri (va_runV (As := [.int (6 : Int32)]) (rest := []) ⟨hx, hb, hml, hown, hts⟩ (d_X9_state l D cA g (6 : Int32) hR) (cwV 1 hts gL_minute_X9_state rfl rfl rfl (by decide +kernel) ⟨Nat.le_of_ble_eq_true rfl, Nat.le_of_ble_eq_true rfl⟩) (zqVR (wr := []) (wc := zTr cA g t) hK hP hN (List.Perm.refl _) 0 rfl rfl) rfl rfl hl.1 rfl (lv_room (Nat.le_of_ble_eq_true rfl)) dL_minute_78 ⟨Nat.le_of_ble_eq_true rfl, Nat.le_of_ble_eq_true rfl⟩) ?_
  refine lv_topi (fun v_12 ev_12 => ?_)
  rw [fs_6] at ev_12
  refine lv_istore (lv' := [(12, .int v_12), (11, .int v_11), (10, .int v_10), (9, .int v_9), (8, .int v_8), (7, .int v_7), (6, .int v_6), (5, .int v_5), (4, .int v_4), (3, .int v_3), (2, .int v_2), (1, .int v_1), (0, .ref (g 0))]) hx hb dL_minute_81 hl (by decide) rfl (fun ls hl => ?_)
  refine lv_aload_n hx hb dL_minute_83 rfl (lv_at hl 12 rfl) ?_
  refine lv_bipush (v := 7) hx hb dL_minute_84 (by decide) ?_
  refine z_Ri (va_runV (As := [.int (7 : Int32)]) (rest := []) ⟨hx, hb, hml, hown, hts⟩ (d_X9_state l D cA g (7 : Int32) hR) (cwV 1 hts gL_minute_X9_state rfl rfl rfl (by decide +kernel) ⟨Nat.le_of_ble_eq_true rfl, Nat.le_of_ble_eq_true rfl⟩) (zqVR (wr := []) (wc := zTr cA g t) hK hP hN (List.Perm.refl _) 0 rfl rfl) rfl rfl hl.1 rfl (lv_room (Nat.le_of_ble_eq_true rfl)) dL_minute_86 ⟨Nat.le_of_ble_eq_true rfl, Nat.le_of_ble_eq_true rfl⟩) ?_
  refine lv_topi (fun v_13 ev_13 => ?_)
  rw [fs_7] at ev_13
  refine lv_istore (lv' := [(13, .int v_13), (12, .int v_12), (11, .int v_11), (10, .int v_10), (9, .int v_9), (8, .int v_8), (7, .int v_7), (6, .int v_6), (5, .int v_5), (4, .int v_4), (3, .int v_3), (2, .int v_2), (1, .int v_1), (0, .ref (g 0))]) hx hb dL_minute_89 hl (by decide) rfl (fun ls hl => ?_)
  refine lv_aload_n hx hb dL_minute_91 rfl (lv_at hl 13 rfl) ?_
  refine lv_bipush (v := 8) hx hb dL_minute_92 (by decide) ?_
  refine lv_iload hx hb dL_minute_94 (lv_at hl 1 rfl) ?_
  refine lv_iadd hx hb dL_minute_96 ?_
  refine z_Ri (va_runV (As := [.int ((8 : Int32) + v_12)]) (rest := []) ⟨hx, hb, hml, hown, hts⟩ (d_X9_state l D cA g ((8 : Int32) + v_12) hR) (cwV 1 hts gL_minute_X9_state rfl rfl rfl (by decide +kernel) ⟨Nat.le_of_ble_eq_true rfl, Nat.le_of_ble_eq_true rfl⟩) (zqVR (wr := []) (wc := zTr cA g t) hK hP hN (List.Perm.refl _) 0 rfl rfl) rfl rfl hl.1 rfl (lv_room (Nat.le_of_ble_eq_true rfl)) dL_minute_97 ⟨Nat.le_of_ble_eq_true rfl, Nat.le_of_ble_eq_true rfl⟩) ?_
  refine lv_topi (fun v_14 ev_14 => ?_)
  refine lv_istore (lv' := [(14, .int v_14), (13, .int v_13), (12, .int v_12), (11, .int v_11), (10, .int v_10), (9, .int v_9), (8, .int v_8), (7, .int v_7), (6, .int v_6), (5, .int v_5), (4, .int v_4), (3, .int v_3), (2, .int v_2), (1, .int v_1), (0, .ref (g 0))]) hx hb dL_minute_100 hl (by decide) rfl (fun ls hl => ?_)
  refine lv_aload_n hx hb dL_minute_102 rfl (lv_at hl 14 rfl) ?_
  refine lv_bipush (v := 13) hx hb dL_minute_103 (by decide) ?_
  refine z_Ri (va_runV (As := [.int (13 : Int32)]) (rest := []) ⟨hx, hb, hml, hown, hts⟩ (d_X9_state l D cA g (13 : Int32) hR) (cwV 1 hts gL_minute_X9_state rfl rfl rfl (by decide +kernel) ⟨Nat.le_of_ble_eq_true rfl, Nat.le_of_ble_eq_true rfl⟩) (zqVR (wr := []) (wc := zTr cA g t) hK hP hN (List.Perm.refl _) 0 rfl rfl) rfl rfl hl.1 rfl (lv_room (Nat.le_of_ble_eq_true rfl)) dL_minute_105 ⟨Nat.le_of_ble_eq_true rfl, Nat.le_of_ble_eq_true rfl⟩) ?_
  refine lv_topi (fun v_15 ev_15 => ?_)
  rw [fs_13] at ev_15
  refine lv_istore (lv' := [(15, .int v_15), (14, .int v_14), (13, .int v_13), (12, .int v_12), (11, .int v_11), (10, .int v_10), (9, .int v_9), (8, .int v_8), (7, .int v_7), (6, .int v_6), (5, .int v_5), (4, .int v_4), (3, .int v_3), (2, .int v_2), (1, .int v_1), (0, .ref (g 0))]) hx hb dL_minute_108 hl (by decide) rfl (fun ls hl => ?_)
  refine lv_aload_n hx hb dL_minute_110 rfl (lv_at hl 15 rfl) ?_
  refine lv_bipush (v := 14) hx hb dL_minute_111 (by decide) ?_
  refine z_Ri (va_runV (As := [.int (14 : Int32)]) (rest := []) ⟨hx, hb, hml, hown, hts⟩ (d_X9_state l D cA g (14 : Int32) hR) (cwV 1 hts gL_minute_X9_state rfl rfl rfl (by decide +kernel) ⟨Nat.le_of_ble_eq_true rfl, Nat.le_of_ble_eq_true rfl⟩) (zqVR (wr := []) (wc := zTr cA g t) hK hP hN (List.Perm.refl _) 0 rfl rfl) rfl rfl hl.1 rfl (lv_room (Nat.le_of_ble_eq_true rfl)) dL_minute_113 ⟨Nat.le_of_ble_eq_true rfl, Nat.le_of_ble_eq_true rfl⟩) ?_
  refine lv_topi (fun v_16 ev_16 => ?_)
  rw [fs_14] at ev_16
  refine lv_istore (lv' := [(16, .int v_16), (15, .int v_15), (14, .int v_14), (13, .int v_13), (12, .int v_12), (11, .int v_11), (10, .int v_10), (9, .int v_9), (8, .int v_8), (7, .int v_7), (6, .int v_6), (5, .int v_5), (4, .int v_4), (3, .int v_3), (2, .int v_2), (1, .int v_1), (0, .ref (g 0))]) hx hb dL_minute_116 hl (by decide) rfl (fun ls hl => ?_)
  refine lv_iload hx hb dL_minute_118 (lv_at hl 1 rfl) ?_
  have J133 : ∀ (j133_s0 : Int32) (ej133 : ((v_15 ≤ 0) ∧ j133_s0 = (0 : Int32)) ∨ ((¬ (v_15 ≤ 0)) ∧ j133_s0 = ((fm_turn w.1 (0 : Int32) (0 : Int32))))), ∀ (ls : Array Slot), lv_has ls 29 [(16, .int v_16), (15, .int v_15), (14, .int v_14), (13, .int v_13), (12, .int v_12), (11, .int v_11), (10, .int v_10), (9, .int v_9), (8, .int v_8), (7, .int v_7), (6, .int v_6), (5, .int v_5), (4, .int v_4), (3, .int v_3), (2, .int v_2), (1, .int v_1), (0, .ref (g 0))] → W p l e (headSpec wsL_minute ({ frames := 7, cells := 20, slots := 115, locals := 152 })).room s m (([.ref (g 0)] : List Value).toArray) below meth c s.heap [] 0 0 Q (F0 m 133 ls [.int j133_s0]) := by
    intro j133_s0 ej133 ls hl
    rw [ev_15] at ej133
    refine lv_istore (lv' := [(17, .int j133_s0), (16, .int v_16), (15, .int v_15), (14, .int v_14), (13, .int v_13), (12, .int v_12), (11, .int v_11), (10, .int v_10), (9, .int v_9), (8, .int v_8), (7, .int v_7), (6, .int v_6), (5, .int v_5), (4, .int v_4), (3, .int v_3), (2, .int v_2), (1, .int v_1), (0, .ref (g 0))]) hx hb dL_minute_133 hl (by decide) rfl (fun ls hl => ?_)
    refine lv_aload_n hx hb dL_minute_135 rfl (lv_at hl 17 rfl) ?_
    refine lv_iconst (v := 1) hx hb dL_minute_136 (by decide) ?_
    refine z_Hp (wr := []) (wt := fun u => zTr cA g u) (va_runV (As := [.int (1 : Int32)]) (rest := []) ⟨hx, hb, hml, hown, hts⟩ (d_X9_pass l D cA g s.heap.size (1 : Int32) hR) (cwV 1 hts gL_minute_X9_pass rfl rfl rfl (by decide +kernel) ⟨Nat.le_of_ble_eq_true rfl, Nat.le_of_ble_eq_true rfl⟩) (zqV (wr := []) (wc := zTr cA g t) hK hP hD hS hA hE (List.Perm.refl _) 0 rfl rfl) rfl rfl hl.1 rfl (lv_room (Nat.le_of_ble_eq_true rfl)) dL_minute_137 ⟨Nat.le_of_ble_eq_true rfl, Nat.le_of_ble_eq_true rfl⟩) hP hD hS hA (List.Perm.refl _) (fun u => List.Perm.refl _) (fun r_17 t_17 H locs hp_17 hP hD hS => ?_)
    obtain ⟨er_17, hR_17⟩ := hp_17
    obtain ⟨w_17, ew_17⟩ : ∃ z : vX10, z = ((fm_pass (pmN w) w (1 : Int32))).2 := ⟨_, rfl⟩
    rw [← ew_17] at hR_17
    have hP : va_P D vwCl (zTr cA g t_17) H := hP
    have hD : va_D A (zTr cA g t_17) := hD
    refine W.widen (k := 20) (n := 115) (by omega) (by omega) ?_
    have hB : MB w w_17.1 := mi_B hR hI hn ew_17
    have er_17 : r_17 = w_17.1 14 - w.1 14 := mi_r hR hI hn ew_17 er_17
    refine lv_istore (lv' := [(18, .int r_17), (17, .int j133_s0), (16, .int v_16), (15, .int v_15), (14, .int v_14), (13, .int v_13), (12, .int v_12), (11, .int v_11), (10, .int v_10), (9, .int v_9), (8, .int v_8), (7, .int v_7), (6, .int v_6), (5, .int v_5), (4, .int v_4), (3, .int v_3), (2, .int v_2), (1, .int v_1), (0, .ref (g 0))]) hx hb dL_minute_140 hl (by decide) rfl (fun ls hl => ?_)
    refine lv_aload_n hx hb dL_minute_142 rfl (lv_at hl 18 rfl) ?_
    refine lv_bipush (v := 22) hx hb dL_minute_143 (by decide) ?_
    refine z_Ri (va_runV (As := [.int (22 : Int32)]) (rest := []) ⟨hx, hb, hml, hown, hts⟩ (d_X9_state l D cA g (22 : Int32) hR_17) (cwV 1 hts gL_minute_X9_state rfl rfl rfl (by decide +kernel) ⟨Nat.le_of_ble_eq_true rfl, Nat.le_of_ble_eq_true rfl⟩) (zqVR (wr := []) (wc := zTr cA g t_17) hK hP hN (List.Perm.refl _) 0 rfl rfl) rfl rfl hl.1 rfl (lv_room (Nat.le_of_ble_eq_true rfl)) dL_minute_145 ⟨Nat.le_of_ble_eq_true rfl, Nat.le_of_ble_eq_true rfl⟩) ?_
    refine lv_topi (fun v_18 ev_18 => ?_)
    rw [fs_22] at ev_18
    refine lv_i2l hx hb dL_minute_148 rfl ?_
    refine lv_iload_n hx hb dL_minute_149 rfl (lv_at hl 17 rfl) ?_
    refine lv_iload_n hx hb dL_minute_150 rfl (lv_at hl 15 rfl) ?_
    refine lv_isub hx hb dL_minute_151 ?_
    refine lv_i2l hx hb dL_minute_152 rfl ?_
    refine lv_lmul hx hb dL_minute_153 ?_
    refine lv_ldc2 hx hb hown (hts (.constantLong RL 110 (1000)) (List.mem_of_getElem? (i := 1) rfl)) dL_minute_154 ?_
    refine lv_ldiv hx hb dL_minute_157 (by decide) ?_
    refine lv_aload_n hx hb dL_minute_158 rfl (lv_at hl 18 rfl) ?_
    refine lv_iload hx hb dL_minute_159 (lv_at hl 13 rfl) ?_
    refine z_Ri (va_runS (As := [.int v_5]) (rest := [.ref (g 0), .long (((v_18.toInt64) * ((v_1 - v_3).toInt64)) / (1000 : Int64))]) ⟨hx, hb, hml, hown, hts⟩ (c_L_size l D cA (v_5)  ) (va_cwS 1 hts gL_minute_L_size rfl rfl rfl (by decide +kernel) ⟨Nat.le_of_ble_eq_true rfl, Nat.le_of_ble_eq_true rfl⟩) (zqSR0 hK hN) rfl rfl hl.1 rfl (lv_room (Nat.le_of_ble_eq_true rfl)) dL_minute_161 ⟨Nat.le_of_ble_eq_true rfl, Nat.le_of_ble_eq_true rfl⟩) ?_
    refine lv_topi (fun v_19 ev_19 => ?_)
    refine lv_sipush (v := 10000) hx hb dL_minute_164 (by decide) ?_
    refine lv_idiv hx hb dL_minute_167 (by decide) ?_
    refine lv_iconst (v := 1) hx hb dL_minute_168 (by decide) ?_
    refine z_Ri (va_runV (As := [.int (v_19 / (10000 : Int32)), .int (1 : Int32)]) (rest := [.long (((v_18.toInt64) * ((v_1 - v_3).toInt64)) / (1000 : Int64))]) ⟨hx, hb, hml, hown, hts⟩ (d_X9_wave l D cA g (v_19 / (10000 : Int32)) (1 : Int32) hR_17) (cwV 2 hts gL_minute_X9_wave rfl rfl rfl (by decide +kernel) ⟨Nat.le_of_ble_eq_true rfl, Nat.le_of_ble_eq_true rfl⟩) (zqVR (wr := []) (wc := zTr cA g t_17) hK hP hN (List.Perm.refl _) 0 rfl rfl) rfl rfl hl.1 rfl (lv_room (Nat.le_of_ble_eq_true rfl)) dL_minute_169 ⟨Nat.le_of_ble_eq_true rfl, Nat.le_of_ble_eq_true rfl⟩) ?_
    refine lv_topi (fun v_20 ev_20 => ?_)
    refine lv_i2l hx hb dL_minute_172 rfl ?_
    refine lv_lmul hx hb dL_minute_173 ?_
    refine lv_ldc2 hx hb hown (hts (.constantLong RL 112 (1000000)) (List.mem_of_getElem? (i := 2) rfl)) dL_minute_174 ?_
    refine lv_ldiv hx hb dL_minute_177 (by decide) ?_
    refine lv_topl (fun y_21 ey_21 => ?_)
    refine lv_lstore (lv' := [(19, .long y_21), (18, .int r_17), (17, .int j133_s0), (16, .int v_16), (15, .int v_15), (14, .int v_14), (13, .int v_13), (12, .int v_12), (11, .int v_11), (10, .int v_10), (9, .int v_9), (8, .int v_8), (7, .int v_7), (6, .int v_6), (5, .int v_5), (4, .int v_4), (3, .int v_3), (2, .int v_2), (1, .int v_1), (0, .ref (g 0))]) hx hb dL_minute_178 hl (by decide) rfl (fun ls hl => ?_)
    refine lv_iload_n hx hb dL_minute_180 rfl (lv_at hl 17 rfl) ?_
    refine lv_i2l hx hb dL_minute_181 rfl ?_
    refine lv_lload hx hb dL_minute_182 (lv_at hl 0 rfl) ?_
    refine lv_lsub hx hb dL_minute_184 ?_
    refine lv_topl (fun y_22 ey_22 => ?_)
    refine lv_lstore (lv' := [(21, .long y_22), (19, .long y_21), (18, .int r_17), (17, .int j133_s0), (16, .int v_16), (15, .int v_15), (14, .int v_14), (13, .int v_13), (12, .int v_12), (11, .int v_11), (10, .int v_10), (9, .int v_9), (8, .int v_8), (7, .int v_7), (6, .int v_6), (5, .int v_5), (4, .int v_4), (3, .int v_3), (2, .int v_2), (1, .int v_1), (0, .ref (g 0))]) hx hb dL_minute_185 hl (by decide) rfl (fun ls hl => ?_)
    refine lv_lload hx hb dL_minute_187 (lv_at hl 0 rfl) ?_
    refine lv_lload hx hb dL_minute_189 (lv_at hl 0 rfl) ?_
    refine lv_iload hx hb dL_minute_191 (lv_at hl 8 rfl) ?_
    have J207 : ∀ (j207_s2 : Int32) (ej207 : ((¬ (v_12 = 0)) ∧ j207_s2 = ((10 : Int32) <<< ((v_12 - (1 : Int32)) &&& 31))) ∨ ((v_12 = 0) ∧ j207_s2 = (0 : Int32))), ∀ (ls : Array Slot), lv_has ls 29 [(21, .long y_22), (19, .long y_21), (18, .int r_17), (17, .int j133_s0), (16, .int v_16), (15, .int v_15), (14, .int v_14), (13, .int v_13), (12, .int v_12), (11, .int v_11), (10, .int v_10), (9, .int v_9), (8, .int v_8), (7, .int v_7), (6, .int v_6), (5, .int v_5), (4, .int v_4), (3, .int v_3), (2, .int v_2), (1, .int v_1), (0, .ref (g 0))] → W p l e (headSpec wsL_minute ({ frames := 7, cells := 20, slots := 115, locals := 152 })).room s m (([.ref (g 0)] : List Value).toArray) below meth c H locs 20 115 Q (F0 m 207 ls [.int j207_s2, .long y_22, .long y_22]) := by
      intro j207_s2 ej207 ls hl
      refine lv_i2l hx hb dL_minute_207 rfl ?_
      refine lv_lmul hx hb dL_minute_208 ?_
      refine lv_ldc2 hx hb hown (hts (.constantLong RL 110 (1000)) (List.mem_of_getElem? (i := 1) rfl)) dL_minute_209 ?_
      refine lv_ldiv hx hb dL_minute_212 (by decide) ?_
      refine lv_lsub hx hb dL_minute_213 ?_
      refine lv_topl (fun y_23 ey_23 => ?_)
      refine lv_lstore (lv' := [(21, .long y_23), (19, .long y_21), (18, .int r_17), (17, .int j133_s0), (16, .int v_16), (15, .int v_15), (14, .int v_14), (13, .int v_13), (12, .int v_12), (11, .int v_11), (10, .int v_10), (9, .int v_9), (8, .int v_8), (7, .int v_7), (6, .int v_6), (5, .int v_5), (4, .int v_4), (3, .int v_3), (2, .int v_2), (1, .int v_1), (0, .ref (g 0))]) hx hb dL_minute_214 hl (by decide) rfl (fun ls hl => ?_)
      refine lv_lload hx hb dL_minute_216 (lv_at hl 0 rfl) ?_
      refine lv_ldc2 hx hb hown (hts (.constantLong RL 114 (900000)) (List.mem_of_getElem? (i := 3) rfl)) dL_minute_218 ?_
      refine W.lcmp hx hb dL_minute_221 ?_
      have J248 : ∀ (j248_s0 : Int64) (ej248 : ((y_23 ≤ (900000 : Int64)) ∧ ((-900000 : Int64) ≤ y_23) ∧ j248_s0 = y_23) ∨ ((y_23 ≤ (900000 : Int64)) ∧ (¬ ((-900000 : Int64) ≤ y_23)) ∧ j248_s0 = (-900000 : Int64)) ∨ ((¬ (y_23 ≤ (900000 : Int64))) ∧ j248_s0 = (900000 : Int64))), ∀ (ls : Array Slot), lv_has ls 29 [(21, .long y_23), (19, .long y_21), (18, .int r_17), (17, .int j133_s0), (16, .int v_16), (15, .int v_15), (14, .int v_14), (13, .int v_13), (12, .int v_12), (11, .int v_11), (10, .int v_10), (9, .int v_9), (8, .int v_8), (7, .int v_7), (6, .int v_6), (5, .int v_5), (4, .int v_4), (3, .int v_3), (2, .int v_2), (1, .int v_1), (0, .ref (g 0))] → W p l e (headSpec wsL_minute ({ frames := 7, cells := 20, slots := 115, locals := 152 })).room s m (([.ref (g 0)] : List Value).toArray) below meth c H locs 20 115 Q (F0 m 248 ls [.long j248_s0]) := by
        intro j248_s0 ej248 ls hl
        rw [ev_12] at ej207
        rw [ey_23, ey_22, ey_21, ev_20, ev_19, ev_18, ev_5, ev_3, ev_2, ev_1] at ej248
        have et : j248_s0 = (fm_A2 w.1 5).toInt64 := mi_tilt hR hB ej207 ej248
        refine lv_lstore (lv' := [(21, .long j248_s0), (19, .long y_21), (18, .int r_17), (17, .int j133_s0), (16, .int v_16), (15, .int v_15), (14, .int v_14), (13, .int v_13), (12, .int v_12), (11, .int v_11), (10, .int v_10), (9, .int v_9), (8, .int v_8), (7, .int v_7), (6, .int v_6), (5, .int v_5), (4, .int v_4), (3, .int v_3), (2, .int v_2), (1, .int v_1), (0, .ref (g 0))]) hx hb dL_minute_248 hl (by decide) rfl (fun ls hl => ?_)
        refine lv_iload_n hx hb dL_minute_250 rfl (lv_at hl 19 rfl) ?_
        refine lv_i2l hx hb dL_minute_251 rfl ?_
        refine lv_aload_n hx hb dL_minute_252 rfl (lv_at hl 20 rfl) ?_
        refine lv_bipush (v := 23) hx hb dL_minute_253 (by decide) ?_
        refine z_Ri (va_runV (As := [.int (23 : Int32)]) (rest := [.long (v_1.toInt64)]) ⟨hx, hb, hml, hown, hts⟩ (d_X9_state l D cA g (23 : Int32) hR_17) (cwV 1 hts gL_minute_X9_state rfl rfl rfl (by decide +kernel) ⟨Nat.le_of_ble_eq_true rfl, Nat.le_of_ble_eq_true rfl⟩) (zqVR (wr := []) (wc := zTr cA g t_17) hK hP hN (List.Perm.refl _) 0 rfl rfl) rfl rfl hl.1 rfl (lv_room (Nat.le_of_ble_eq_true rfl)) dL_minute_255 ⟨Nat.le_of_ble_eq_true rfl, Nat.le_of_ble_eq_true rfl⟩) ?_
        refine lv_topi (fun v_24 ev_24 => ?_)
        rw [fs_23] at ev_24
        refine lv_i2l hx hb dL_minute_258 rfl ?_
        refine lv_lload hx hb dL_minute_259 (lv_at hl 0 rfl) ?_
        refine lv_lmul hx hb dL_minute_261 ?_
        refine lv_ldc2 hx hb hown (hts (.constantLong RL 110 (1000)) (List.mem_of_getElem? (i := 1) rfl)) dL_minute_262 ?_
        refine lv_ldiv hx hb dL_minute_265 (by decide) ?_
        refine lv_ladd hx hb dL_minute_266 ?_
        refine lv_topl (fun y_25 ey_25 => ?_)
        refine lv_lstore (lv' := [(23, .long y_25), (21, .long j248_s0), (19, .long y_21), (18, .int r_17), (17, .int j133_s0), (16, .int v_16), (15, .int v_15), (14, .int v_14), (13, .int v_13), (12, .int v_12), (11, .int v_11), (10, .int v_10), (9, .int v_9), (8, .int v_8), (7, .int v_7), (6, .int v_6), (5, .int v_5), (4, .int v_4), (3, .int v_3), (2, .int v_2), (1, .int v_1), (0, .ref (g 0))]) hx hb dL_minute_267 hl (by decide) rfl (fun ls hl => ?_)
        refine lv_lload hx hb dL_minute_269 (lv_at hl 0 rfl) ?_
        refine lv_ldc2 hx hb hown (hts (.constantLong RL 118 (1800000)) (List.mem_of_getElem? (i := 5) rfl)) dL_minute_271 ?_
        refine W.lcmp hx hb dL_minute_274 ?_
        have J301 : ∀ (j301_s0 : Int64) (ej301 : ((y_25 ≤ (1800000 : Int64)) ∧ ((-1800000 : Int64) ≤ y_25) ∧ j301_s0 = y_25) ∨ ((y_25 ≤ (1800000 : Int64)) ∧ (¬ ((-1800000 : Int64) ≤ y_25)) ∧ j301_s0 = (-1800000 : Int64)) ∨ ((¬ (y_25 ≤ (1800000 : Int64))) ∧ j301_s0 = (1800000 : Int64))), ∀ (ls : Array Slot), lv_has ls 29 [(23, .long y_25), (21, .long j248_s0), (19, .long y_21), (18, .int r_17), (17, .int j133_s0), (16, .int v_16), (15, .int v_15), (14, .int v_14), (13, .int v_13), (12, .int v_12), (11, .int v_11), (10, .int v_10), (9, .int v_9), (8, .int v_8), (7, .int v_7), (6, .int v_6), (5, .int v_5), (4, .int v_4), (3, .int v_3), (2, .int v_2), (1, .int v_1), (0, .ref (g 0))] → W p l e (headSpec wsL_minute ({ frames := 7, cells := 20, slots := 115, locals := 152 })).room s m (([.ref (g 0)] : List Value).toArray) below meth c H locs 20 115 Q (F0 m 301 ls [.long j301_s0]) := by
          intro j301_s0 ej301 ls hl
          rw [ey_25, ev_24, ev_1, et] at ej301
          have ee : j301_s0 = (fm_A2 w.1 4).toInt64 := mi_err hR hB ej301
          refine lv_lstore (lv' := [(23, .long j301_s0), (21, .long j248_s0), (19, .long y_21), (18, .int r_17), (17, .int j133_s0), (16, .int v_16), (15, .int v_15), (14, .int v_14), (13, .int v_13), (12, .int v_12), (11, .int v_11), (10, .int v_10), (9, .int v_9), (8, .int v_8), (7, .int v_7), (6, .int v_6), (5, .int v_5), (4, .int v_4), (3, .int v_3), (2, .int v_2), (1, .int v_1), (0, .ref (g 0))]) hx hb dL_minute_301 hl (by decide) rfl (fun ls hl => ?_)
          refine lv_lload hx hb dL_minute_303 (lv_at hl 0 rfl) ?_
          refine lv_iload_n hx hb dL_minute_305 rfl (lv_at hl 20 rfl) ?_
          refine lv_i2l hx hb dL_minute_306 rfl ?_
          refine W.lcmp hx hb dL_minute_307 ?_
          have J328 : ∀ (j328_s0 : Int32) (ej328 : ((j301_s0 ≤ (v_1.toInt64)) ∧ ((v_1.toInt64) ≤ j301_s0) ∧ j328_s0 = (0 : Int32)) ∨ ((j301_s0 ≤ (v_1.toInt64)) ∧ (¬ ((v_1.toInt64) ≤ j301_s0)) ∧ j328_s0 = (-1 : Int32)) ∨ ((¬ (j301_s0 ≤ (v_1.toInt64))) ∧ j328_s0 = (1 : Int32))), ∀ (ls : Array Slot), lv_has ls 29 [(23, .long j301_s0), (21, .long j248_s0), (19, .long y_21), (18, .int r_17), (17, .int j133_s0), (16, .int v_16), (15, .int v_15), (14, .int v_14), (13, .int v_13), (12, .int v_12), (11, .int v_11), (10, .int v_10), (9, .int v_9), (8, .int v_8), (7, .int v_7), (6, .int v_6), (5, .int v_5), (4, .int v_4), (3, .int v_3), (2, .int v_2), (1, .int v_1), (0, .ref (g 0))] → W p l e (headSpec wsL_minute ({ frames := 7, cells := 20, slots := 115, locals := 152 })).room s m (([.ref (g 0)] : List Value).toArray) below meth c H locs 20 115 Q (F0 m 328 ls [.int j328_s0]) := by
            intro j328_s0 ej328 ls hl
            rw [ee, ev_1] at ej328
            have hg := mi_goes ej328
            refine lv_istore (lv' := [(25, .int j328_s0), (23, .long j301_s0), (21, .long j248_s0), (19, .long y_21), (18, .int r_17), (17, .int j133_s0), (16, .int v_16), (15, .int v_15), (14, .int v_14), (13, .int v_13), (12, .int v_12), (11, .int v_11), (10, .int v_10), (9, .int v_9), (8, .int v_8), (7, .int v_7), (6, .int v_6), (5, .int v_5), (4, .int v_4), (3, .int v_3), (2, .int v_2), (1, .int v_1), (0, .ref (g 0))]) hx hb dL_minute_328 hl (by decide) rfl (fun ls hl => ?_)
            refine lv_iload hx hb dL_minute_330 (lv_at hl 0 rfl) ?_
            have J348 : ∀ (j348_s0 : Int32) (ej348 : ((j328_s0 = 0) ∧ j348_s0 = (0 : Int32)) ∨ ((¬ (j328_s0 = 0)) ∧ (¬ (v_4 = (-j328_s0))) ∧ j348_s0 = (0 : Int32)) ∨ ((¬ (j328_s0 = 0)) ∧ (v_4 = (-j328_s0)) ∧ j348_s0 = (1 : Int32))), ∀ (ls : Array Slot), lv_has ls 29 [(25, .int j328_s0), (23, .long j301_s0), (21, .long j248_s0), (19, .long y_21), (18, .int r_17), (17, .int j133_s0), (16, .int v_16), (15, .int v_15), (14, .int v_14), (13, .int v_13), (12, .int v_12), (11, .int v_11), (10, .int v_10), (9, .int v_9), (8, .int v_8), (7, .int v_7), (6, .int v_6), (5, .int v_5), (4, .int v_4), (3, .int v_3), (2, .int v_2), (1, .int v_1), (0, .ref (g 0))] → W p l e (headSpec wsL_minute ({ frames := 7, cells := 20, slots := 115, locals := 152 })).room s m (([.ref (g 0)] : List Value).toArray) below meth c H locs 20 115 Q (F0 m 348 ls [.int j348_s0]) := by
              intro j348_s0 ej348 ls hl
              rw [ev_4] at ej348
              obtain ⟨h12, hT⟩ := mi_tn hR hB hg ej348
              have hT : MT w w_17.1 j348_s0 := hT
              refine lv_istore (lv' := [(26, .int j348_s0), (25, .int j328_s0), (23, .long j301_s0), (21, .long j248_s0), (19, .long y_21), (18, .int r_17), (17, .int j133_s0), (16, .int v_16), (15, .int v_15), (14, .int v_14), (13, .int v_13), (12, .int v_12), (11, .int v_11), (10, .int v_10), (9, .int v_9), (8, .int v_8), (7, .int v_7), (6, .int v_6), (5, .int v_5), (4, .int v_4), (3, .int v_3), (2, .int v_2), (1, .int v_1), (0, .ref (g 0))]) hx hb dL_minute_348 hl (by decide) rfl (fun ls hl => ?_)
              refine lv_aload_n hx hb dL_minute_350 rfl (lv_at hl 23 rfl) ?_
              refine lv_iconst (v := 1) hx hb dL_minute_351 (by decide) ?_
              refine z_Ri (va_runV (As := [.int (1 : Int32)]) (rest := []) ⟨hx, hb, hml, hown, hts⟩ (d_X9_compass l D cA g (1 : Int32) hR_17) (cwV 1 hts gL_minute_X9_compass rfl rfl rfl (by decide +kernel) ⟨Nat.le_of_ble_eq_true rfl, Nat.le_of_ble_eq_true rfl⟩) (zqVR (wr := []) (wc := zTr cA g t_17) hK hP hN (List.Perm.refl _) 0 rfl rfl) rfl rfl hl.1 rfl (lv_room (Nat.le_of_ble_eq_true rfl)) dL_minute_352 ⟨Nat.le_of_ble_eq_true rfl, Nat.le_of_ble_eq_true rfl⟩) ?_
              refine lv_topi (fun v_26 ev_26 => ?_)
              rw [fk_1] at ev_26
              refine lv_i2l hx hb dL_minute_355 rfl ?_
              refine lv_lload hx hb dL_minute_356 (lv_at hl 3 rfl) ?_
              refine W.lcmp hx hb dL_minute_358 ?_
              refine lv_if_ne (tgt := 453) hx hb dL_minute_359 (by decide) (fun kc_27 => ?_) (fun kc_27 => ?_)
              · skip
                have c_27 : ¬ ((v_26.toInt64) = j248_s0) := fun h => kc_27 ((lg_cmp_eq _ _).mpr h)
                -- bad leaf 0
                rw [ev_26] at c_27
                exact (c_27 (mi_l0 (mb_45 hR hB).2 et)).elim
              · skip
                have c_27 : (v_26.toInt64) = j248_s0 := (lg_cmp_eq _ _).mp kc_27
                refine lv_aload_n hx hb dL_minute_362 rfl (lv_at hl 23 rfl) ?_
                refine lv_iconst (v := 0) hx hb dL_minute_363 (by decide) ?_
                refine z_Ri (va_runV (As := [.int (0 : Int32)]) (rest := []) ⟨hx, hb, hml, hown, hts⟩ (d_X9_compass l D cA g (0 : Int32) hR_17) (cwV 1 hts gL_minute_X9_compass rfl rfl rfl (by decide +kernel) ⟨Nat.le_of_ble_eq_true rfl, Nat.le_of_ble_eq_true rfl⟩) (zqVR (wr := []) (wc := zTr cA g t_17) hK hP hN (List.Perm.refl _) 0 rfl rfl) rfl rfl hl.1 rfl (lv_room (Nat.le_of_ble_eq_true rfl)) dL_minute_364 ⟨Nat.le_of_ble_eq_true rfl, Nat.le_of_ble_eq_true rfl⟩) ?_
                refine lv_topi (fun v_28 ev_28 => ?_)
                rw [fk_0] at ev_28
                refine lv_i2l hx hb dL_minute_367 rfl ?_
                refine lv_lload hx hb dL_minute_368 (lv_at hl 2 rfl) ?_
                refine W.lcmp hx hb dL_minute_370 ?_
                refine lv_if_ne (tgt := 453) hx hb dL_minute_371 (by decide) (fun kc_29 => ?_) (fun kc_29 => ?_)
                · skip
                  have c_29 : ¬ ((v_28.toInt64) = j301_s0) := fun h => kc_29 ((lg_cmp_eq _ _).mpr h)
                  -- bad leaf 1
                  rw [ev_28] at c_29
                  exact (c_29 (mi_l0 (mb_45 hR hB).1 ee)).elim
                · skip
                  have c_29 : (v_28.toInt64) = j301_s0 := (lg_cmp_eq _ _).mp kc_29
                  refine lv_aload_n hx hb dL_minute_374 rfl (lv_at hl 23 rfl) ?_
                  refine lv_iconst (v := 3) hx hb dL_minute_375 (by decide) ?_
                  refine z_Ri (va_runV (As := [.int (3 : Int32)]) (rest := []) ⟨hx, hb, hml, hown, hts⟩ (d_X9_compass l D cA g (3 : Int32) hR_17) (cwV 1 hts gL_minute_X9_compass rfl rfl rfl (by decide +kernel) ⟨Nat.le_of_ble_eq_true rfl, Nat.le_of_ble_eq_true rfl⟩) (zqVR (wr := []) (wc := zTr cA g t_17) hK hP hN (List.Perm.refl _) 0 rfl rfl) rfl rfl hl.1 rfl (lv_room (Nat.le_of_ble_eq_true rfl)) dL_minute_376 ⟨Nat.le_of_ble_eq_true rfl, Nat.le_of_ble_eq_true rfl⟩) ?_
                  refine lv_topi (fun v_30 ev_30 => ?_)
                  rw [fk_3] at ev_30
                  refine lv_iload hx hb dL_minute_379 (lv_at hl 1 rfl) ?_
                  have J391 : ∀ (j391_s1 : Int32) (ej391 : ((¬ (j328_s0 = 0)) ∧ j391_s1 = j328_s0) ∨ ((j328_s0 = 0) ∧ j391_s1 = v_4)), ∀ (ls : Array Slot), lv_has ls 29 [(26, .int j348_s0), (25, .int j328_s0), (23, .long j301_s0), (21, .long j248_s0), (19, .long y_21), (18, .int r_17), (17, .int j133_s0), (16, .int v_16), (15, .int v_15), (14, .int v_14), (13, .int v_13), (12, .int v_12), (11, .int v_11), (10, .int v_10), (9, .int v_9), (8, .int v_8), (7, .int v_7), (6, .int v_6), (5, .int v_5), (4, .int v_4), (3, .int v_3), (2, .int v_2), (1, .int v_1), (0, .ref (g 0))] → W p l e (headSpec wsL_minute ({ frames := 7, cells := 20, slots := 115, locals := 152 })).room s m (([.ref (g 0)] : List Value).toArray) below meth c H locs 20 115 Q (F0 m 391 ls [.int j391_s1, .int v_30]) := by
                    intro j391_s1 ej391 ls hl
                    rw [ev_4] at ej391
                    refine lv_icmp_ne (tgt := 453) hx hb dL_minute_391 (by decide) (fun c_31 => ?_) (fun c_31 => ?_)
                    · skip
                      -- bad leaf 2
                      rw [ev_30] at c_31
                      exact (c_31 (mi_2 h12 ej391)).elim
                    · skip
                      refine lv_iload hx hb dL_minute_394 (lv_at hl 5 rfl) ?_
                      refine lv_iload hx hb dL_minute_396 (lv_at hl 0 rfl) ?_
                      have J406 : ∀ (j406_s1 : Int32) (ej406 : ((j348_s0 = 0) ∧ j406_s1 = (0 : Int32)) ∨ ((¬ (j348_s0 = 0)) ∧ j406_s1 = (1 : Int32))), ∀ (ls : Array Slot), lv_has ls 29 [(26, .int j348_s0), (25, .int j328_s0), (23, .long j301_s0), (21, .long j248_s0), (19, .long y_21), (18, .int r_17), (17, .int j133_s0), (16, .int v_16), (15, .int v_15), (14, .int v_14), (13, .int v_13), (12, .int v_12), (11, .int v_11), (10, .int v_10), (9, .int v_9), (8, .int v_8), (7, .int v_7), (6, .int v_6), (5, .int v_5), (4, .int v_4), (3, .int v_3), (2, .int v_2), (1, .int v_1), (0, .ref (g 0))] → W p l e (headSpec wsL_minute ({ frames := 7, cells := 20, slots := 115, locals := 152 })).room s m (([.ref (g 0)] : List Value).toArray) below meth c H locs 20 115 Q (F0 m 406 ls [.int j406_s1, .int r_17]) := by
                        intro j406_s1 ej406 ls hl
                        refine lv_icmp_ne (tgt := 453) hx hb dL_minute_406 (by decide) (fun c_32 => ?_) (fun c_32 => ?_)
                        · skip
                          -- bad leaf 3
                          rw [er_17] at c_32
                          exact (c_32 (mi_3 hT ej406)).elim
                        · skip
                          refine lv_aload_n hx hb dL_minute_409 rfl (lv_at hl 23 rfl) ?_
                          refine lv_bipush (v := 14) hx hb dL_minute_410 (by decide) ?_
                          refine z_Ri (va_runV (As := [.int (14 : Int32)]) (rest := []) ⟨hx, hb, hml, hown, hts⟩ (d_X9_state l D cA g (14 : Int32) hR_17) (cwV 1 hts gL_minute_X9_state rfl rfl rfl (by decide +kernel) ⟨Nat.le_of_ble_eq_true rfl, Nat.le_of_ble_eq_true rfl⟩) (zqVR (wr := []) (wc := zTr cA g t_17) hK hP hN (List.Perm.refl _) 0 rfl rfl) rfl rfl hl.1 rfl (lv_room (Nat.le_of_ble_eq_true rfl)) dL_minute_412 ⟨Nat.le_of_ble_eq_true rfl, Nat.le_of_ble_eq_true rfl⟩) ?_
                          refine lv_topi (fun v_33 ev_33 => ?_)
                          rw [fs_14] at ev_33
                          refine lv_iload hx hb dL_minute_415 (lv_at hl 7 rfl) ?_
                          refine lv_iload hx hb dL_minute_417 (lv_at hl 5 rfl) ?_
                          refine lv_iadd hx hb dL_minute_419 ?_
                          refine lv_icmp_ne (tgt := 453) hx hb dL_minute_420 (by decide) (fun c_34 => ?_) (fun c_34 => ?_)
                          · skip
                            -- bad leaf 4
                            rw [ev_33, er_17, ev_16] at c_34
                            exact (c_34 (mi_4)).elim
                          · skip
                            refine lv_aload_n hx hb dL_minute_423 rfl (lv_at hl 23 rfl) ?_
                            refine lv_bipush (v := 13) hx hb dL_minute_424 (by decide) ?_
                            refine z_Ri (va_runV (As := [.int (13 : Int32)]) (rest := []) ⟨hx, hb, hml, hown, hts⟩ (d_X9_state l D cA g (13 : Int32) hR_17) (cwV 1 hts gL_minute_X9_state rfl rfl rfl (by decide +kernel) ⟨Nat.le_of_ble_eq_true rfl, Nat.le_of_ble_eq_true rfl⟩) (zqVR (wr := []) (wc := zTr cA g t_17) hK hP hN (List.Perm.refl _) 0 rfl rfl) rfl rfl hl.1 rfl (lv_room (Nat.le_of_ble_eq_true rfl)) dL_minute_426 ⟨Nat.le_of_ble_eq_true rfl, Nat.le_of_ble_eq_true rfl⟩) ?_
                            refine lv_topi (fun v_35 ev_35 => ?_)
                            rw [fs_13] at ev_35
                            refine lv_iload hx hb dL_minute_429 (lv_at hl 0 rfl) ?_
                            have J450 : ∀ (j450_s1 : Int32) (ej450 : ((j348_s0 = 0) ∧ j450_s1 = v_15) ∨ ((¬ (j348_s0 = 0)) ∧ ((8 : Int32) ≤ v_15) ∧ j450_s1 = v_15) ∨ ((¬ (j348_s0 = 0)) ∧ (¬ ((8 : Int32) ≤ v_15)) ∧ j450_s1 = (v_15 + (1 : Int32)))), ∀ (ls : Array Slot), lv_has ls 29 [(26, .int j348_s0), (25, .int j328_s0), (23, .long j301_s0), (21, .long j248_s0), (19, .long y_21), (18, .int r_17), (17, .int j133_s0), (16, .int v_16), (15, .int v_15), (14, .int v_14), (13, .int v_13), (12, .int v_12), (11, .int v_11), (10, .int v_10), (9, .int v_9), (8, .int v_8), (7, .int v_7), (6, .int v_6), (5, .int v_5), (4, .int v_4), (3, .int v_3), (2, .int v_2), (1, .int v_1), (0, .ref (g 0))] → W p l e (headSpec wsL_minute ({ frames := 7, cells := 20, slots := 115, locals := 152 })).room s m (([.ref (g 0)] : List Value).toArray) below meth c H locs 20 115 Q (F0 m 450 ls [.int j450_s1, .int v_35]) := by
                              intro j450_s1 ej450 ls hl
                              rw [ev_15] at ej450
                              refine lv_icmp_eq (tgt := 455) hx hb dL_minute_450 (by decide) (fun c_36 => ?_) (fun c_36 => ?_)
                              · skip
                                refine lv_iload hx hb dL_minute_455 (lv_at hl 0 rfl) ?_
                                have J497 : ∀ (ej497 : ((j348_s0 = 0)) ∨ ((¬ (j348_s0 = 0)) ∧ (((fm_turn w_17.1 (0 : Int32) (0 : Int32))) = v_1) ∧ (((fm_turn w_17.1 (0 : Int32) (1 : Int32))) = v_6) ∧ (v_15 ≤ 0)) ∨ ((¬ (j348_s0 = 0)) ∧ (((fm_turn w_17.1 (0 : Int32) (0 : Int32))) = v_1) ∧ (((fm_turn w_17.1 (0 : Int32) (1 : Int32))) = v_6) ∧ (¬ (v_15 ≤ 0)) ∧ (((fm_turn w_17.1 (1 : Int32) (0 : Int32))) = j133_s0))), ∀ (ls : Array Slot), lv_has ls 29 [(26, .int j348_s0), (25, .int j328_s0), (23, .long j301_s0), (21, .long j248_s0), (19, .long y_21), (18, .int r_17), (17, .int j133_s0), (16, .int v_16), (15, .int v_15), (14, .int v_14), (13, .int v_13), (12, .int v_12), (11, .int v_11), (10, .int v_10), (9, .int v_9), (8, .int v_8), (7, .int v_7), (6, .int v_6), (5, .int v_5), (4, .int v_4), (3, .int v_3), (2, .int v_2), (1, .int v_1), (0, .ref (g 0))] → W p l e (headSpec wsL_minute ({ frames := 7, cells := 20, slots := 115, locals := 152 })).room s m (([.ref (g 0)] : List Value).toArray) below meth c H locs 20 115 Q (F0 m 497 ls []) := by
                                  intro ej497 ls hl
                                  refine lv_iload hx hb dL_minute_497 (lv_at hl 0 rfl) ?_
                                  have J520 : ∀ (ej520 : ((¬ (j348_s0 = 0))) ∨ ((j348_s0 = 0) ∧ (v_15 ≤ 0)) ∨ ((j348_s0 = 0) ∧ (¬ (v_15 ≤ 0)) ∧ (((fm_turn w_17.1 (0 : Int32) (0 : Int32))) = j133_s0))), ∀ (ls : Array Slot), lv_has ls 29 [(26, .int j348_s0), (25, .int j328_s0), (23, .long j301_s0), (21, .long j248_s0), (19, .long y_21), (18, .int r_17), (17, .int j133_s0), (16, .int v_16), (15, .int v_15), (14, .int v_14), (13, .int v_13), (12, .int v_12), (11, .int v_11), (10, .int v_10), (9, .int v_9), (8, .int v_8), (7, .int v_7), (6, .int v_6), (5, .int v_5), (4, .int v_4), (3, .int v_3), (2, .int v_2), (1, .int v_1), (0, .ref (g 0))] → W p l e (headSpec wsL_minute ({ frames := 7, cells := 20, slots := 115, locals := 152 })).room s m (([.ref (g 0)] : List Value).toArray) below meth c H locs 20 115 Q (F0 m 520 ls []) := by
                                    intro ej520 ls hl
                                    refine lv_iload hx hb dL_minute_520 (lv_at hl 18 rfl) ?_
                                    refine lv_i2l hx hb dL_minute_522 rfl ?_
                                    refine lv_iload hx hb dL_minute_523 (lv_at hl 15 rfl) ?_
                                    refine lv_i2l hx hb dL_minute_525 rfl ?_
                                    refine lv_ldc2 hx hb hown (hts (.constantLong RL 122 (28)) (List.mem_of_getElem? (i := 7) rfl)) dL_minute_526 ?_
                                    refine lv_lmul hx hb dL_minute_529 ?_
                                    refine lv_aload_n hx hb dL_minute_530 rfl (lv_at hl 23 rfl) ?_
                                    refine lv_iload hx hb dL_minute_531 (lv_at hl 16 rfl) ?_
                                    refine lv_iconst (v := 1) hx hb dL_minute_533 (by decide) ?_
                                    refine z_Ri (va_runV (As := [.int v_7, .int (1 : Int32)]) (rest := [.long ((v_8.toInt64) * (28 : Int64)), .long (v_5.toInt64)]) ⟨hx, hb, hml, hown, hts⟩ (d_X9_wave l D cA g (v_7) (1 : Int32) hR_17) (cwV 2 hts gL_minute_X9_wave rfl rfl rfl (by decide +kernel) ⟨Nat.le_of_ble_eq_true rfl, Nat.le_of_ble_eq_true rfl⟩) (zqVR (wr := []) (wc := zTr cA g t_17) hK hP hN (List.Perm.refl _) 0 rfl rfl) rfl rfl hl.1 rfl (lv_room (Nat.le_of_ble_eq_true rfl)) dL_minute_534 ⟨Nat.le_of_ble_eq_true rfl, Nat.le_of_ble_eq_true rfl⟩) ?_
                                    refine lv_topi (fun v_37 ev_37 => ?_)
                                    refine lv_i2l hx hb dL_minute_537 rfl ?_
                                    refine lv_lmul hx hb dL_minute_538 ?_
                                    refine lv_ldc2 hx hb hown (hts (.constantLong RL 112 (1000000)) (List.mem_of_getElem? (i := 2) rfl)) dL_minute_539 ?_
                                    refine lv_ldiv hx hb dL_minute_542 (by decide) ?_
                                    refine lv_ladd hx hb dL_minute_543 ?_
                                    refine lv_topl (fun y_38 ey_38 => ?_)
                                    refine lv_lstore (lv' := [(27, .long y_38), (26, .int j348_s0), (25, .int j328_s0), (23, .long j301_s0), (21, .long j248_s0), (19, .long y_21), (18, .int r_17), (17, .int j133_s0), (16, .int v_16), (15, .int v_15), (14, .int v_14), (13, .int v_13), (12, .int v_12), (11, .int v_11), (10, .int v_10), (9, .int v_9), (8, .int v_8), (7, .int v_7), (6, .int v_6), (5, .int v_5), (4, .int v_4), (3, .int v_3), (2, .int v_2), (1, .int v_1), (0, .ref (g 0))]) hx hb dL_minute_544 hl (by decide) rfl (fun ls hl => ?_)
                                    refine lv_lload hx hb dL_minute_546 (lv_at hl 0 rfl) ?_
                                    refine lv_ldc2 hx hb hown (hts (.constantLong RL 124 (70000000)) (List.mem_of_getElem? (i := 8) rfl)) dL_minute_548 ?_
                                    refine W.lcmp hx hb dL_minute_551 ?_
                                    have J578 : ∀ (j578_s0 : Int64) (ej578 : ((y_38 ≤ (70000000 : Int64)) ∧ ((-70000000 : Int64) ≤ y_38) ∧ j578_s0 = y_38) ∨ ((y_38 ≤ (70000000 : Int64)) ∧ (¬ ((-70000000 : Int64) ≤ y_38)) ∧ j578_s0 = (-70000000 : Int64)) ∨ ((¬ (y_38 ≤ (70000000 : Int64))) ∧ j578_s0 = (70000000 : Int64))), ∀ (ls : Array Slot), lv_has ls 29 [(27, .long y_38), (26, .int j348_s0), (25, .int j328_s0), (23, .long j301_s0), (21, .long j248_s0), (19, .long y_21), (18, .int r_17), (17, .int j133_s0), (16, .int v_16), (15, .int v_15), (14, .int v_14), (13, .int v_13), (12, .int v_12), (11, .int v_11), (10, .int v_10), (9, .int v_9), (8, .int v_8), (7, .int v_7), (6, .int v_6), (5, .int v_5), (4, .int v_4), (3, .int v_3), (2, .int v_2), (1, .int v_1), (0, .ref (g 0))] → W p l e (headSpec wsL_minute ({ frames := 7, cells := 20, slots := 115, locals := 152 })).room s m (([.ref (g 0)] : List Value).toArray) below meth c H locs 20 115 Q (F0 m 578 ls [.long j578_s0]) := by
                                      intro j578_s0 ej578 ls hl
                                      rw [ey_38, ev_37, ev_8, ev_7, ev_5] at ej578
                                      refine lv_lstore (lv' := [(27, .long j578_s0), (26, .int j348_s0), (25, .int j328_s0), (23, .long j301_s0), (21, .long j248_s0), (19, .long y_21), (18, .int r_17), (17, .int j133_s0), (16, .int v_16), (15, .int v_15), (14, .int v_14), (13, .int v_13), (12, .int v_12), (11, .int v_11), (10, .int v_10), (9, .int v_9), (8, .int v_8), (7, .int v_7), (6, .int v_6), (5, .int v_5), (4, .int v_4), (3, .int v_3), (2, .int v_2), (1, .int v_1), (0, .ref (g 0))]) hx hb dL_minute_578 hl (by decide) rfl (fun ls hl => ?_)
                                      refine lv_aload_n hx hb dL_minute_580 rfl (lv_at hl 24 rfl) ?_
                                      refine lv_bipush (v := 8) hx hb dL_minute_581 (by decide) ?_
                                      refine z_Ri (va_runV (As := [.int (8 : Int32)]) (rest := []) ⟨hx, hb, hml, hown, hts⟩ (d_X9_compass l D cA g (8 : Int32) hR_17) (cwV 1 hts gL_minute_X9_compass rfl rfl rfl (by decide +kernel) ⟨Nat.le_of_ble_eq_true rfl, Nat.le_of_ble_eq_true rfl⟩) (zqVR (wr := []) (wc := zTr cA g t_17) hK hP hN (List.Perm.refl _) 0 rfl rfl) rfl rfl hl.1 rfl (lv_room (Nat.le_of_ble_eq_true rfl)) dL_minute_583 ⟨Nat.le_of_ble_eq_true rfl, Nat.le_of_ble_eq_true rfl⟩) ?_
                                      refine lv_topi (fun v_39 ev_39 => ?_)
                                      rw [fk_8] at ev_39
                                      refine lv_i2l hx hb dL_minute_586 rfl ?_
                                      refine lv_lload hx hb dL_minute_587 (lv_at hl 0 rfl) ?_
                                      refine W.lcmp hx hb dL_minute_589 ?_
                                      refine lv_if_ne (tgt := 657) hx hb dL_minute_590 (by decide) (fun kc_40 => ?_) (fun kc_40 => ?_)
                                      · skip
                                        have c_40 : ¬ ((v_39.toInt64) = j578_s0) := fun h => kc_40 ((lg_cmp_eq _ _).mpr h)
                                        -- bad leaf 5
                                        rw [ev_39] at c_40
                                        exact (c_40 (mi_5 hR hB ej578)).elim
                                      · skip
                                        have c_40 : (v_39.toInt64) = j578_s0 := (lg_cmp_eq _ _).mp kc_40
                                        refine lv_aload_n hx hb dL_minute_593 rfl (lv_at hl 24 rfl) ?_
                                        refine lv_iconst (v := 0) hx hb dL_minute_594 (by decide) ?_
                                        refine z_Ri (va_runV (As := [.int (0 : Int32)]) (rest := []) ⟨hx, hb, hml, hown, hts⟩ (d_X9_state l D cA g (0 : Int32) hR_17) (cwV 1 hts gL_minute_X9_state rfl rfl rfl (by decide +kernel) ⟨Nat.le_of_ble_eq_true rfl, Nat.le_of_ble_eq_true rfl⟩) (zqVR (wr := []) (wc := zTr cA g t_17) hK hP hN (List.Perm.refl _) 0 rfl rfl) rfl rfl hl.1 rfl (lv_room (Nat.le_of_ble_eq_true rfl)) dL_minute_595 ⟨Nat.le_of_ble_eq_true rfl, Nat.le_of_ble_eq_true rfl⟩) ?_
                                        refine lv_topi (fun v_41 ev_41 => ?_)
                                        rw [fs_0] at ev_41
                                        refine lv_iload hx hb dL_minute_598 (lv_at hl 18 rfl) ?_
                                        refine lv_iconst (v := 1) hx hb dL_minute_600 (by decide) ?_
                                        refine lv_iadd hx hb dL_minute_601 ?_
                                        refine lv_icmp_ne (tgt := 657) hx hb dL_minute_602 (by decide) (fun c_42 => ?_) (fun c_42 => ?_)
                                        · skip
                                          -- bad leaf 6
                                          rw [ev_41, ev_6] at c_42
                                          exact (c_42 (mi_6 hR hB)).elim
                                        · skip
                                          refine lv_aload_n hx hb dL_minute_605 rfl (lv_at hl 24 rfl) ?_
                                          refine lv_iconst (v := 5) hx hb dL_minute_606 (by decide) ?_
                                          refine z_Ri (va_runV (As := [.int (5 : Int32)]) (rest := []) ⟨hx, hb, hml, hown, hts⟩ (d_X9_state l D cA g (5 : Int32) hR_17) (cwV 1 hts gL_minute_X9_state rfl rfl rfl (by decide +kernel) ⟨Nat.le_of_ble_eq_true rfl, Nat.le_of_ble_eq_true rfl⟩) (zqVR (wr := []) (wc := zTr cA g t_17) hK hP hN (List.Perm.refl _) 0 rfl rfl) rfl rfl hl.1 rfl (lv_room (Nat.le_of_ble_eq_true rfl)) dL_minute_607 ⟨Nat.le_of_ble_eq_true rfl, Nat.le_of_ble_eq_true rfl⟩) ?_
                                          refine lv_topi (fun v_43 ev_43 => ?_)
                                          rw [fs_5] at ev_43
                                          refine lv_iload hx hb dL_minute_610 (lv_at hl 13 rfl) ?_
                                          refine lv_iload hx hb dL_minute_612 (lv_at hl 16 rfl) ?_
                                          refine lv_iadd hx hb dL_minute_614 ?_
                                          refine lv_icmp_ne (tgt := 657) hx hb dL_minute_615 (by decide) (fun c_44 => ?_) (fun c_44 => ?_)
                                          · skip
                                            -- bad leaf 7
                                            rw [ev_43, ev_11, ev_8] at c_44
                                            exact (c_44 (mi_7 hR hB)).elim
                                          · skip
                                            refine lv_aload_n hx hb dL_minute_618 rfl (lv_at hl 24 rfl) ?_
                                            refine lv_bipush (v := 8) hx hb dL_minute_619 (by decide) ?_
                                            refine lv_iload hx hb dL_minute_621 (lv_at hl 12 rfl) ?_
                                            refine lv_iadd hx hb dL_minute_623 ?_
                                            refine z_Ri (va_runV (As := [.int ((8 : Int32) + v_12)]) (rest := []) ⟨hx, hb, hml, hown, hts⟩ (d_X9_state l D cA g ((8 : Int32) + v_12) hR_17) (cwV 1 hts gL_minute_X9_state rfl rfl rfl (by decide +kernel) ⟨Nat.le_of_ble_eq_true rfl, Nat.le_of_ble_eq_true rfl⟩) (zqVR (wr := []) (wc := zTr cA g t_17) hK hP hN (List.Perm.refl _) 0 rfl rfl) rfl rfl hl.1 rfl (lv_room (Nat.le_of_ble_eq_true rfl)) dL_minute_624 ⟨Nat.le_of_ble_eq_true rfl, Nat.le_of_ble_eq_true rfl⟩) ?_
                                            refine lv_topi (fun v_45 ev_45 => ?_)
                                            refine lv_iload hx hb dL_minute_627 (lv_at hl 10 rfl) ?_
                                            refine lv_iconst (v := 1) hx hb dL_minute_629 (by decide) ?_
                                            refine lv_iadd hx hb dL_minute_630 ?_
                                            refine lv_icmp_ne (tgt := 657) hx hb dL_minute_631 (by decide) (fun c_46 => ?_) (fun c_46 => ?_)
                                            · skip
                                              -- bad leaf 8
                                              rw [ev_45, ev_14, ev_12] at c_46
                                              exact (c_46 (mi_8 hR hB)).elim
                                            · skip
                                              refine lv_aload_n hx hb dL_minute_634 rfl (lv_at hl 24 rfl) ?_
                                              refine lv_bipush (v := 7) hx hb dL_minute_635 (by decide) ?_
                                              refine z_Ri (va_runV (As := [.int (7 : Int32)]) (rest := []) ⟨hx, hb, hml, hown, hts⟩ (d_X9_state l D cA g (7 : Int32) hR_17) (cwV 1 hts gL_minute_X9_state rfl rfl rfl (by decide +kernel) ⟨Nat.le_of_ble_eq_true rfl, Nat.le_of_ble_eq_true rfl⟩) (zqVR (wr := []) (wc := zTr cA g t_17) hK hP hN (List.Perm.refl _) 0 rfl rfl) rfl rfl hl.1 rfl (lv_room (Nat.le_of_ble_eq_true rfl)) dL_minute_637 ⟨Nat.le_of_ble_eq_true rfl, Nat.le_of_ble_eq_true rfl⟩) ?_
                                              refine lv_topi (fun v_47 ev_47 => ?_)
                                              rw [fs_7] at ev_47
                                              refine lv_iload hx hb dL_minute_640 (lv_at hl 11 rfl) ?_
                                              have J654 : ∀ (j654_s1 : Int32) (ej654 : ((0 ≤ v_13) ∧ j654_s1 = (v_13 + (1 : Int32))) ∨ ((¬ (0 ≤ v_13)) ∧ j654_s1 = (-6 : Int32))), ∀ (ls : Array Slot), lv_has ls 29 [(27, .long j578_s0), (26, .int j348_s0), (25, .int j328_s0), (23, .long j301_s0), (21, .long j248_s0), (19, .long y_21), (18, .int r_17), (17, .int j133_s0), (16, .int v_16), (15, .int v_15), (14, .int v_14), (13, .int v_13), (12, .int v_12), (11, .int v_11), (10, .int v_10), (9, .int v_9), (8, .int v_8), (7, .int v_7), (6, .int v_6), (5, .int v_5), (4, .int v_4), (3, .int v_3), (2, .int v_2), (1, .int v_1), (0, .ref (g 0))] → W p l e (headSpec wsL_minute ({ frames := 7, cells := 20, slots := 115, locals := 152 })).room s m (([.ref (g 0)] : List Value).toArray) below meth c H locs 20 115 Q (F0 m 654 ls [.int j654_s1, .int v_47]) := by
                                                intro j654_s1 ej654 ls hl
                                                rw [ev_13] at ej654
                                                refine lv_icmp_eq (tgt := 659) hx hb dL_minute_654 (by decide) (fun c_48 => ?_) (fun c_48 => ?_)
                                                · skip
                                                  refine lv_iload hx hb dL_minute_659 (lv_at hl 15 rfl) ?_
                                                  refine lv_if_ne (tgt := 698) hx hb dL_minute_661 (by decide) (fun c_49 => ?_) (fun c_49 => ?_)
                                                  · skip
                                                    refine lv_iload hx hb dL_minute_698 (lv_at hl 14 rfl) ?_
                                                    refine lv_iconst (v := 1) hx hb dL_minute_700 (by decide) ?_
                                                    refine lv_icmp_le (tgt := 752) hx hb dL_minute_701 (by decide) (fun c_50 => ?_) (fun c_50 => ?_)
                                                    · skip
                                                      refine lv_aload_n hx hb dL_minute_752 rfl (lv_at hl 24 rfl) ?_
                                                      refine lv_iconst (v := 3) hx hb dL_minute_753 (by decide) ?_
                                                      refine z_Ri (va_runV (As := [.int (3 : Int32)]) (rest := []) ⟨hx, hb, hml, hown, hts⟩ (d_X9_state l D cA g (3 : Int32) hR_17) (cwV 1 hts gL_minute_X9_state rfl rfl rfl (by decide +kernel) ⟨Nat.le_of_ble_eq_true rfl, Nat.le_of_ble_eq_true rfl⟩) (zqVR (wr := []) (wc := zTr cA g t_17) hK hP hN (List.Perm.refl _) 0 rfl rfl) rfl rfl hl.1 rfl (lv_room (Nat.le_of_ble_eq_true rfl)) dL_minute_754 ⟨Nat.le_of_ble_eq_true rfl, Nat.le_of_ble_eq_true rfl⟩) ?_
                                                      refine lv_topi (fun v_51 ev_51 => ?_)
                                                      rw [fs_3] at ev_51
                                                      refine lv_iload hx hb dL_minute_757 (lv_at hl 15 rfl) ?_
                                                      refine lv_iconst (v := 1) hx hb dL_minute_759 (by decide) ?_
                                                      refine lv_isub hx hb dL_minute_760 ?_
                                                      refine lv_icmp_ne (tgt := 800) hx hb dL_minute_761 (by decide) (fun c_52 => ?_) (fun c_52 => ?_)
                                                      · skip
                                                        -- bad leaf 9
                                                        rw [ev_9] at c_49
                                                        rw [ev_10] at c_50
                                                        rw [ev_51, ev_9] at c_52
                                                        exact (c_52 (ml_2 hR hB c_49 c_50)).elim
                                                      · skip
                                                        refine lv_iload hx hb dL_minute_764 (lv_at hl 15 rfl) ?_
                                                        refine lv_iconst (v := 1) hx hb dL_minute_766 (by decide) ?_
                                                        refine lv_icmp_gt (tgt := 796) hx hb dL_minute_767 (by decide) (fun c_53 => ?_) (fun c_53 => ?_)
                                                        · skip
                                                          refine lv_iconst (v := 1) hx hb dL_minute_796 (by decide) ?_
                                                          refine lv_goto (tgt := 801) hx hb dL_minute_797 (by decide) ?_
                                                          have hP9 : va_P D vwCl (zTr cA g t_17) H := hP
                                                          have hD9 : va_D A (zTr cA g t_17) := hD
                                                          have hI9 : IV (n + 1) w_17 := mi_IV hR hB hT hI hn
                                                          subst hQ
                                                          refine W.widen (k := 20) (n := 115) (by omega) (by omega) ?_
                                                          exact W.zret (ty := .boolean) (v := 1) hx hb hr rfl (fun t ht hW => ⟨⟨1, t_17, rfl, ⟨rfl, w_17, hR_17, hI9⟩, ⟨by rw [ht]; exact hP9, va_K.moved hW.alike hK, hD9⟩⟩, hS.F ht⟩) hS.2.2 dL_minute_801
                                                        · skip
                                                          refine lv_aload_n hx hb dL_minute_770 rfl (lv_at hl 24 rfl) ?_
                                                          refine lv_iconst (v := 1) hx hb dL_minute_771 (by decide) ?_
                                                          refine z_Ri (va_runV (As := [.int (1 : Int32)]) (rest := []) ⟨hx, hb, hml, hown, hts⟩ (d_X9_state l D cA g (1 : Int32) hR_17) (cwV 1 hts gL_minute_X9_state rfl rfl rfl (by decide +kernel) ⟨Nat.le_of_ble_eq_true rfl, Nat.le_of_ble_eq_true rfl⟩) (zqVR (wr := []) (wc := zTr cA g t_17) hK hP hN (List.Perm.refl _) 0 rfl rfl) rfl rfl hl.1 rfl (lv_room (Nat.le_of_ble_eq_true rfl)) dL_minute_772 ⟨Nat.le_of_ble_eq_true rfl, Nat.le_of_ble_eq_true rfl⟩) ?_
                                                          refine lv_topi (fun v_54 ev_54 => ?_)
                                                          rw [fs_1] at ev_54
                                                          refine lv_iload hx hb dL_minute_775 (lv_at hl 17 rfl) ?_
                                                          refine lv_icmp_ne (tgt := 800) hx hb dL_minute_777 (by decide) (fun c_55 => ?_) (fun c_55 => ?_)
                                                          · skip
                                                            -- bad leaf 10
                                                            rw [ev_9] at c_49
                                                            rw [ev_10] at c_50
                                                            rw [ev_51, ev_9] at c_52
                                                            rw [ev_9] at c_53
                                                            rw [ev_54, ev_7] at c_55
                                                            exact (c_55 ((ml_3 hR hB c_49 c_50 c_53).2.1)).elim
                                                          · skip
                                                            refine lv_aload_n hx hb dL_minute_780 rfl (lv_at hl 24 rfl) ?_
                                                            refine lv_iconst (v := 2) hx hb dL_minute_781 (by decide) ?_
                                                            refine z_Ri (va_runV (As := [.int (2 : Int32)]) (rest := []) ⟨hx, hb, hml, hown, hts⟩ (d_X9_state l D cA g (2 : Int32) hR_17) (cwV 1 hts gL_minute_X9_state rfl rfl rfl (by decide +kernel) ⟨Nat.le_of_ble_eq_true rfl, Nat.le_of_ble_eq_true rfl⟩) (zqVR (wr := []) (wc := zTr cA g t_17) hK hP hN (List.Perm.refl _) 0 rfl rfl) rfl rfl hl.1 rfl (lv_room (Nat.le_of_ble_eq_true rfl)) dL_minute_782 ⟨Nat.le_of_ble_eq_true rfl, Nat.le_of_ble_eq_true rfl⟩) ?_
                                                            refine lv_topi (fun v_56 ev_56 => ?_)
                                                            rw [fs_2] at ev_56
                                                            refine lv_if_ne (tgt := 800) hx hb dL_minute_785 (by decide) (fun c_57 => ?_) (fun c_57 => ?_)
                                                            · skip
                                                              -- bad leaf 11
                                                              rw [ev_9] at c_49
                                                              rw [ev_10] at c_50
                                                              rw [ev_51, ev_9] at c_52
                                                              rw [ev_9] at c_53
                                                              rw [ev_54, ev_7] at c_55
                                                              rw [ev_56] at c_57
                                                              exact (c_57 ((ml_3 hR hB c_49 c_50 c_53).2.2)).elim
                                                            · skip
                                                              refine lv_aload_n hx hb dL_minute_788 rfl (lv_at hl 24 rfl) ?_
                                                              refine lv_iconst (v := 4) hx hb dL_minute_789 (by decide) ?_
                                                              refine z_Ri (va_runV (As := [.int (4 : Int32)]) (rest := []) ⟨hx, hb, hml, hown, hts⟩ (d_X9_state l D cA g (4 : Int32) hR_17) (cwV 1 hts gL_minute_X9_state rfl rfl rfl (by decide +kernel) ⟨Nat.le_of_ble_eq_true rfl, Nat.le_of_ble_eq_true rfl⟩) (zqVR (wr := []) (wc := zTr cA g t_17) hK hP hN (List.Perm.refl _) 0 rfl rfl) rfl rfl hl.1 rfl (lv_room (Nat.le_of_ble_eq_true rfl)) dL_minute_790 ⟨Nat.le_of_ble_eq_true rfl, Nat.le_of_ble_eq_true rfl⟩) ?_
                                                              refine lv_topi (fun v_58 ev_58 => ?_)
                                                              rw [fs_4] at ev_58
                                                              refine lv_if_ne (tgt := 800) hx hb dL_minute_793 (by decide) (fun c_59 => ?_) (fun c_59 => ?_)
                                                              · skip
                                                                -- bad leaf 12
                                                                rw [ev_9] at c_49
                                                                rw [ev_10] at c_50
                                                                rw [ev_51, ev_9] at c_52
                                                                rw [ev_9] at c_53
                                                                rw [ev_54, ev_7] at c_55
                                                                rw [ev_56] at c_57
                                                                rw [ev_58] at c_59
                                                                exact (c_59 (ml_4 (ml_3 hR hB c_49 c_50 c_53).1)).elim
                                                              · skip
                                                                refine lv_iconst (v := 1) hx hb dL_minute_796 (by decide) ?_
                                                                refine lv_goto (tgt := 801) hx hb dL_minute_797 (by decide) ?_
                                                                have hP9 : va_P D vwCl (zTr cA g t_17) H := hP
                                                                have hD9 : va_D A (zTr cA g t_17) := hD
                                                                have hI9 : IV (n + 1) w_17 := mi_IV hR hB hT hI hn
                                                                subst hQ
                                                                refine W.widen (k := 20) (n := 115) (by omega) (by omega) ?_
                                                                exact W.zret (ty := .boolean) (v := 1) hx hb hr rfl (fun t ht hW => ⟨⟨1, t_17, rfl, ⟨rfl, w_17, hR_17, hI9⟩, ⟨by rw [ht]; exact hP9, va_K.moved hW.alike hK, hD9⟩⟩, hS.F ht⟩) hS.2.2 dL_minute_801
                                                    · skip
                                                      refine lv_aload_n hx hb dL_minute_704 rfl (lv_at hl 24 rfl) ?_
                                                      refine lv_iconst (v := 3) hx hb dL_minute_705 (by decide) ?_
                                                      refine z_Ri (va_runV (As := [.int (3 : Int32)]) (rest := []) ⟨hx, hb, hml, hown, hts⟩ (d_X9_state l D cA g (3 : Int32) hR_17) (cwV 1 hts gL_minute_X9_state rfl rfl rfl (by decide +kernel) ⟨Nat.le_of_ble_eq_true rfl, Nat.le_of_ble_eq_true rfl⟩) (zqVR (wr := []) (wc := zTr cA g t_17) hK hP hN (List.Perm.refl _) 0 rfl rfl) rfl rfl hl.1 rfl (lv_room (Nat.le_of_ble_eq_true rfl)) dL_minute_706 ⟨Nat.le_of_ble_eq_true rfl, Nat.le_of_ble_eq_true rfl⟩) ?_
                                                      refine lv_topi (fun v_60 ev_60 => ?_)
                                                      rw [fs_3] at ev_60
                                                      refine lv_iload hx hb dL_minute_709 (lv_at hl 15 rfl) ?_
                                                      refine lv_icmp_ne (tgt := 750) hx hb dL_minute_711 (by decide) (fun c_61 => ?_) (fun c_61 => ?_)
                                                      · skip
                                                        -- bad leaf 13
                                                        rw [ev_9] at c_49
                                                        rw [ev_10] at c_50
                                                        rw [ev_60, ev_9] at c_61
                                                        exact (c_61 ((ml_1 hR hB c_49 c_50).1)).elim
                                                      · skip
                                                        refine lv_aload_n hx hb dL_minute_714 rfl (lv_at hl 24 rfl) ?_
                                                        refine lv_iconst (v := 4) hx hb dL_minute_715 (by decide) ?_
                                                        refine z_Ri (va_runV (As := [.int (4 : Int32)]) (rest := []) ⟨hx, hb, hml, hown, hts⟩ (d_X9_state l D cA g (4 : Int32) hR_17) (cwV 1 hts gL_minute_X9_state rfl rfl rfl (by decide +kernel) ⟨Nat.le_of_ble_eq_true rfl, Nat.le_of_ble_eq_true rfl⟩) (zqVR (wr := []) (wc := zTr cA g t_17) hK hP hN (List.Perm.refl _) 0 rfl rfl) rfl rfl hl.1 rfl (lv_room (Nat.le_of_ble_eq_true rfl)) dL_minute_716 ⟨Nat.le_of_ble_eq_true rfl, Nat.le_of_ble_eq_true rfl⟩) ?_
                                                        refine lv_topi (fun v_62 ev_62 => ?_)
                                                        rw [fs_4] at ev_62
                                                        refine lv_iload hx hb dL_minute_719 (lv_at hl 14 rfl) ?_
                                                        refine lv_iconst (v := 1) hx hb dL_minute_721 (by decide) ?_
                                                        refine lv_isub hx hb dL_minute_722 ?_
                                                        refine lv_icmp_ne (tgt := 750) hx hb dL_minute_723 (by decide) (fun c_63 => ?_) (fun c_63 => ?_)
                                                        · skip
                                                          -- bad leaf 14
                                                          rw [ev_9] at c_49
                                                          rw [ev_10] at c_50
                                                          rw [ev_60, ev_9] at c_61
                                                          rw [ev_62, ev_10] at c_63
                                                          exact (c_63 ((ml_1 hR hB c_49 c_50).2.1)).elim
                                                        · skip
                                                          refine lv_aload_n hx hb dL_minute_726 rfl (lv_at hl 24 rfl) ?_
                                                          refine lv_iconst (v := 1) hx hb dL_minute_727 (by decide) ?_
                                                          refine z_Ri (va_runV (As := [.int (1 : Int32)]) (rest := []) ⟨hx, hb, hml, hown, hts⟩ (d_X9_state l D cA g (1 : Int32) hR_17) (cwV 1 hts gL_minute_X9_state rfl rfl rfl (by decide +kernel) ⟨Nat.le_of_ble_eq_true rfl, Nat.le_of_ble_eq_true rfl⟩) (zqVR (wr := []) (wc := zTr cA g t_17) hK hP hN (List.Perm.refl _) 0 rfl rfl) rfl rfl hl.1 rfl (lv_room (Nat.le_of_ble_eq_true rfl)) dL_minute_728 ⟨Nat.le_of_ble_eq_true rfl, Nat.le_of_ble_eq_true rfl⟩) ?_
                                                          refine lv_topi (fun v_64 ev_64 => ?_)
                                                          rw [fs_1] at ev_64
                                                          refine lv_iload hx hb dL_minute_731 (lv_at hl 17 rfl) ?_
                                                          refine lv_icmp_ne (tgt := 750) hx hb dL_minute_733 (by decide) (fun c_65 => ?_) (fun c_65 => ?_)
                                                          · skip
                                                            -- bad leaf 15
                                                            rw [ev_9] at c_49
                                                            rw [ev_10] at c_50
                                                            rw [ev_60, ev_9] at c_61
                                                            rw [ev_62, ev_10] at c_63
                                                            rw [ev_64, ev_7] at c_65
                                                            exact (c_65 ((ml_1 hR hB c_49 c_50).2.2.1)).elim
                                                          · skip
                                                            refine lv_aload_n hx hb dL_minute_736 rfl (lv_at hl 24 rfl) ?_
                                                            refine lv_iconst (v := 2) hx hb dL_minute_737 (by decide) ?_
                                                            refine z_Ri (va_runV (As := [.int (2 : Int32)]) (rest := []) ⟨hx, hb, hml, hown, hts⟩ (d_X9_state l D cA g (2 : Int32) hR_17) (cwV 1 hts gL_minute_X9_state rfl rfl rfl (by decide +kernel) ⟨Nat.le_of_ble_eq_true rfl, Nat.le_of_ble_eq_true rfl⟩) (zqVR (wr := []) (wc := zTr cA g t_17) hK hP hN (List.Perm.refl _) 0 rfl rfl) rfl rfl hl.1 rfl (lv_room (Nat.le_of_ble_eq_true rfl)) dL_minute_738 ⟨Nat.le_of_ble_eq_true rfl, Nat.le_of_ble_eq_true rfl⟩) ?_
                                                            refine lv_topi (fun v_66 ev_66 => ?_)
                                                            rw [fs_2] at ev_66
                                                            refine lv_iload hx hb dL_minute_741 (lv_at hl 16 rfl) ?_
                                                            refine lv_icmp_ne (tgt := 750) hx hb dL_minute_743 (by decide) (fun c_67 => ?_) (fun c_67 => ?_)
                                                            · skip
                                                              -- bad leaf 16
                                                              rw [ev_9] at c_49
                                                              rw [ev_10] at c_50
                                                              rw [ev_60, ev_9] at c_61
                                                              rw [ev_62, ev_10] at c_63
                                                              rw [ev_64, ev_7] at c_65
                                                              rw [ev_66, ev_8] at c_67
                                                              exact (c_67 ((ml_1 hR hB c_49 c_50).2.2.2)).elim
                                                            · skip
                                                              refine lv_iconst (v := 1) hx hb dL_minute_746 (by decide) ?_
                                                              refine lv_goto (tgt := 751) hx hb dL_minute_747 (by decide) ?_
                                                              have hP9 : va_P D vwCl (zTr cA g t_17) H := hP
                                                              have hD9 : va_D A (zTr cA g t_17) := hD
                                                              have hI9 : IV (n + 1) w_17 := mi_IV hR hB hT hI hn
                                                              subst hQ
                                                              refine W.widen (k := 20) (n := 115) (by omega) (by omega) ?_
                                                              exact W.zret (ty := .boolean) (v := 1) hx hb hr rfl (fun t ht hW => ⟨⟨1, t_17, rfl, ⟨rfl, w_17, hR_17, hI9⟩, ⟨by rw [ht]; exact hP9, va_K.moved hW.alike hK, hD9⟩⟩, hS.F ht⟩) hS.2.2 dL_minute_751
                                                  · skip
                                                    refine lv_aload_n hx hb dL_minute_664 rfl (lv_at hl 24 rfl) ?_
                                                    refine lv_iconst (v := 1) hx hb dL_minute_665 (by decide) ?_
                                                    refine z_Ri (va_runV (As := [.int (1 : Int32)]) (rest := []) ⟨hx, hb, hml, hown, hts⟩ (d_X9_state l D cA g (1 : Int32) hR_17) (cwV 1 hts gL_minute_X9_state rfl rfl rfl (by decide +kernel) ⟨Nat.le_of_ble_eq_true rfl, Nat.le_of_ble_eq_true rfl⟩) (zqVR (wr := []) (wc := zTr cA g t_17) hK hP hN (List.Perm.refl _) 0 rfl rfl) rfl rfl hl.1 rfl (lv_room (Nat.le_of_ble_eq_true rfl)) dL_minute_666 ⟨Nat.le_of_ble_eq_true rfl, Nat.le_of_ble_eq_true rfl⟩) ?_
                                                    refine lv_topi (fun v_68 ev_68 => ?_)
                                                    rw [fs_1] at ev_68
                                                    refine lv_iload hx hb dL_minute_669 (lv_at hl 17 rfl) ?_
                                                    refine lv_icmp_ne (tgt := 696) hx hb dL_minute_671 (by decide) (fun c_69 => ?_) (fun c_69 => ?_)
                                                    · skip
                                                      -- bad leaf 17
                                                      rw [ev_9] at c_49
                                                      rw [ev_68, ev_7] at c_69
                                                      exact (c_69 ((ml_0 hR hB c_49).2.1)).elim
                                                    · skip
                                                      refine lv_aload_n hx hb dL_minute_674 rfl (lv_at hl 24 rfl) ?_
                                                      refine lv_iconst (v := 2) hx hb dL_minute_675 (by decide) ?_
                                                      refine z_Ri (va_runV (As := [.int (2 : Int32)]) (rest := []) ⟨hx, hb, hml, hown, hts⟩ (d_X9_state l D cA g (2 : Int32) hR_17) (cwV 1 hts gL_minute_X9_state rfl rfl rfl (by decide +kernel) ⟨Nat.le_of_ble_eq_true rfl, Nat.le_of_ble_eq_true rfl⟩) (zqVR (wr := []) (wc := zTr cA g t_17) hK hP hN (List.Perm.refl _) 0 rfl rfl) rfl rfl hl.1 rfl (lv_room (Nat.le_of_ble_eq_true rfl)) dL_minute_676 ⟨Nat.le_of_ble_eq_true rfl, Nat.le_of_ble_eq_true rfl⟩) ?_
                                                      refine lv_topi (fun v_70 ev_70 => ?_)
                                                      rw [fs_2] at ev_70
                                                      refine lv_iload hx hb dL_minute_679 (lv_at hl 16 rfl) ?_
                                                      refine lv_icmp_ne (tgt := 696) hx hb dL_minute_681 (by decide) (fun c_71 => ?_) (fun c_71 => ?_)
                                                      · skip
                                                        -- bad leaf 18
                                                        rw [ev_9] at c_49
                                                        rw [ev_68, ev_7] at c_69
                                                        rw [ev_70, ev_8] at c_71
                                                        exact (c_71 ((ml_0 hR hB c_49).2.2)).elim
                                                      · skip
                                                        refine lv_aload_n hx hb dL_minute_684 rfl (lv_at hl 24 rfl) ?_
                                                        refine lv_iconst (v := 3) hx hb dL_minute_685 (by decide) ?_
                                                        refine z_Ri (va_runV (As := [.int (3 : Int32)]) (rest := []) ⟨hx, hb, hml, hown, hts⟩ (d_X9_state l D cA g (3 : Int32) hR_17) (cwV 1 hts gL_minute_X9_state rfl rfl rfl (by decide +kernel) ⟨Nat.le_of_ble_eq_true rfl, Nat.le_of_ble_eq_true rfl⟩) (zqVR (wr := []) (wc := zTr cA g t_17) hK hP hN (List.Perm.refl _) 0 rfl rfl) rfl rfl hl.1 rfl (lv_room (Nat.le_of_ble_eq_true rfl)) dL_minute_686 ⟨Nat.le_of_ble_eq_true rfl, Nat.le_of_ble_eq_true rfl⟩) ?_
                                                        refine lv_topi (fun v_72 ev_72 => ?_)
                                                        rw [fs_3] at ev_72
                                                        refine lv_if_ne (tgt := 696) hx hb dL_minute_689 (by decide) (fun c_73 => ?_) (fun c_73 => ?_)
                                                        · skip
                                                          -- bad leaf 19
                                                          rw [ev_9] at c_49
                                                          rw [ev_68, ev_7] at c_69
                                                          rw [ev_70, ev_8] at c_71
                                                          rw [ev_72] at c_73
                                                          exact (c_73 ((ml_0 hR hB c_49).1)).elim
                                                        · skip
                                                          refine lv_iconst (v := 1) hx hb dL_minute_692 (by decide) ?_
                                                          refine lv_goto (tgt := 697) hx hb dL_minute_693 (by decide) ?_
                                                          have hP9 : va_P D vwCl (zTr cA g t_17) H := hP
                                                          have hD9 : va_D A (zTr cA g t_17) := hD
                                                          have hI9 : IV (n + 1) w_17 := mi_IV hR hB hT hI hn
                                                          subst hQ
                                                          refine W.widen (k := 20) (n := 115) (by omega) (by omega) ?_
                                                          exact W.zret (ty := .boolean) (v := 1) hx hb hr rfl (fun t ht hW => ⟨⟨1, t_17, rfl, ⟨rfl, w_17, hR_17, hI9⟩, ⟨by rw [ht]; exact hP9, va_K.moved hW.alike hK, hD9⟩⟩, hS.F ht⟩) hS.2.2 dL_minute_697
                                                · skip
                                                  -- bad leaf 20
                                                  rw [ev_47] at c_48
                                                  exact (c_48 (mi_20 hR hB hI hn ej654)).elim
                                              refine lv_if_ge (tgt := 650) hx hb dL_minute_642 (by decide) (fun c_74 => ?_) (fun c_74 => ?_)
                                              · skip
                                                refine lv_iload hx hb dL_minute_650 (lv_at hl 11 rfl) ?_
                                                refine lv_iconst (v := 1) hx hb dL_minute_652 (by decide) ?_
                                                refine lv_iadd hx hb dL_minute_653 ?_
                                                exact J654 _ (Or.inl ⟨c_74, rfl⟩) ls (lv_sub hl [0, 1, 2, 3, 4, 5, 6, 7, 8, 9, 10, 11, 12, 13, 14, 15, 16, 17, 18, 19, 20, 21, 22, 23, 24] rfl)
                                              · skip
                                                refine lv_bipush (v := -6) hx hb dL_minute_645 (by decide) ?_
                                                refine lv_goto (tgt := 654) hx hb dL_minute_647 (by decide) ?_
                                                exact J654 _ (Or.inr ⟨c_74, rfl⟩) ls (lv_sub hl [0, 1, 2, 3, 4, 5, 6, 7, 8, 9, 10, 11, 12, 13, 14, 15, 16, 17, 18, 19, 20, 21, 22, 23, 24] rfl)
                                    refine lv_if_le (tgt := 561) hx hb dL_minute_552 (by decide) (fun kc_75 => ?_) (fun kc_75 => ?_)
                                    · skip
                                      have c_75 : y_38 ≤ (70000000 : Int64) := (lg_cmp_le _ _).mp kc_75
                                      refine lv_lload hx hb dL_minute_561 (lv_at hl 0 rfl) ?_
                                      refine lv_ldc2 hx hb hown (hts (.constantLong RL 126 (-70000000)) (List.mem_of_getElem? (i := 9) rfl)) dL_minute_563 ?_
                                      refine W.lcmp hx hb dL_minute_566 ?_
                                      refine lv_if_ge (tgt := 576) hx hb dL_minute_567 (by decide) (fun kc_76 => ?_) (fun kc_76 => ?_)
                                      · skip
                                        have c_76 : (-70000000 : Int64) ≤ y_38 := (lg_cmp_ge _ _).mp kc_76
                                        refine lv_lload hx hb dL_minute_576 (lv_at hl 0 rfl) ?_
                                        exact J578 _ (Or.inl ⟨c_75, c_76, rfl⟩) ls (lv_sub hl [0, 1, 2, 3, 4, 5, 6, 7, 8, 9, 10, 11, 12, 13, 14, 15, 16, 17, 18, 19, 20, 21, 22, 23, 24] rfl)
                                      · skip
                                        have c_76 : ¬ ((-70000000 : Int64) ≤ y_38) := fun h => kc_76 ((lg_cmp_ge _ _).mpr h)
                                        refine lv_ldc2 hx hb hown (hts (.constantLong RL 126 (-70000000)) (List.mem_of_getElem? (i := 9) rfl)) dL_minute_570 ?_
                                        refine lv_goto (tgt := 578) hx hb dL_minute_573 (by decide) ?_
                                        exact J578 _ (Or.inr (Or.inl ⟨c_75, c_76, rfl⟩)) ls (lv_sub hl [0, 1, 2, 3, 4, 5, 6, 7, 8, 9, 10, 11, 12, 13, 14, 15, 16, 17, 18, 19, 20, 21, 22, 23, 24] rfl)
                                    · skip
                                      have c_75 : ¬ (y_38 ≤ (70000000 : Int64)) := fun h => kc_75 ((lg_cmp_le _ _).mpr h)
                                      refine lv_ldc2 hx hb hown (hts (.constantLong RL 124 (70000000)) (List.mem_of_getElem? (i := 8) rfl)) dL_minute_555 ?_
                                      refine lv_goto (tgt := 578) hx hb dL_minute_558 (by decide) ?_
                                      exact J578 _ (Or.inr (Or.inr ⟨c_75, rfl⟩)) ls (lv_sub hl [0, 1, 2, 3, 4, 5, 6, 7, 8, 9, 10, 11, 12, 13, 14, 15, 16, 17, 18, 19, 20, 21, 22, 23, 24] rfl)
                                  refine lv_if_ne (tgt := 520) hx hb dL_minute_499 (by decide) (fun c_77 => ?_) (fun c_77 => ?_)
                                  · skip
                                    exact J520  (Or.inl c_77) ls (lv_sub hl [0, 1, 2, 3, 4, 5, 6, 7, 8, 9, 10, 11, 12, 13, 14, 15, 16, 17, 18, 19, 20, 21, 22, 23] rfl)
                                  · skip
                                    refine lv_iload hx hb dL_minute_502 (lv_at hl 8 rfl) ?_
                                    refine lv_if_le (tgt := 520) hx hb dL_minute_504 (by decide) (fun c_78 => ?_) (fun c_78 => ?_)
                                    · skip
                                      exact J520  (Or.inr (Or.inl ⟨c_77, c_78⟩)) ls (lv_sub hl [0, 1, 2, 3, 4, 5, 6, 7, 8, 9, 10, 11, 12, 13, 14, 15, 16, 17, 18, 19, 20, 21, 22, 23] rfl)
                                    · skip
                                      refine lv_aload_n hx hb dL_minute_507 rfl (lv_at hl 23 rfl) ?_
                                      refine lv_iconst (v := 0) hx hb dL_minute_508 (by decide) ?_
                                      refine lv_iconst (v := 0) hx hb dL_minute_509 (by decide) ?_
                                      refine z_Ri (va_runV (As := [.int (0 : Int32), .int (0 : Int32)]) (rest := []) ⟨hx, hb, hml, hown, hts⟩ (d_X9_turn l D cA g (0 : Int32) (0 : Int32) hR_17) (cwV 2 hts gL_minute_X9_turn rfl rfl rfl (by decide +kernel) ⟨Nat.le_of_ble_eq_true rfl, Nat.le_of_ble_eq_true rfl⟩) (zqVR (wr := []) (wc := zTr cA g t_17) hK hP hN (List.Perm.refl _) 0 rfl rfl) rfl rfl hl.1 rfl (lv_room (Nat.le_of_ble_eq_true rfl)) dL_minute_510 ⟨Nat.le_of_ble_eq_true rfl, Nat.le_of_ble_eq_true rfl⟩) ?_
                                      refine lv_topi (fun v_79 ev_79 => ?_)
                                      refine lv_iload hx hb dL_minute_513 (lv_at hl 6 rfl) ?_
                                      refine lv_icmp_eq (tgt := 520) hx hb dL_minute_515 (by decide) (fun c_80 => ?_) (fun c_80 => ?_)
                                      · skip
                                        subst ev_79
                                        exact J520  (Or.inr (Or.inr ⟨c_77, c_78, c_80⟩)) ls (lv_sub hl [0, 1, 2, 3, 4, 5, 6, 7, 8, 9, 10, 11, 12, 13, 14, 15, 16, 17, 18, 19, 20, 21, 22, 23] rfl)
                                      · skip
                                        -- bad leaf 21
                                        rw [ev_15] at c_78
                                        rw [ev_79] at c_80
                                        exact (c_80 (mi_21 hR hT ej133 c_77 c_78)).elim
                                refine lv_if_eq (tgt := 497) hx hb dL_minute_457 (by decide) (fun c_81 => ?_) (fun c_81 => ?_)
                                · skip
                                  exact J497  (Or.inl c_81) ls (lv_sub hl [0, 1, 2, 3, 4, 5, 6, 7, 8, 9, 10, 11, 12, 13, 14, 15, 16, 17, 18, 19, 20, 21, 22, 23] rfl)
                                · skip
                                  refine lv_aload_n hx hb dL_minute_460 rfl (lv_at hl 23 rfl) ?_
                                  refine lv_iconst (v := 0) hx hb dL_minute_461 (by decide) ?_
                                  refine lv_iconst (v := 0) hx hb dL_minute_462 (by decide) ?_
                                  refine z_Ri (va_runV (As := [.int (0 : Int32), .int (0 : Int32)]) (rest := []) ⟨hx, hb, hml, hown, hts⟩ (d_X9_turn l D cA g (0 : Int32) (0 : Int32) hR_17) (cwV 2 hts gL_minute_X9_turn rfl rfl rfl (by decide +kernel) ⟨Nat.le_of_ble_eq_true rfl, Nat.le_of_ble_eq_true rfl⟩) (zqVR (wr := []) (wc := zTr cA g t_17) hK hP hN (List.Perm.refl _) 0 rfl rfl) rfl rfl hl.1 rfl (lv_room (Nat.le_of_ble_eq_true rfl)) dL_minute_463 ⟨Nat.le_of_ble_eq_true rfl, Nat.le_of_ble_eq_true rfl⟩) ?_
                                  refine lv_topi (fun v_82 ev_82 => ?_)
                                  refine lv_iload_n hx hb dL_minute_466 rfl (lv_at hl 22 rfl) ?_
                                  refine lv_icmp_ne (tgt := 518) hx hb dL_minute_467 (by decide) (fun c_83 => ?_) (fun c_83 => ?_)
                                  · skip
                                    -- bad leaf 22
                                    rw [ev_82, ev_1] at c_83
                                    exact (c_83 (mi_22 hR hT c_81)).elim
                                  · skip
                                    refine lv_aload_n hx hb dL_minute_470 rfl (lv_at hl 23 rfl) ?_
                                    refine lv_iconst (v := 0) hx hb dL_minute_471 (by decide) ?_
                                    refine lv_iconst (v := 1) hx hb dL_minute_472 (by decide) ?_
                                    refine z_Ri (va_runV (As := [.int (0 : Int32), .int (1 : Int32)]) (rest := []) ⟨hx, hb, hml, hown, hts⟩ (d_X9_turn l D cA g (0 : Int32) (1 : Int32) hR_17) (cwV 2 hts gL_minute_X9_turn rfl rfl rfl (by decide +kernel) ⟨Nat.le_of_ble_eq_true rfl, Nat.le_of_ble_eq_true rfl⟩) (zqVR (wr := []) (wc := zTr cA g t_17) hK hP hN (List.Perm.refl _) 0 rfl rfl) rfl rfl hl.1 rfl (lv_room (Nat.le_of_ble_eq_true rfl)) dL_minute_473 ⟨Nat.le_of_ble_eq_true rfl, Nat.le_of_ble_eq_true rfl⟩) ?_
                                    refine lv_topi (fun v_84 ev_84 => ?_)
                                    refine lv_iload hx hb dL_minute_476 (lv_at hl 17 rfl) ?_
                                    refine lv_icmp_ne (tgt := 518) hx hb dL_minute_478 (by decide) (fun c_85 => ?_) (fun c_85 => ?_)
                                    · skip
                                      -- bad leaf 23
                                      rw [ev_82, ev_1] at c_83
                                      rw [ev_84, ev_6] at c_85
                                      exact (c_85 (mi_23 hR hT c_81)).elim
                                    · skip
                                      refine lv_iload hx hb dL_minute_481 (lv_at hl 8 rfl) ?_
                                      refine lv_if_le (tgt := 497) hx hb dL_minute_483 (by decide) (fun c_86 => ?_) (fun c_86 => ?_)
                                      · skip
                                        subst ev_84
                                        subst ev_82
                                        exact J497  (Or.inr (Or.inl ⟨c_81, c_83, c_85, c_86⟩)) ls (lv_sub hl [0, 1, 2, 3, 4, 5, 6, 7, 8, 9, 10, 11, 12, 13, 14, 15, 16, 17, 18, 19, 20, 21, 22, 23] rfl)
                                      · skip
                                        refine lv_aload_n hx hb dL_minute_486 rfl (lv_at hl 23 rfl) ?_
                                        refine lv_iconst (v := 1) hx hb dL_minute_487 (by decide) ?_
                                        refine lv_iconst (v := 0) hx hb dL_minute_488 (by decide) ?_
                                        refine z_Ri (va_runV (As := [.int (1 : Int32), .int (0 : Int32)]) (rest := []) ⟨hx, hb, hml, hown, hts⟩ (d_X9_turn l D cA g (1 : Int32) (0 : Int32) hR_17) (cwV 2 hts gL_minute_X9_turn rfl rfl rfl (by decide +kernel) ⟨Nat.le_of_ble_eq_true rfl, Nat.le_of_ble_eq_true rfl⟩) (zqVR (wr := []) (wc := zTr cA g t_17) hK hP hN (List.Perm.refl _) 0 rfl rfl) rfl rfl hl.1 rfl (lv_room (Nat.le_of_ble_eq_true rfl)) dL_minute_489 ⟨Nat.le_of_ble_eq_true rfl, Nat.le_of_ble_eq_true rfl⟩) ?_
                                        refine lv_topi (fun v_87 ev_87 => ?_)
                                        refine lv_iload hx hb dL_minute_492 (lv_at hl 6 rfl) ?_
                                        refine lv_icmp_ne (tgt := 518) hx hb dL_minute_494 (by decide) (fun c_88 => ?_) (fun c_88 => ?_)
                                        · skip
                                          -- bad leaf 24
                                          rw [ev_82, ev_1] at c_83
                                          rw [ev_84, ev_6] at c_85
                                          rw [ev_15] at c_86
                                          rw [ev_87] at c_88
                                          exact (c_88 (mi_24 hR hT ej133 c_81 c_86)).elim
                                        · skip
                                          subst ev_87
                                          subst ev_84
                                          subst ev_82
                                          exact J497  (Or.inr (Or.inr ⟨c_81, c_83, c_85, c_86, c_88⟩)) ls (lv_sub hl [0, 1, 2, 3, 4, 5, 6, 7, 8, 9, 10, 11, 12, 13, 14, 15, 16, 17, 18, 19, 20, 21, 22, 23] rfl)
                              · skip
                                -- bad leaf 25
                                rw [ev_35] at c_36
                                exact (c_36 (mi_25 hR hT ej450)).elim
                            refine lv_if_eq (tgt := 448) hx hb dL_minute_431 (by decide) (fun c_89 => ?_) (fun c_89 => ?_)
                            · skip
                              refine lv_iload hx hb dL_minute_448 (lv_at hl 8 rfl) ?_
                              exact J450 _ (Or.inl ⟨c_89, rfl⟩) ls (lv_sub hl [0, 1, 2, 3, 4, 5, 6, 7, 8, 9, 10, 11, 12, 13, 14, 15, 16, 17, 18, 19, 20, 21, 22, 23] rfl)
                            · skip
                              refine lv_iload hx hb dL_minute_434 (lv_at hl 8 rfl) ?_
                              refine lv_bipush (v := 8) hx hb dL_minute_436 (by decide) ?_
                              refine lv_icmp_ge (tgt := 448) hx hb dL_minute_438 (by decide) (fun c_90 => ?_) (fun c_90 => ?_)
                              · skip
                                refine lv_iload hx hb dL_minute_448 (lv_at hl 8 rfl) ?_
                                exact J450 _ (Or.inr (Or.inl ⟨c_89, c_90, rfl⟩)) ls (lv_sub hl [0, 1, 2, 3, 4, 5, 6, 7, 8, 9, 10, 11, 12, 13, 14, 15, 16, 17, 18, 19, 20, 21, 22, 23] rfl)
                              · skip
                                refine lv_iload hx hb dL_minute_441 (lv_at hl 8 rfl) ?_
                                refine lv_iconst (v := 1) hx hb dL_minute_443 (by decide) ?_
                                refine lv_iadd hx hb dL_minute_444 ?_
                                refine lv_goto (tgt := 450) hx hb dL_minute_445 (by decide) ?_
                                exact J450 _ (Or.inr (Or.inr ⟨c_89, c_90, rfl⟩)) ls (lv_sub hl [0, 1, 2, 3, 4, 5, 6, 7, 8, 9, 10, 11, 12, 13, 14, 15, 16, 17, 18, 19, 20, 21, 22, 23] rfl)
                      refine lv_if_eq (tgt := 405) hx hb dL_minute_398 (by decide) (fun c_91 => ?_) (fun c_91 => ?_)
                      · skip
                        refine lv_iconst (v := 0) hx hb dL_minute_405 (by decide) ?_
                        exact J406 _ (Or.inl ⟨c_91, rfl⟩) ls (lv_sub hl [0, 1, 2, 3, 4, 5, 6, 7, 8, 9, 10, 11, 12, 13, 14, 15, 16, 17, 18, 19, 20, 21, 22, 23] rfl)
                      · skip
                        refine lv_iconst (v := 1) hx hb dL_minute_401 (by decide) ?_
                        refine lv_goto (tgt := 406) hx hb dL_minute_402 (by decide) ?_
                        exact J406 _ (Or.inr ⟨c_91, rfl⟩) ls (lv_sub hl [0, 1, 2, 3, 4, 5, 6, 7, 8, 9, 10, 11, 12, 13, 14, 15, 16, 17, 18, 19, 20, 21, 22, 23] rfl)
                  refine lv_if_ne (tgt := 389) hx hb dL_minute_381 (by decide) (fun c_92 => ?_) (fun c_92 => ?_)
                  · skip
                    refine lv_iload hx hb dL_minute_389 (lv_at hl 1 rfl) ?_
                    exact J391 _ (Or.inl ⟨c_92, rfl⟩) ls (lv_sub hl [0, 1, 2, 3, 4, 5, 6, 7, 8, 9, 10, 11, 12, 13, 14, 15, 16, 17, 18, 19, 20, 21, 22, 23] rfl)
                  · skip
                    refine lv_iload hx hb dL_minute_384 (lv_at hl 19 rfl) ?_
                    refine lv_goto (tgt := 391) hx hb dL_minute_386 (by decide) ?_
                    exact J391 _ (Or.inr ⟨c_92, rfl⟩) ls (lv_sub hl [0, 1, 2, 3, 4, 5, 6, 7, 8, 9, 10, 11, 12, 13, 14, 15, 16, 17, 18, 19, 20, 21, 22, 23] rfl)
            refine lv_if_eq (tgt := 347) hx hb dL_minute_332 (by decide) (fun c_93 => ?_) (fun c_93 => ?_)
            · skip
              refine lv_iconst (v := 0) hx hb dL_minute_347 (by decide) ?_
              exact J348 _ (Or.inl ⟨c_93, rfl⟩) ls (lv_sub hl [0, 1, 2, 3, 4, 5, 6, 7, 8, 9, 10, 11, 12, 13, 14, 15, 16, 17, 18, 19, 20, 21, 22] rfl)
            · skip
              refine lv_iload hx hb dL_minute_335 (lv_at hl 18 rfl) ?_
              refine lv_iload hx hb dL_minute_337 (lv_at hl 0 rfl) ?_
              refine lv_ineg hx hb dL_minute_339 ?_
              refine lv_icmp_ne (tgt := 347) hx hb dL_minute_340 (by decide) (fun c_94 => ?_) (fun c_94 => ?_)
              · skip
                refine lv_iconst (v := 0) hx hb dL_minute_347 (by decide) ?_
                exact J348 _ (Or.inr (Or.inl ⟨c_93, c_94, rfl⟩)) ls (lv_sub hl [0, 1, 2, 3, 4, 5, 6, 7, 8, 9, 10, 11, 12, 13, 14, 15, 16, 17, 18, 19, 20, 21, 22] rfl)
              · skip
                refine lv_iconst (v := 1) hx hb dL_minute_343 (by decide) ?_
                refine lv_goto (tgt := 348) hx hb dL_minute_344 (by decide) ?_
                exact J348 _ (Or.inr (Or.inr ⟨c_93, c_94, rfl⟩)) ls (lv_sub hl [0, 1, 2, 3, 4, 5, 6, 7, 8, 9, 10, 11, 12, 13, 14, 15, 16, 17, 18, 19, 20, 21, 22] rfl)
          refine lv_if_le (tgt := 315) hx hb dL_minute_308 (by decide) (fun kc_95 => ?_) (fun kc_95 => ?_)
          · skip
            have c_95 : j301_s0 ≤ (v_1.toInt64) := (lg_cmp_le _ _).mp kc_95
            refine lv_lload hx hb dL_minute_315 (lv_at hl 0 rfl) ?_
            refine lv_iload_n hx hb dL_minute_317 rfl (lv_at hl 20 rfl) ?_
            refine lv_i2l hx hb dL_minute_318 rfl ?_
            refine W.lcmp hx hb dL_minute_319 ?_
            refine lv_if_ge (tgt := 327) hx hb dL_minute_320 (by decide) (fun kc_96 => ?_) (fun kc_96 => ?_)
            · skip
              have c_96 : (v_1.toInt64) ≤ j301_s0 := (lg_cmp_ge _ _).mp kc_96
              refine lv_iconst (v := 0) hx hb dL_minute_327 (by decide) ?_
              exact J328 _ (Or.inl ⟨c_95, c_96, rfl⟩) ls (lv_sub hl [0, 1, 2, 3, 4, 5, 6, 7, 8, 9, 10, 11, 12, 13, 14, 15, 16, 17, 18, 19, 20, 21] rfl)
            · skip
              have c_96 : ¬ ((v_1.toInt64) ≤ j301_s0) := fun h => kc_96 ((lg_cmp_ge _ _).mpr h)
              refine lv_iconst (v := -1) hx hb dL_minute_323 (by decide) ?_
              refine lv_goto (tgt := 328) hx hb dL_minute_324 (by decide) ?_
              exact J328 _ (Or.inr (Or.inl ⟨c_95, c_96, rfl⟩)) ls (lv_sub hl [0, 1, 2, 3, 4, 5, 6, 7, 8, 9, 10, 11, 12, 13, 14, 15, 16, 17, 18, 19, 20, 21] rfl)
          · skip
            have c_95 : ¬ (j301_s0 ≤ (v_1.toInt64)) := fun h => kc_95 ((lg_cmp_le _ _).mpr h)
            refine lv_iconst (v := 1) hx hb dL_minute_311 (by decide) ?_
            refine lv_goto (tgt := 328) hx hb dL_minute_312 (by decide) ?_
            exact J328 _ (Or.inr (Or.inr ⟨c_95, rfl⟩)) ls (lv_sub hl [0, 1, 2, 3, 4, 5, 6, 7, 8, 9, 10, 11, 12, 13, 14, 15, 16, 17, 18, 19, 20, 21] rfl)
        refine lv_if_le (tgt := 284) hx hb dL_minute_275 (by decide) (fun kc_97 => ?_) (fun kc_97 => ?_)
        · skip
          have c_97 : y_25 ≤ (1800000 : Int64) := (lg_cmp_le _ _).mp kc_97
          refine lv_lload hx hb dL_minute_284 (lv_at hl 0 rfl) ?_
          refine lv_ldc2 hx hb hown (hts (.constantLong RL 120 (-1800000)) (List.mem_of_getElem? (i := 6) rfl)) dL_minute_286 ?_
          refine W.lcmp hx hb dL_minute_289 ?_
          refine lv_if_ge (tgt := 299) hx hb dL_minute_290 (by decide) (fun kc_98 => ?_) (fun kc_98 => ?_)
          · skip
            have c_98 : (-1800000 : Int64) ≤ y_25 := (lg_cmp_ge _ _).mp kc_98
            refine lv_lload hx hb dL_minute_299 (lv_at hl 0 rfl) ?_
            exact J301 _ (Or.inl ⟨c_97, c_98, rfl⟩) ls (lv_sub hl [0, 1, 2, 3, 4, 5, 6, 7, 8, 9, 10, 11, 12, 13, 14, 15, 16, 17, 18, 19, 20, 21] rfl)
          · skip
            have c_98 : ¬ ((-1800000 : Int64) ≤ y_25) := fun h => kc_98 ((lg_cmp_ge _ _).mpr h)
            refine lv_ldc2 hx hb hown (hts (.constantLong RL 120 (-1800000)) (List.mem_of_getElem? (i := 6) rfl)) dL_minute_293 ?_
            refine lv_goto (tgt := 301) hx hb dL_minute_296 (by decide) ?_
            exact J301 _ (Or.inr (Or.inl ⟨c_97, c_98, rfl⟩)) ls (lv_sub hl [0, 1, 2, 3, 4, 5, 6, 7, 8, 9, 10, 11, 12, 13, 14, 15, 16, 17, 18, 19, 20, 21] rfl)
        · skip
          have c_97 : ¬ (y_25 ≤ (1800000 : Int64)) := fun h => kc_97 ((lg_cmp_le _ _).mpr h)
          refine lv_ldc2 hx hb hown (hts (.constantLong RL 118 (1800000)) (List.mem_of_getElem? (i := 5) rfl)) dL_minute_278 ?_
          refine lv_goto (tgt := 301) hx hb dL_minute_281 (by decide) ?_
          exact J301 _ (Or.inr (Or.inr ⟨c_97, rfl⟩)) ls (lv_sub hl [0, 1, 2, 3, 4, 5, 6, 7, 8, 9, 10, 11, 12, 13, 14, 15, 16, 17, 18, 19, 20, 21] rfl)
      refine lv_if_le (tgt := 231) hx hb dL_minute_222 (by decide) (fun kc_99 => ?_) (fun kc_99 => ?_)
      · skip
        have c_99 : y_23 ≤ (900000 : Int64) := (lg_cmp_le _ _).mp kc_99
        refine lv_lload hx hb dL_minute_231 (lv_at hl 0 rfl) ?_
        refine lv_ldc2 hx hb hown (hts (.constantLong RL 116 (-900000)) (List.mem_of_getElem? (i := 4) rfl)) dL_minute_233 ?_
        refine W.lcmp hx hb dL_minute_236 ?_
        refine lv_if_ge (tgt := 246) hx hb dL_minute_237 (by decide) (fun kc_100 => ?_) (fun kc_100 => ?_)
        · skip
          have c_100 : (-900000 : Int64) ≤ y_23 := (lg_cmp_ge _ _).mp kc_100
          refine lv_lload hx hb dL_minute_246 (lv_at hl 0 rfl) ?_
          exact J248 _ (Or.inl ⟨c_99, c_100, rfl⟩) ls (lv_sub hl [0, 1, 2, 3, 4, 5, 6, 7, 8, 9, 10, 11, 12, 13, 14, 15, 16, 17, 18, 19, 20] rfl)
        · skip
          have c_100 : ¬ ((-900000 : Int64) ≤ y_23) := fun h => kc_100 ((lg_cmp_ge _ _).mpr h)
          refine lv_ldc2 hx hb hown (hts (.constantLong RL 116 (-900000)) (List.mem_of_getElem? (i := 4) rfl)) dL_minute_240 ?_
          refine lv_goto (tgt := 248) hx hb dL_minute_243 (by decide) ?_
          exact J248 _ (Or.inr (Or.inl ⟨c_99, c_100, rfl⟩)) ls (lv_sub hl [0, 1, 2, 3, 4, 5, 6, 7, 8, 9, 10, 11, 12, 13, 14, 15, 16, 17, 18, 19, 20] rfl)
      · skip
        have c_99 : ¬ (y_23 ≤ (900000 : Int64)) := fun h => kc_99 ((lg_cmp_le _ _).mpr h)
        refine lv_ldc2 hx hb hown (hts (.constantLong RL 114 (900000)) (List.mem_of_getElem? (i := 3) rfl)) dL_minute_225 ?_
        refine lv_goto (tgt := 248) hx hb dL_minute_228 (by decide) ?_
        exact J248 _ (Or.inr (Or.inr ⟨c_99, rfl⟩)) ls (lv_sub hl [0, 1, 2, 3, 4, 5, 6, 7, 8, 9, 10, 11, 12, 13, 14, 15, 16, 17, 18, 19, 20] rfl)
    refine lv_if_ne (tgt := 200) hx hb dL_minute_193 (by decide) (fun c_101 => ?_) (fun c_101 => ?_)
    · skip
      refine lv_bipush (v := 10) hx hb dL_minute_200 (by decide) ?_
      refine lv_iload hx hb dL_minute_202 (lv_at hl 8 rfl) ?_
      refine lv_iconst (v := 1) hx hb dL_minute_204 (by decide) ?_
      refine lv_isub hx hb dL_minute_205 ?_
      refine lv_ishl hx hb dL_minute_206 ?_
      exact J207 _ (Or.inl ⟨c_101, rfl⟩) ls (lv_sub hl [0, 1, 2, 3, 4, 5, 6, 7, 8, 9, 10, 11, 12, 13, 14, 15, 16, 17, 18, 19, 20] rfl)
    · skip
      refine lv_iconst (v := 0) hx hb dL_minute_196 (by decide) ?_
      refine lv_goto (tgt := 207) hx hb dL_minute_197 (by decide) ?_
      exact J207 _ (Or.inr ⟨c_101, rfl⟩) ls (lv_sub hl [0, 1, 2, 3, 4, 5, 6, 7, 8, 9, 10, 11, 12, 13, 14, 15, 16, 17, 18, 19, 20] rfl)
  refine lv_if_le (tgt := 132) hx hb dL_minute_120 (by decide) (fun c_102 => ?_) (fun c_102 => ?_)
  · skip
    refine lv_iconst (v := 0) hx hb dL_minute_132 (by decide) ?_
    exact J133 _ (Or.inl ⟨c_102, rfl⟩) ls (lv_sub hl [0, 1, 2, 3, 4, 5, 6, 7, 8, 9, 10, 11, 12, 13, 14, 15, 16] rfl)
  · skip
    refine lv_aload_n hx hb dL_minute_123 rfl (lv_at hl 16 rfl) ?_
    refine lv_iconst (v := 0) hx hb dL_minute_124 (by decide) ?_
    refine lv_iconst (v := 0) hx hb dL_minute_125 (by decide) ?_
    refine z_Ri (va_runV (As := [.int (0 : Int32), .int (0 : Int32)]) (rest := []) ⟨hx, hb, hml, hown, hts⟩ (d_X9_turn l D cA g (0 : Int32) (0 : Int32) hR) (cwV 2 hts gL_minute_X9_turn rfl rfl rfl (by decide +kernel) ⟨Nat.le_of_ble_eq_true rfl, Nat.le_of_ble_eq_true rfl⟩) (zqVR (wr := []) (wc := zTr cA g t) hK hP hN (List.Perm.refl _) 0 rfl rfl) rfl rfl hl.1 rfl (lv_room (Nat.le_of_ble_eq_true rfl)) dL_minute_126 ⟨Nat.le_of_ble_eq_true rfl, Nat.le_of_ble_eq_true rfl⟩) ?_
    refine lv_topi (fun v_103 ev_103 => ?_)
    refine lv_goto (tgt := 133) hx hb dL_minute_129 (by decide) ?_
    subst ev_103
    exact J133 _ (Or.inr ⟨c_102, rfl⟩) ls (lv_sub hl [0, 1, 2, 3, 4, 5, 6, 7, 8, 9, 10, 11, 12, 13, 14, 15, 16] rfl)
