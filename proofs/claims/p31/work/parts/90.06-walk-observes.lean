set_option maxHeartbeats 4000000 in
set_option maxRecDepth 100000 in
theorem c_L_observes (l : Launch) (D : va_G) (cA : Nat → ClassId) (g : Nat → Nat) (sz : Nat) {t : vTv} {w : vX10} (x1 : Int32) (n : Nat) (hR : Rel t w) (hI : IV n w) (hx1 : zcR x1) (hn : n < 90000) : Met l yL_observes wsL_observes ({ frames := 7, cells := 40, slots := 230, locals := 152 }) (va_Pc [.ref (g 0), .int x1] (zPre D (zty cA) (zTr cA g t) sz)) (va_Qi (fun (x : Int32) (u : vTv) => x = 1 ∧ ∃ w9, Rel u w9 ∧ IV (n + 1) w9) (fun u => zPost D (zty cA) (va_A (zTr cA g t) sz) (zTr cA g u)) (va_A (zTr cA g t) sz)) 40 230 (va_A (zTr cA g t) sz) := by
  refine Met.ofW (cc := cL_observes) (maxL := 11) (ret := (some .boolean)) (by decide) rfl ?_
  intro p e s m args below meth c s₁ B hml hv
  obtain ⟨rfl, hsz, hP, hK, hD0, hE⟩ := hv
  have hx := B.exec
  have hb := B.bytes
  have hr := B.returns
  have hts := atoms_spec (ws := wsL_observes) B.pre
  have hown : s.vm.findClass RL = some m.cls := findClass_of_methodNamed B.named
  subst hsz
  have hD := hD0.self (sz := s.heap.size)
  generalize hAe : va_A (zTr cA g t) s.heap.size = A at hD hE ⊢
  have hA : ∀ q : Nat, s.heap.size ≤ q → A q := fun q h => by rw [← hAe]; exact Or.inr h
  have hS : va_S A s.heap s.heap [] := va_S.rf
  have hN : zN s := hE.1
  have hP : va_P D vwCl (zTr cA g t) s.heap := hP
  have hD : va_D A (zTr cA g t) := hD
  have hl := lv_entry ([.ref (g 0), .int x1]) (n := 11) (Nat.le_of_ble_eq_true rfl)
  rw [lg_entry_eq]
  generalize (lg_sl ([.ref (g 0), .int x1]) ++ List.replicate (11 - (lg_sl ([.ref (g 0), .int x1])).length) Slot.unset).toArray = ls at hl ⊢
  have hl : lv_has ls 11 [(0, .ref (g 0)), (1, .int x1)] := hl
  refine z_genQ (fun Q hQ => ?_)
  refine lv_aload_n hx hb dL_observes_0 rfl (lv_at hl 0 rfl) ?_
  refine lv_bipush (v := 19) hx hb dL_observes_1 (by decide) ?_
  refine z_Ri (va_runV (As := [.int (19 : Int32)]) (rest := []) ⟨hx, hb, hml, hown, hts⟩ (d_X9_state l D cA g (19 : Int32) hR) (cwV 1 hts gL_observes_X9_state rfl rfl rfl (by decide +kernel) ⟨Nat.le_of_ble_eq_true rfl, Nat.le_of_ble_eq_true rfl⟩) (zqVR (wr := []) (wc := zTr cA g t) hK hP hN (List.Perm.refl _) 0 rfl rfl) rfl rfl hl.1 rfl (lv_room (Nat.le_of_ble_eq_true rfl)) dL_observes_3 ⟨Nat.le_of_ble_eq_true rfl, Nat.le_of_ble_eq_true rfl⟩) ?_
  refine lv_topi (fun v_1 ev_1 => ?_)
  rw [fs_19] at ev_1
  refine lv_istore_n (lv' := [(2, .int v_1), (0, .ref (g 0)), (1, .int x1)]) hx hb dL_observes_6 rfl hl (by decide) rfl (fun ls hl => ?_)
  refine lv_aload_n hx hb dL_observes_7 rfl (lv_at hl 1 rfl) ?_
  refine lv_iload_n hx hb dL_observes_8 rfl (lv_at hl 2 rfl) ?_
  refine z_Hp (wr := []) (wt := fun u => zTr cA g u) (va_runV (As := [.int x1]) (rest := []) ⟨hx, hb, hml, hown, hts⟩ (d_X9_line l D cA g s.heap.size (x1) hR) (cwV 1 hts gL_observes_X9_line rfl rfl rfl (by decide +kernel) ⟨Nat.le_of_ble_eq_true rfl, Nat.le_of_ble_eq_true rfl⟩) (zqV (wr := []) (wc := zTr cA g t) hK hP hD hS hA hE (List.Perm.refl _) 0 rfl rfl) rfl rfl hl.1 rfl (lv_room (Nat.le_of_ble_eq_true rfl)) dL_observes_9 ⟨Nat.le_of_ble_eq_true rfl, Nat.le_of_ble_eq_true rfl⟩) hP hD hS hA (List.Perm.refl _) (fun u => List.Perm.refl _) (fun r_2 t_2 H locs hp_2 hP hD hS => ?_)
  obtain ⟨er_2, hR_2⟩ := hp_2
  obtain ⟨w_2, ew_2⟩ : ∃ z : vX10, z = ((fm_line (pmN w) (nT (w.1 19)) w (x1))).2 := ⟨_, rfl⟩
  rw [← ew_2] at hR_2
  have hP : va_P D vwCl (zTr cA g t_2) H := hP
  have hD : va_D A (zTr cA g t_2) := hD
  refine W.widen (k := 20) (n := 115) (by omega) (by omega) ?_
  have hL := ob_line hR hx1 er_2 ew_2
  refine lv_istore_n (lv' := [(3, .int r_2), (2, .int v_1), (0, .ref (g 0)), (1, .int x1)]) hx hb dL_observes_12 rfl hl (by decide) rfl (fun ls hl => ?_)
  refine lv_iload_n hx hb dL_observes_13 rfl (lv_at hl 1 rfl) ?_
  refine lv_bipush (v := 6) hx hb dL_observes_14 (by decide) ?_
  have J35 : ∀ (ej35 : ((¬ (v_1 = (6 : Int32))) ∧ (r_2 = v_1)) ∨ ((v_1 = (6 : Int32)) ∧ (r_2 = (-4 : Int32)))), ∀ (ls : Array Slot), lv_has ls 11 [(3, .int r_2), (2, .int v_1), (0, .ref (g 0)), (1, .int x1)] → W p l e (headSpec wsL_observes ({ frames := 7, cells := 40, slots := 230, locals := 152 })).room s m (([.ref (g 0), .int x1] : List Value).toArray) below meth c H locs 20 115 Q (F0 m 35 ls []) := by
    intro ej35 ls hl
    refine lv_iload_n hx hb dL_observes_35 rfl (lv_at hl 0 rfl) ?_
    refine lv_if_ge (tgt := 55) hx hb dL_observes_36 (by decide) (fun c_3 => ?_) (fun c_3 => ?_)
    · skip
      obtain ⟨k1, k2, k3, k4, k5⟩ := ob_K hR hL (Int32.not_lt.mpr c_3)
      have hk2 : nI (nT (w.1 19)) < w_2.1 19 := by rw [k3]; exact nI_lt (by omega) (by omega)
      refine lv_aload_n hx hb dL_observes_55 rfl (lv_at hl 2 rfl) ?_
      refine lv_bipush (v := 29) hx hb dL_observes_56 (by decide) ?_
      refine z_Ri (va_runV (As := [.int (29 : Int32)]) (rest := []) ⟨hx, hb, hml, hown, hts⟩ (d_X9_state l D cA g (29 : Int32) hR_2) (cwV 1 hts gL_observes_X9_state rfl rfl rfl (by decide +kernel) ⟨Nat.le_of_ble_eq_true rfl, Nat.le_of_ble_eq_true rfl⟩) (zqVR (wr := []) (wc := zTr cA g t_2) hK hP hN (List.Perm.refl _) 0 rfl rfl) rfl rfl hl.1 rfl (lv_room (Nat.le_of_ble_eq_true rfl)) dL_observes_58 ⟨Nat.le_of_ble_eq_true rfl, Nat.le_of_ble_eq_true rfl⟩) ?_
      refine lv_topi (fun v_4 ev_4 => ?_)
      rw [fs_29] at ev_4
      refine lv_istore (lv' := [(4, .int v_4), (3, .int r_2), (2, .int v_1), (0, .ref (g 0)), (1, .int x1)]) hx hb dL_observes_61 hl (by decide) rfl (fun ls hl => ?_)
      refine lv_aload_n hx hb dL_observes_63 rfl (lv_at hl 3 rfl) ?_
      refine lv_bipush (v := 28) hx hb dL_observes_64 (by decide) ?_
      refine z_Ri (va_runV (As := [.int (28 : Int32)]) (rest := []) ⟨hx, hb, hml, hown, hts⟩ (d_X9_state l D cA g (28 : Int32) hR_2) (cwV 1 hts gL_observes_X9_state rfl rfl rfl (by decide +kernel) ⟨Nat.le_of_ble_eq_true rfl, Nat.le_of_ble_eq_true rfl⟩) (zqVR (wr := []) (wc := zTr cA g t_2) hK hP hN (List.Perm.refl _) 0 rfl rfl) rfl rfl hl.1 rfl (lv_room (Nat.le_of_ble_eq_true rfl)) dL_observes_66 ⟨Nat.le_of_ble_eq_true rfl, Nat.le_of_ble_eq_true rfl⟩) ?_
      refine lv_topi (fun v_5 ev_5 => ?_)
      rw [fs_28] at ev_5
      refine lv_istore (lv' := [(5, .int v_5), (4, .int v_4), (3, .int r_2), (2, .int v_1), (0, .ref (g 0)), (1, .int x1)]) hx hb dL_observes_69 hl (by decide) rfl (fun ls hl => ?_)
      refine lv_aload_n hx hb dL_observes_71 rfl (lv_at hl 4 rfl) ?_
      refine lv_bipush (v := 15) hx hb dL_observes_72 (by decide) ?_
      refine z_Ri (va_runV (As := [.int (15 : Int32)]) (rest := []) ⟨hx, hb, hml, hown, hts⟩ (d_X9_state l D cA g (15 : Int32) hR_2) (cwV 1 hts gL_observes_X9_state rfl rfl rfl (by decide +kernel) ⟨Nat.le_of_ble_eq_true rfl, Nat.le_of_ble_eq_true rfl⟩) (zqVR (wr := []) (wc := zTr cA g t_2) hK hP hN (List.Perm.refl _) 0 rfl rfl) rfl rfl hl.1 rfl (lv_room (Nat.le_of_ble_eq_true rfl)) dL_observes_74 ⟨Nat.le_of_ble_eq_true rfl, Nat.le_of_ble_eq_true rfl⟩) ?_
      refine lv_topi (fun v_6 ev_6 => ?_)
      rw [fs_15] at ev_6
      refine lv_istore (lv' := [(6, .int v_6), (5, .int v_5), (4, .int v_4), (3, .int r_2), (2, .int v_1), (0, .ref (g 0)), (1, .int x1)]) hx hb dL_observes_77 hl (by decide) rfl (fun ls hl => ?_)
      refine lv_iload hx hb dL_observes_79 (lv_at hl 0 rfl) ?_
      have J93 : ∀ (j93_s0 : Int32) (ej93 : ((v_6 ≤ 0) ∧ j93_s0 = (0 : Int32)) ∨ ((¬ (v_6 ≤ 0)) ∧ j93_s0 = ((fm_check w_2.1 (0 : Int32))))), ∀ (ls : Array Slot), lv_has ls 11 [(6, .int v_6), (5, .int v_5), (4, .int v_4), (3, .int r_2), (2, .int v_1), (0, .ref (g 0)), (1, .int x1)] → W p l e (headSpec wsL_observes ({ frames := 7, cells := 40, slots := 230, locals := 152 })).room s m (([.ref (g 0), .int x1] : List Value).toArray) below meth c H locs 20 115 Q (F0 m 93 ls [.int j93_s0]) := by
        intro j93_s0 ej93 ls hl
        rw [ev_6] at ej93
        refine lv_istore (lv' := [(7, .int j93_s0), (6, .int v_6), (5, .int v_5), (4, .int v_4), (3, .int r_2), (2, .int v_1), (0, .ref (g 0)), (1, .int x1)]) hx hb dL_observes_93 hl (by decide) rfl (fun ls hl => ?_)
        refine lv_aload_n hx hb dL_observes_95 rfl (lv_at hl 6 rfl) ?_
        refine lv_iload_n hx hb dL_observes_96 rfl (lv_at hl 4 rfl) ?_
        refine z_Hp (wr := []) (wt := fun u => zTr cA g u) (va_runV (As := [.int r_2]) (rest := []) ⟨hx, hb, hml, hown, hts⟩ (d_X9_observe l D cA g H.size (r_2) hR_2) (cwV 1 hts gL_observes_X9_observe rfl rfl rfl (by decide +kernel) ⟨Nat.le_of_ble_eq_true rfl, Nat.le_of_ble_eq_true rfl⟩) (zqV (wr := []) (wc := zTr cA g t_2) hK hP hD hS hA hE (List.Perm.refl _) 0 rfl rfl) rfl rfl hl.1 rfl (lv_room (Nat.le_of_ble_eq_true rfl)) dL_observes_97 ⟨Nat.le_of_ble_eq_true rfl, Nat.le_of_ble_eq_true rfl⟩) hP hD hS hA (List.Perm.refl _) (fun u => List.Perm.refl _) (fun r_7 t_7 H locs hp_7 hP hD hS => ?_)
        obtain ⟨er_7, hR_7⟩ := hp_7
        obtain ⟨w_7, ew_7⟩ : ∃ z : vX10, z = ((fm_obs (pmN w_2) (nT (w_2.1 15)) w_2 (r_2))).2 := ⟨_, rfl⟩
        rw [← ew_7] at hR_7
        have hP : va_P D vwCl (zTr cA g t_7) H := hP
        have hD : va_D A (zTr cA g t_7) := hD
        refine W.widen (k := 40) (n := 230) (by omega) (by omega) ?_
        obtain ⟨⟨o27, o74, o15, o16, o75⟩, oi, z, hz, hr7⟩ := ob_row hR_2 k1 (by omega) hk2 ew_7 er_7
        rw [k4] at hz
        have hDB : zB 20000 (ob_D w_2.1) := ob_B hR_7 o74 o15 (by split <;> omega)
        have hzz := zz_f (y := x1 + ob_D w_2.1) (ob_y hx1 hDB) hz hr7
        refine lv_istore (lv' := [(8, .int r_7), (7, .int j93_s0), (6, .int v_6), (5, .int v_5), (4, .int v_4), (3, .int r_2), (2, .int v_1), (0, .ref (g 0)), (1, .int x1)]) hx hb dL_observes_100 hl (by decide) rfl (fun ls hl => ?_)
        refine lv_ldc2 hx hb hown (hts (.constantLong RL 137 (75)) (List.mem_of_getElem? (i := 1) rfl)) dL_observes_102 ?_
        refine lv_iload hx hb dL_observes_105 (lv_at hl 4 rfl) ?_
        refine lv_i2l hx hb dL_observes_107 rfl ?_
        refine lv_lmul hx hb dL_observes_108 ?_
        refine lv_ldc2 hx hb hown (hts (.constantLong RL 139 (74)) (List.mem_of_getElem? (i := 2) rfl)) dL_observes_109 ?_
        refine lv_ladd hx hb dL_observes_112 ?_
        refine lv_ldc2 hx hb hown (hts (.constantLong RL 141 (65537)) (List.mem_of_getElem? (i := 3) rfl)) dL_observes_113 ?_
        refine lv_lrem hx hb dL_observes_116 (by decide) ?_
        refine lv_l2i hx hb dL_observes_117 rfl ?_
        refine lv_topi (fun y_8 ey_8 => ?_)
        refine lv_istore (lv' := [(9, .int y_8), (8, .int r_7), (7, .int j93_s0), (6, .int v_6), (5, .int v_5), (4, .int v_4), (3, .int r_2), (2, .int v_1), (0, .ref (g 0)), (1, .int x1)]) hx hb dL_observes_118 hl (by decide) rfl (fun ls hl => ?_)
        refine lv_iload hx hb dL_observes_120 (lv_at hl 0 rfl) ?_
        refine lv_ldc hx hb hown (hts (.constant RL 143 (65536)) (List.mem_of_getElem? (i := 4) rfl)) dL_observes_122 ?_
        have J133 : ∀ (j133_s0 : Int32) (ej133 : ((¬ (y_8 = (65536 : Int32))) ∧ j133_s0 = y_8) ∨ ((y_8 = (65536 : Int32)) ∧ j133_s0 = (0 : Int32))), ∀ (ls : Array Slot), lv_has ls 11 [(9, .int y_8), (8, .int r_7), (7, .int j93_s0), (6, .int v_6), (5, .int v_5), (4, .int v_4), (3, .int r_2), (2, .int v_1), (0, .ref (g 0)), (1, .int x1)] → W p l e (headSpec wsL_observes ({ frames := 7, cells := 40, slots := 230, locals := 152 })).room s m (([.ref (g 0), .int x1] : List Value).toArray) below meth c H locs 40 230 Q (F0 m 133 ls [.int j133_s0]) := by
          intro j133_s0 ej133 ls hl
          rw [ev_4] at ey_8
          obtain ⟨es, s9, hs9, es9⟩ := ob_sd_r hR_2 ey_8 ej133
          refine lv_istore (lv' := [(9, .int j133_s0), (8, .int r_7), (7, .int j93_s0), (6, .int v_6), (5, .int v_5), (4, .int v_4), (3, .int r_2), (2, .int v_1), (0, .ref (g 0)), (1, .int x1)]) hx hb dL_observes_133 hl (by decide) rfl (fun ls hl => ?_)
          refine lv_aload_n hx hb dL_observes_135 rfl (lv_at hl 8 rfl) ?_
          refine lv_iconst (v := 0) hx hb dL_observes_136 (by decide) ?_
          refine z_Ri (va_runV (As := [.int (0 : Int32)]) (rest := []) ⟨hx, hb, hml, hown, hts⟩ (d_X9_compass l D cA g (0 : Int32) hR_7) (cwV 1 hts gL_observes_X9_compass rfl rfl rfl (by decide +kernel) ⟨Nat.le_of_ble_eq_true rfl, Nat.le_of_ble_eq_true rfl⟩) (zqVR (wr := []) (wc := zTr cA g t_7) hK hP hN (List.Perm.refl _) 0 rfl rfl) rfl rfl hl.1 rfl (lv_room (Nat.le_of_ble_eq_true rfl)) dL_observes_137 ⟨Nat.le_of_ble_eq_true rfl, Nat.le_of_ble_eq_true rfl⟩) ?_
          refine lv_topi (fun v_9 ev_9 => ?_)
          rw [fk_0] at ev_9
          refine lv_bipush (v := 100) hx hb dL_observes_140 (by decide) ?_
          refine lv_idiv hx hb dL_observes_142 (by decide) ?_
          refine lv_iload hx hb dL_observes_143 (lv_at hl 0 rfl) ?_
          refine lv_iconst (v := 2) hx hb dL_observes_145 (by decide) ?_
          refine lv_iload hx hb dL_observes_146 (lv_at hl 4 rfl) ?_
          refine lv_imul hx hb dL_observes_148 ?_
          refine lv_iconst (v := 1) hx hb dL_observes_149 (by decide) ?_
          refine lv_iadd hx hb dL_observes_150 ?_
          refine lv_irem hx hb dL_observes_151 (by rw [ev_5]; exact z_w2 (rel_26 hR_2)) ?_
          refine lv_iadd hx hb dL_observes_152 ?_
          refine lv_iload hx hb dL_observes_153 (lv_at hl 4 rfl) ?_
          refine lv_isub hx hb dL_observes_155 ?_
          refine lv_topi (fun y_10 ey_10 => ?_)
          refine lv_istore (lv' := [(10, .int y_10), (9, .int j133_s0), (8, .int r_7), (7, .int j93_s0), (6, .int v_6), (5, .int v_5), (4, .int v_4), (3, .int r_2), (2, .int v_1), (0, .ref (g 0)), (1, .int x1)]) hx hb dL_observes_156 hl (by decide) rfl (fun ls hl => ?_)
          have ey_10 : y_10 = ob_D w_2.1 := by rw [ey_10, ev_9, oi 4 (by omega), ev_5, es]; rfl
          refine lv_aload_n hx hb dL_observes_158 rfl (lv_at hl 9 rfl) ?_
          refine lv_bipush (v := 29) hx hb dL_observes_159 (by decide) ?_
          refine z_Ri (va_runV (As := [.int (29 : Int32)]) (rest := []) ⟨hx, hb, hml, hown, hts⟩ (d_X9_state l D cA g (29 : Int32) hR_7) (cwV 1 hts gL_observes_X9_state rfl rfl rfl (by decide +kernel) ⟨Nat.le_of_ble_eq_true rfl, Nat.le_of_ble_eq_true rfl⟩) (zqVR (wr := []) (wc := zTr cA g t_7) hK hP hN (List.Perm.refl _) 0 rfl rfl) rfl rfl hl.1 rfl (lv_room (Nat.le_of_ble_eq_true rfl)) dL_observes_161 ⟨Nat.le_of_ble_eq_true rfl, Nat.le_of_ble_eq_true rfl⟩) ?_
          refine lv_topi (fun v_11 ev_11 => ?_)
          rw [fs_29] at ev_11
          refine lv_iload hx hb dL_observes_164 (lv_at hl 1 rfl) ?_
          refine lv_icmp_ne (tgt := 265) hx hb dL_observes_166 (by decide) (fun c_12 => ?_) (fun c_12 => ?_)
          · skip
            -- bad leaf 0
            rw [ev_11] at c_12
            exact (c_12 (o27.trans es.symm)).elim
          · skip
            refine lv_aload_n hx hb dL_observes_169 rfl (lv_at hl 9 rfl) ?_
            refine lv_iconst (v := 0) hx hb dL_observes_170 (by decide) ?_
            refine z_Ri (va_runV (As := [.int (0 : Int32)]) (rest := []) ⟨hx, hb, hml, hown, hts⟩ (d_X9_check l D cA g (0 : Int32) hR_7) (cwV 1 hts gL_observes_X9_check rfl rfl rfl (by decide +kernel) ⟨Nat.le_of_ble_eq_true rfl, Nat.le_of_ble_eq_true rfl⟩) (zqVR (wr := []) (wc := zTr cA g t_7) hK hP hN (List.Perm.refl _) 0 rfl rfl) rfl rfl hl.1 rfl (lv_room (Nat.le_of_ble_eq_true rfl)) dL_observes_171 ⟨Nat.le_of_ble_eq_true rfl, Nat.le_of_ble_eq_true rfl⟩) ?_
            refine lv_topi (fun v_13 ev_13 => ?_)
            refine lv_iload hx hb dL_observes_174 (lv_at hl 0 rfl) ?_
            refine lv_icmp_ne (tgt := 265) hx hb dL_observes_176 (by decide) (fun c_14 => ?_) (fun c_14 => ?_)
            · skip
              -- bad leaf 1
              rw [ev_13, ey_10] at c_14
              exact (c_14 (ob_c0 hR_7 (by split <;> omega) o15 o74)).elim
            · skip
              refine lv_iload_n hx hb dL_observes_179 rfl (lv_at hl 10 rfl) ?_
              refine lv_iload hx hb dL_observes_180 (lv_at hl 0 rfl) ?_
              refine lv_iadd hx hb dL_observes_182 ?_
              refine lv_iload hx hb dL_observes_183 (lv_at hl 2 rfl) ?_
              refine lv_isub hx hb dL_observes_185 ?_
              refine lv_ldc hx hb hown (hts (.constant RL 64 (36000)) (List.mem_of_getElem? (i := 5) rfl)) dL_observes_186 ?_
              refine lv_irem hx hb dL_observes_188 (by decide) ?_
              refine lv_if_ne (tgt := 265) hx hb dL_observes_189 (by decide) (fun c_15 => ?_) (fun c_15 => ?_)
              · skip
                -- bad leaf 2
                rw [ey_10] at c_15
                exact (c_15 (hzz.2)).elim
              · skip
                refine lv_iload hx hb dL_observes_192 (lv_at hl 2 rfl) ?_
                refine lv_if_lt (tgt := 265) hx hb dL_observes_194 (by decide) (fun c_16 => ?_) (fun c_16 => ?_)
                · skip
                  -- bad leaf 3
                  exact (ob_l3 hzz.1 c_16).elim
                · skip
                  refine lv_iload hx hb dL_observes_197 (lv_at hl 2 rfl) ?_
                  refine lv_ldc hx hb hown (hts (.constant RL 64 (36000)) (List.mem_of_getElem? (i := 5) rfl)) dL_observes_199 ?_
                  refine lv_icmp_ge (tgt := 265) hx hb dL_observes_201 (by decide) (fun c_17 => ?_) (fun c_17 => ?_)
                  · skip
                    -- bad leaf 4
                    exact (ob_l4 hzz.1 c_17).elim
                  · skip
                    refine lv_aload_n hx hb dL_observes_204 rfl (lv_at hl 9 rfl) ?_
                    refine lv_bipush (v := 15) hx hb dL_observes_205 (by decide) ?_
                    refine z_Ri (va_runV (As := [.int (15 : Int32)]) (rest := []) ⟨hx, hb, hml, hown, hts⟩ (d_X9_state l D cA g (15 : Int32) hR_7) (cwV 1 hts gL_observes_X9_state rfl rfl rfl (by decide +kernel) ⟨Nat.le_of_ble_eq_true rfl, Nat.le_of_ble_eq_true rfl⟩) (zqVR (wr := []) (wc := zTr cA g t_7) hK hP hN (List.Perm.refl _) 0 rfl rfl) rfl rfl hl.1 rfl (lv_room (Nat.le_of_ble_eq_true rfl)) dL_observes_207 ⟨Nat.le_of_ble_eq_true rfl, Nat.le_of_ble_eq_true rfl⟩) ?_
                    refine lv_topi (fun v_18 ev_18 => ?_)
                    rw [fs_15] at ev_18
                    refine lv_iload hx hb dL_observes_210 (lv_at hl 4 rfl) ?_
                    refine lv_iconst (v := 5) hx hb dL_observes_212 (by decide) ?_
                    have J224 : ∀ (j224_s1 : Int32) (ej224 : ((¬ (v_6 = (5 : Int32))) ∧ j224_s1 = (v_6 + (1 : Int32))) ∨ ((v_6 = (5 : Int32)) ∧ j224_s1 = (5 : Int32))), ∀ (ls : Array Slot), lv_has ls 11 [(10, .int y_10), (9, .int j133_s0), (8, .int r_7), (7, .int j93_s0), (6, .int v_6), (5, .int v_5), (4, .int v_4), (3, .int r_2), (2, .int v_1), (0, .ref (g 0)), (1, .int x1)] → W p l e (headSpec wsL_observes ({ frames := 7, cells := 40, slots := 230, locals := 152 })).room s m (([.ref (g 0), .int x1] : List Value).toArray) below meth c H locs 40 230 Q (F0 m 224 ls [.int j224_s1, .int v_18]) := by
                      intro j224_s1 ej224 ls hl
                      rw [ev_6] at ej224
                      refine lv_icmp_ne (tgt := 265) hx hb dL_observes_224 (by decide) (fun c_19 => ?_) (fun c_19 => ?_)
                      · skip
                        -- bad leaf 5
                        rw [ev_18] at c_19
                        exact (c_19 (ob_l5 hR_2 o15 ej224)).elim
                      · skip
                        refine lv_iload hx hb dL_observes_227 (lv_at hl 4 rfl) ?_
                        have J242 : ∀ (ej242 : ((v_6 = 0)) ∨ ((¬ (v_6 = 0)) ∧ (((fm_check w_7.1 (1 : Int32))) = j93_s0))), ∀ (ls : Array Slot), lv_has ls 11 [(10, .int y_10), (9, .int j133_s0), (8, .int r_7), (7, .int j93_s0), (6, .int v_6), (5, .int v_5), (4, .int v_4), (3, .int r_2), (2, .int v_1), (0, .ref (g 0)), (1, .int x1)] → W p l e (headSpec wsL_observes ({ frames := 7, cells := 40, slots := 230, locals := 152 })).room s m (([.ref (g 0), .int x1] : List Value).toArray) below meth c H locs 40 230 Q (F0 m 242 ls []) := by
                          intro ej242 ls hl
                          refine lv_iload hx hb dL_observes_242 (lv_at hl 0 rfl) ?_
                          refine lv_aload_n hx hb dL_observes_244 rfl (lv_at hl 9 rfl) ?_
                          refine lv_iconst (v := 0) hx hb dL_observes_245 (by decide) ?_
                          refine z_Ri (va_runV (As := [.int (0 : Int32)]) (rest := [.int y_10]) ⟨hx, hb, hml, hown, hts⟩ (d_X9_compass l D cA g (0 : Int32) hR_7) (cwV 1 hts gL_observes_X9_compass rfl rfl rfl (by decide +kernel) ⟨Nat.le_of_ble_eq_true rfl, Nat.le_of_ble_eq_true rfl⟩) (zqVR (wr := []) (wc := zTr cA g t_7) hK hP hN (List.Perm.refl _) 0 rfl rfl) rfl rfl hl.1 rfl (lv_room (Nat.le_of_ble_eq_true rfl)) dL_observes_246 ⟨Nat.le_of_ble_eq_true rfl, Nat.le_of_ble_eq_true rfl⟩) ?_
                          refine lv_topi (fun v_20 ev_20 => ?_)
                          rw [fk_0] at ev_20
                          refine lv_bipush (v := 100) hx hb dL_observes_249 (by decide) ?_
                          refine lv_idiv hx hb dL_observes_251 (by decide) ?_
                          refine lv_isub hx hb dL_observes_252 ?_
                          refine z_Ri (va_runS (As := [.int (y_10 - (v_20 / (100 : Int32)))]) (rest := []) ⟨hx, hb, hml, hown, hts⟩ (c_L_size l D cA (y_10 - (v_20 / (100 : Int32)))  ) (va_cwS 1 hts gL_observes_L_size rfl rfl rfl (by decide +kernel) ⟨Nat.le_of_ble_eq_true rfl, Nat.le_of_ble_eq_true rfl⟩) (zqSR0 hK hN) rfl rfl hl.1 rfl (lv_room (Nat.le_of_ble_eq_true rfl)) dL_observes_253 ⟨Nat.le_of_ble_eq_true rfl, Nat.le_of_ble_eq_true rfl⟩) ?_
                          refine lv_topi (fun v_21 ev_21 => ?_)
                          refine lv_iload hx hb dL_observes_256 (lv_at hl 5 rfl) ?_
                          refine lv_icmp_gt (tgt := 265) hx hb dL_observes_258 (by decide) (fun c_22 => ?_) (fun c_22 => ?_)
                          · skip
                            -- bad leaf 6
                            rw [ev_21, ev_20, ey_10, ev_5] at c_22
                            exact (ob_l6 hR_2 hs9 (es.symm.trans es9) hDB (oi 4 (by omega)) c_22).elim
                          · skip
                            refine lv_iconst (v := 1) hx hb dL_observes_261 (by decide) ?_
                            refine lv_goto (tgt := 266) hx hb dL_observes_262 (by decide) ?_
                            have hP9 : va_P D vwCl (zTr cA g t_7) H := hP
                            have hD9 : va_D A (zTr cA g t_7) := hD
                            have hI9 : IV (n + 1) w_7 := (ob_IV (IV_c hI (fun i hi => k5 i (by omega))) o15 o16 (rel_chk hR_2).1 (rel_chk hR_2).2 oi hn)
                            subst hQ
                            refine W.widen (k := 40) (n := 230) (by omega) (by omega) ?_
                            exact W.zret (ty := .boolean) (v := 1) hx hb hr rfl (fun t ht hW => ⟨⟨1, t_7, rfl, ⟨rfl, w_7, hR_7, hI9⟩, ⟨by rw [ht]; exact hP9, va_K.moved hW.alike hK, hD9⟩⟩, hS.F ht⟩) hS.2.2 dL_observes_266
                        refine lv_if_eq (tgt := 242) hx hb dL_observes_229 (by decide) (fun c_23 => ?_) (fun c_23 => ?_)
                        · skip
                          exact J242  (Or.inl c_23) ls (lv_sub hl [0, 1, 2, 3, 4, 5, 6, 7, 8, 9, 10] rfl)
                        · skip
                          refine lv_aload_n hx hb dL_observes_232 rfl (lv_at hl 9 rfl) ?_
                          refine lv_iconst (v := 1) hx hb dL_observes_233 (by decide) ?_
                          refine z_Ri (va_runV (As := [.int (1 : Int32)]) (rest := []) ⟨hx, hb, hml, hown, hts⟩ (d_X9_check l D cA g (1 : Int32) hR_7) (cwV 1 hts gL_observes_X9_check rfl rfl rfl (by decide +kernel) ⟨Nat.le_of_ble_eq_true rfl, Nat.le_of_ble_eq_true rfl⟩) (zqVR (wr := []) (wc := zTr cA g t_7) hK hP hN (List.Perm.refl _) 0 rfl rfl) rfl rfl hl.1 rfl (lv_room (Nat.le_of_ble_eq_true rfl)) dL_observes_234 ⟨Nat.le_of_ble_eq_true rfl, Nat.le_of_ble_eq_true rfl⟩) ?_
                          refine lv_topi (fun v_24 ev_24 => ?_)
                          refine lv_iload hx hb dL_observes_237 (lv_at hl 3 rfl) ?_
                          refine lv_icmp_ne (tgt := 265) hx hb dL_observes_239 (by decide) (fun c_25 => ?_) (fun c_25 => ?_)
                          · skip
                            -- bad leaf 7
                            rw [ev_6] at c_23
                            rw [ev_24] at c_25
                            exact (c_25 (ob_l7 hR_2 o15 o75 ej93 c_23)).elim
                          · skip
                            subst ev_24
                            exact J242  (Or.inr ⟨c_23, c_25⟩) ls (lv_sub hl [0, 1, 2, 3, 4, 5, 6, 7, 8, 9, 10] rfl)
                    refine lv_icmp_ne (tgt := 220) hx hb dL_observes_213 (by decide) (fun c_26 => ?_) (fun c_26 => ?_)
                    · skip
                      refine lv_iload hx hb dL_observes_220 (lv_at hl 4 rfl) ?_
                      refine lv_iconst (v := 1) hx hb dL_observes_222 (by decide) ?_
                      refine lv_iadd hx hb dL_observes_223 ?_
                      exact J224 _ (Or.inl ⟨c_26, rfl⟩) ls (lv_sub hl [0, 1, 2, 3, 4, 5, 6, 7, 8, 9, 10] rfl)
                    · skip
                      refine lv_iconst (v := 5) hx hb dL_observes_216 (by decide) ?_
                      refine lv_goto (tgt := 224) hx hb dL_observes_217 (by decide) ?_
                      exact J224 _ (Or.inr ⟨c_26, rfl⟩) ls (lv_sub hl [0, 1, 2, 3, 4, 5, 6, 7, 8, 9, 10] rfl)
        refine lv_icmp_ne (tgt := 131) hx hb dL_observes_124 (by decide) (fun c_27 => ?_) (fun c_27 => ?_)
        · skip
          refine lv_iload hx hb dL_observes_131 (lv_at hl 0 rfl) ?_
          exact J133 _ (Or.inl ⟨c_27, rfl⟩) ls (lv_sub hl [0, 1, 2, 3, 4, 5, 6, 7, 8, 9] rfl)
        · skip
          refine lv_iconst (v := 0) hx hb dL_observes_127 (by decide) ?_
          refine lv_goto (tgt := 133) hx hb dL_observes_128 (by decide) ?_
          exact J133 _ (Or.inr ⟨c_27, rfl⟩) ls (lv_sub hl [0, 1, 2, 3, 4, 5, 6, 7, 8, 9] rfl)
      refine lv_if_le (tgt := 92) hx hb dL_observes_81 (by decide) (fun c_28 => ?_) (fun c_28 => ?_)
      · skip
        refine lv_iconst (v := 0) hx hb dL_observes_92 (by decide) ?_
        exact J93 _ (Or.inl ⟨c_28, rfl⟩) ls (lv_sub hl [0, 1, 2, 3, 4, 5, 6] rfl)
      · skip
        refine lv_aload_n hx hb dL_observes_84 rfl (lv_at hl 5 rfl) ?_
        refine lv_iconst (v := 0) hx hb dL_observes_85 (by decide) ?_
        refine z_Ri (va_runV (As := [.int (0 : Int32)]) (rest := []) ⟨hx, hb, hml, hown, hts⟩ (d_X9_check l D cA g (0 : Int32) hR_2) (cwV 1 hts gL_observes_X9_check rfl rfl rfl (by decide +kernel) ⟨Nat.le_of_ble_eq_true rfl, Nat.le_of_ble_eq_true rfl⟩) (zqVR (wr := []) (wc := zTr cA g t_2) hK hP hN (List.Perm.refl _) 0 rfl rfl) rfl rfl hl.1 rfl (lv_room (Nat.le_of_ble_eq_true rfl)) dL_observes_86 ⟨Nat.le_of_ble_eq_true rfl, Nat.le_of_ble_eq_true rfl⟩) ?_
        refine lv_topi (fun v_29 ev_29 => ?_)
        refine lv_goto (tgt := 93) hx hb dL_observes_89 (by decide) ?_
        subst ev_29
        exact J93 _ (Or.inr ⟨c_28, rfl⟩) ls (lv_sub hl [0, 1, 2, 3, 4, 5, 6] rfl)
    · skip
      refine lv_aload_n hx hb dL_observes_39 rfl (lv_at hl 2 rfl) ?_
      refine lv_bipush (v := 6) hx hb dL_observes_40 (by decide) ?_
      refine z_Hp (wr := []) (wt := fun u => zTr cA g u) (va_runV (As := [.int (6 : Int32)]) (rest := []) ⟨hx, hb, hml, hown, hts⟩ (d_X9_observe l D cA g H.size (6 : Int32) hR_2) (cwV 1 hts gL_observes_X9_observe rfl rfl rfl (by decide +kernel) ⟨Nat.le_of_ble_eq_true rfl, Nat.le_of_ble_eq_true rfl⟩) (zqV (wr := []) (wc := zTr cA g t_2) hK hP hD hS hA hE (List.Perm.refl _) 0 rfl rfl) rfl rfl hl.1 rfl (lv_room (Nat.le_of_ble_eq_true rfl)) dL_observes_42 ⟨Nat.le_of_ble_eq_true rfl, Nat.le_of_ble_eq_true rfl⟩) hP hD hS hA (List.Perm.refl _) (fun u => List.Perm.refl _) (fun r_30 t_30 H locs hp_30 hP hD hS => ?_)
      obtain ⟨er_30, hR_30⟩ := hp_30
      have hf_30 : (fm_obs (pmN w_2) (nT (w_2.1 15)) w_2 (6 : Int32)) = ((-1), w_2) := ob_8 hR hL (Int32.not_le.mp c_3)
      rw [hf_30] at er_30 hR_30
      have er_30 : r_30 = (-1) := er_30
      have hR_30 : Rel t_30 w_2 := hR_30
      clear hf_30
      have hP : va_P D vwCl (zTr cA g t_30) H := hP
      have hD : va_D A (zTr cA g t_30) := hD
      refine W.widen (k := 40) (n := 230) (by omega) (by omega) ?_
      refine lv_iconst (v := -1) hx hb dL_observes_45 (by decide) ?_
      refine lv_icmp_ne (tgt := 53) hx hb dL_observes_46 (by decide) (fun c_31 => ?_) (fun c_31 => ?_)
      · skip
        -- bad leaf 8
        rw [er_30] at c_31
        exact (c_31 (rfl)).elim
      · skip
        refine lv_iconst (v := 1) hx hb dL_observes_49 (by decide) ?_
        refine lv_goto (tgt := 54) hx hb dL_observes_50 (by decide) ?_
        have hP9 : va_P D vwCl (zTr cA g t_30) H := hP
        have hD9 : va_D A (zTr cA g t_30) := hD
        have hI9 : IV (n + 1) w_2 := (by rw [(ob_w hR hL (Int32.not_le.mp c_3)).1]; exact IV_le hI (by omega))
        subst hQ
        refine W.widen (k := 40) (n := 230) (by omega) (by omega) ?_
        exact W.zret (ty := .boolean) (v := 1) hx hb hr rfl (fun t ht hW => ⟨⟨1, t_30, rfl, ⟨rfl, w_2, hR_30, hI9⟩, ⟨by rw [ht]; exact hP9, va_K.moved hW.alike hK, hD9⟩⟩, hS.F ht⟩) hS.2.2 dL_observes_54
  refine lv_icmp_ne (tgt := 28) hx hb dL_observes_16 (by decide) (fun c_32 => ?_) (fun c_32 => ?_)
  · skip
    refine lv_iload_n hx hb dL_observes_28 rfl (lv_at hl 0 rfl) ?_
    refine lv_iload_n hx hb dL_observes_29 rfl (lv_at hl 1 rfl) ?_
    refine lv_icmp_eq (tgt := 35) hx hb dL_observes_30 (by decide) (fun c_33 => ?_) (fun c_33 => ?_)
    · skip
      exact J35  (Or.inl ⟨c_32, c_33⟩) ls (lv_sub hl [0, 1, 2, 3] rfl)
    · skip
      -- bad leaf 9
      rw [ev_1] at c_32
      rw [ev_1] at c_33
      exact (c_33 (ob_9 hL c_32)).elim
  · skip
    refine lv_iload_n hx hb dL_observes_19 rfl (lv_at hl 0 rfl) ?_
    refine lv_bipush (v := -4) hx hb dL_observes_20 (by decide) ?_
    refine lv_icmp_eq (tgt := 35) hx hb dL_observes_22 (by decide) (fun c_34 => ?_) (fun c_34 => ?_)
    · skip
      exact J35  (Or.inr ⟨c_32, c_34⟩) ls (lv_sub hl [0, 1, 2, 3] rfl)
    · skip
      refine lv_goto (tgt := 33) hx hb dL_observes_25 (by decide) ?_
      -- bad leaf 10
      rw [ev_1] at c_32
      exact (c_34 (ob_10 hL c_32)).elim
