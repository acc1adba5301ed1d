set_option maxHeartbeats 4000000 in
set_option maxRecDepth 100000 in
theorem c_L_refused (l : Launch) (D : va_G) (cA : Nat → ClassId) (g : Nat → Nat) (sz : Nat) {t : vTv} {w : vX10} (x1 : Int32) (hR : Rel t w) (hw : w = zi_X10) : Met l yL_refused wsL_refused ({ frames := 7, cells := 600, slots := 3000, locals := 179 }) (va_Pc [.ref (g 0), .int x1] (zPre D (zty cA) (zTr cA g t) sz)) (va_Qi (fun (x : Int32) (u : vTv) => x = 1 ∧ ∃ w9, Rel u w9 ∧ IV 0 w9) (fun u => zPost D (zty cA) (va_A (zTr cA g t) sz) (zTr cA g u)) (va_A (zTr cA g t) sz)) 600 3000 (va_A (zTr cA g t) sz) := by
  refine Met.ofW (cc := cL_refused) (maxL := 3) (ret := (some .boolean)) (by decide) rfl ?_
  intro p e s m args below meth c s₁ B hml hv
  obtain ⟨rfl, hsz, hP, hK, hD0, hE⟩ := hv
  have hx := B.exec
  have hb := B.bytes
  have hr := B.returns
  have hts := atoms_spec (ws := wsL_refused) B.pre
  have hown : s.vm.findClass RL = some m.cls := findClass_of_methodNamed B.named
  subst hsz
  have hD := hD0.self (sz := s.heap.size)
  generalize hAe : va_A (zTr cA g t) s.heap.size = A at hD hE ⊢
  have hA : ∀ q : Nat, s.heap.size ≤ q → A q := fun q h => by rw [← hAe]; exact Or.inr h
  have hS : va_S A s.heap s.heap [] := va_S.rf
  have hN : zN s := hE.1
  have hP : va_P D vwCl (zTr cA g t) s.heap := hP
  have hD : va_D A (zTr cA g t) := hD
  have hl := lv_entry ([.ref (g 0), .int x1]) (n := 3) (Nat.le_of_ble_eq_true rfl)
  rw [lg_entry_eq]
  generalize (lg_sl ([.ref (g 0), .int x1]) ++ List.replicate (3 - (lg_sl ([.ref (g 0), .int x1])).length) Slot.unset).toArray = ls at hl ⊢
  have hl : lv_has ls 3 [(0, .ref (g 0)), (1, .int x1)] := hl
  refine z_genQ (fun Q hQ => ?_)
  subst hw
  refine lv_iload_n hx hb dL_refused_0 rfl (lv_at hl 1 rfl) ?_
  have J23 : ∀ (j23_s0 : Int32) (ej23 : ((0 ≤ x1) ∧ j23_s0 = ((x1 - x1 / (1000000 : Int32) * (1000000 : Int32)) + (1800001 : Int32))) ∨ ((¬ (0 ≤ x1)) ∧ j23_s0 = ((-1800001 : Int32) - (fl_up (x1) (1000000 : Int32))))), ∀ (ls : Array Slot), lv_has ls 3 [(0, .ref (g 0)), (1, .int x1)] → W p l e (headSpec wsL_refused ({ frames := 7, cells := 600, slots := 3000, locals := 179 })).room s m (([.ref (g 0), .int x1] : List Value).toArray) below meth c s.heap [] 0 0 Q (F0 m 23 ls [.int j23_s0]) := by
    intro j23_s0 ej23 ls hl
    refine lv_istore_n (lv' := [(2, .int j23_s0), (0, .ref (g 0)), (1, .int x1)]) hx hb dL_refused_23 rfl hl (by decide) rfl (fun ls hl => ?_)
    have hfar : rfar j23_s0 := rf_far ej23
    refine lv_aload_n hx hb dL_refused_24 rfl (lv_at hl 1 rfl) ?_
    refine lv_iload_n hx hb dL_refused_25 rfl (lv_at hl 0 rfl) ?_
    refine lv_iconst (v := 1) hx hb dL_refused_26 (by decide) ?_
    refine z_Hp (wr := []) (wt := fun u => zTr cA g u) (va_runV (As := [.int j23_s0, .int (1 : Int32)]) (rest := []) ⟨hx, hb, hml, hown, hts⟩ (d_X9_set l D cA g s.heap.size (j23_s0) (1 : Int32) hR) (cwV 2 hts gL_refused_X9_set rfl rfl rfl (by decide +kernel) ⟨Nat.le_of_ble_eq_true rfl, Nat.le_of_ble_eq_true rfl⟩) (zqV (wr := []) (wc := zTr cA g t) hK hP hD hS hA hE (List.Perm.refl _) 0 rfl rfl) rfl rfl hl.1 rfl (lv_room (Nat.le_of_ble_eq_true rfl)) dL_refused_27 ⟨Nat.le_of_ble_eq_true rfl, Nat.le_of_ble_eq_true rfl⟩) hP hD hS hA (List.Perm.refl _) (fun u => List.Perm.refl _) (fun r_1 t_1 H locs hp_1 hP hD hS => ?_)
    obtain ⟨er_1, hR_1⟩ := hp_1
    have hf_1 : (fm_set (pmN zi_X10) zi_X10 (j23_s0) (1 : Int32)) = ((-2), zi_X10) := rf_set1 hfar
    rw [hf_1] at er_1 hR_1
    have er_1 : r_1 = (-2) := er_1
    have hR_1 : Rel t_1 zi_X10 := hR_1
    clear hf_1
    have hP : va_P D vwCl (zTr cA g t_1) H := hP
    have hD : va_D A (zTr cA g t_1) := hD
    refine W.widen (k := 20) (n := 115) (by omega) (by omega) ?_
    refine lv_bipush (v := -2) hx hb dL_refused_30 (by decide) ?_
    refine lv_icmp_ne (tgt := 367) hx hb dL_refused_32 (by decide) (fun c_2 => ?_) (fun c_2 => ?_)
    · skip
      -- bad leaf 0
      rw [er_1] at c_2
      exact (c_2 rfl).elim
    · skip
      refine lv_aload_n hx hb dL_refused_35 rfl (lv_at hl 1 rfl) ?_
      refine lv_iconst (v := 0) hx hb dL_refused_36 (by decide) ?_
      refine lv_iload_n hx hb dL_refused_37 rfl (lv_at hl 0 rfl) ?_
      refine z_Hp (wr := []) (wt := fun u => zTr cA g u) (va_runV (As := [.int (0 : Int32), .int j23_s0]) (rest := []) ⟨hx, hb, hml, hown, hts⟩ (d_X9_set l D cA g H.size (0 : Int32) (j23_s0) hR_1) (cwV 2 hts gL_refused_X9_set rfl rfl rfl (by decide +kernel) ⟨Nat.le_of_ble_eq_true rfl, Nat.le_of_ble_eq_true rfl⟩) (zqV (wr := []) (wc := zTr cA g t_1) hK hP hD hS hA hE (List.Perm.refl _) 0 rfl rfl) rfl rfl hl.1 rfl (lv_room (Nat.le_of_ble_eq_true rfl)) dL_refused_38 ⟨Nat.le_of_ble_eq_true rfl, Nat.le_of_ble_eq_true rfl⟩) hP hD hS hA (List.Perm.refl _) (fun u => List.Perm.refl _) (fun r_3 t_3 H locs hp_3 hP hD hS => ?_)
      obtain ⟨er_3, hR_3⟩ := hp_3
      have hf_3 : (fm_set (pmN zi_X10) zi_X10 (0 : Int32) (j23_s0)) = ((-2), zi_X10) := rf_set2 hfar
      rw [hf_3] at er_3 hR_3
      have er_3 : r_3 = (-2) := er_3
      have hR_3 : Rel t_3 zi_X10 := hR_3
      clear hf_3
      have hP : va_P D vwCl (zTr cA g t_3) H := hP
      have hD : va_D A (zTr cA g t_3) := hD
      refine W.widen (k := 40) (n := 230) (by omega) (by omega) ?_
      refine lv_bipush (v := -2) hx hb dL_refused_41 (by decide) ?_
      refine lv_icmp_ne (tgt := 367) hx hb dL_refused_43 (by decide) (fun c_4 => ?_) (fun c_4 => ?_)
      · skip
        -- bad leaf 1
        rw [er_3] at c_4
        exact (c_4 rfl).elim
      · skip
        refine lv_aload_n hx hb dL_refused_46 rfl (lv_at hl 1 rfl) ?_
        refine lv_bipush (v := 7) hx hb dL_refused_47 (by decide) ?_
        refine lv_iload_n hx hb dL_refused_49 rfl (lv_at hl 0 rfl) ?_
        refine z_Hp (wr := []) (wt := fun u => zTr cA g u) (va_runV (As := [.int (7 : Int32), .int j23_s0]) (rest := []) ⟨hx, hb, hml, hown, hts⟩ (d_X9_set l D cA g H.size (7 : Int32) (j23_s0) hR_3) (cwV 2 hts gL_refused_X9_set rfl rfl rfl (by decide +kernel) ⟨Nat.le_of_ble_eq_true rfl, Nat.le_of_ble_eq_true rfl⟩) (zqV (wr := []) (wc := zTr cA g t_3) hK hP hD hS hA hE (List.Perm.refl _) 0 rfl rfl) rfl rfl hl.1 rfl (lv_room (Nat.le_of_ble_eq_true rfl)) dL_refused_50 ⟨Nat.le_of_ble_eq_true rfl, Nat.le_of_ble_eq_true rfl⟩) hP hD hS hA (List.Perm.refl _) (fun u => List.Perm.refl _) (fun r_5 t_5 H locs hp_5 hP hD hS => ?_)
        obtain ⟨er_5, hR_5⟩ := hp_5
        have hf_5 : (fm_set (pmN zi_X10) zi_X10 (7 : Int32) (j23_s0)) = ((-2), zi_X10) := rf_set3 hfar
        rw [hf_5] at er_5 hR_5
        have er_5 : r_5 = (-2) := er_5
        have hR_5 : Rel t_5 zi_X10 := hR_5
        clear hf_5
        have hP : va_P D vwCl (zTr cA g t_5) H := hP
        have hD : va_D A (zTr cA g t_5) := hD
        refine W.widen (k := 60) (n := 345) (by omega) (by omega) ?_
        refine lv_bipush (v := -2) hx hb dL_refused_53 (by decide) ?_
        refine lv_icmp_ne (tgt := 367) hx hb dL_refused_55 (by decide) (fun c_6 => ?_) (fun c_6 => ?_)
        · skip
          -- bad leaf 2
          rw [er_5] at c_6
          exact (c_6 rfl).elim
        · skip
          refine lv_aload_n hx hb dL_refused_58 rfl (lv_at hl 1 rfl) ?_
          refine lv_iload_n hx hb dL_refused_59 rfl (lv_at hl 0 rfl) ?_
          refine lv_iconst (v := 0) hx hb dL_refused_60 (by decide) ?_
          refine z_Hp (wr := []) (wt := fun u => zTr cA g u) (va_runV (As := [.int j23_s0, .int (0 : Int32)]) (rest := []) ⟨hx, hb, hml, hown, hts⟩ (d_X9_start l D cA g H.size (j23_s0) (0 : Int32) hR_5) (cwV 2 hts gL_refused_X9_start rfl rfl rfl (by decide +kernel) ⟨Nat.le_of_ble_eq_true rfl, Nat.le_of_ble_eq_true rfl⟩) (zqV (wr := []) (wc := zTr cA g t_5) hK hP hD hS hA hE (List.Perm.refl _) 0 rfl rfl) rfl rfl hl.1 rfl (lv_room (Nat.le_of_ble_eq_true rfl)) dL_refused_61 ⟨Nat.le_of_ble_eq_true rfl, Nat.le_of_ble_eq_true rfl⟩) hP hD hS hA (List.Perm.refl _) (fun u => List.Perm.refl _) (fun r_7 t_7 H locs hp_7 hP hD hS => ?_)
          obtain ⟨er_7, hR_7⟩ := hp_7
          have hf_7 : (fm_start (pmN zi_X10) zi_X10 (j23_s0) (0 : Int32)) = ((-1000000002), zi_X10) := rf_start1 hfar
          rw [hf_7] at er_7 hR_7
          have er_7 : r_7 = (-1000000002) := er_7
          have hR_7 : Rel t_7 zi_X10 := hR_7
          clear hf_7
          have hP : va_P D vwCl (zTr cA g t_7) H := hP
          have hD : va_D A (zTr cA g t_7) := hD
          refine W.widen (k := 80) (n := 460) (by omega) (by omega) ?_
          refine lv_ldc hx hb hown (hts (.constant RL 198 (-1000000002)) (List.mem_of_getElem? (i := 4) rfl)) dL_refused_64 ?_
          refine lv_icmp_ne (tgt := 367) hx hb dL_refused_66 (by decide) (fun c_8 => ?_) (fun c_8 => ?_)
          · skip
            -- bad leaf 3
            rw [er_7] at c_8
            exact (c_8 rfl).elim
          · skip
            refine lv_aload_n hx hb dL_refused_69 rfl (lv_at hl 1 rfl) ?_
            refine lv_iconst (v := 0) hx hb dL_refused_70 (by decide) ?_
            refine lv_iload_n hx hb dL_refused_71 rfl (lv_at hl 0 rfl) ?_
            refine z_Hp (wr := []) (wt := fun u => zTr cA g u) (va_runV (As := [.int (0 : Int32), .int j23_s0]) (rest := []) ⟨hx, hb, hml, hown, hts⟩ (d_X9_start l D cA g H.size (0 : Int32) (j23_s0) hR_7) (cwV 2 hts gL_refused_X9_start rfl rfl rfl (by decide +kernel) ⟨Nat.le_of_ble_eq_true rfl, Nat.le_of_ble_eq_true rfl⟩) (zqV (wr := []) (wc := zTr cA g t_7) hK hP hD hS hA hE (List.Perm.refl _) 0 rfl rfl) rfl rfl hl.1 rfl (lv_room (Nat.le_of_ble_eq_true rfl)) dL_refused_72 ⟨Nat.le_of_ble_eq_true rfl, Nat.le_of_ble_eq_true rfl⟩) hP hD hS hA (List.Perm.refl _) (fun u => List.Perm.refl _) (fun r_9 t_9 H locs hp_9 hP hD hS => ?_)
            obtain ⟨er_9, hR_9⟩ := hp_9
            have hf_9 : (fm_start (pmN zi_X10) zi_X10 (0 : Int32) (j23_s0)) = ((-1000000002), zi_X10) := rf_start2 hfar
            rw [hf_9] at er_9 hR_9
            have er_9 : r_9 = (-1000000002) := er_9
            have hR_9 : Rel t_9 zi_X10 := hR_9
            clear hf_9
            have hP : va_P D vwCl (zTr cA g t_9) H := hP
            have hD : va_D A (zTr cA g t_9) := hD
            refine W.widen (k := 100) (n := 575) (by omega) (by omega) ?_
            refine lv_ldc hx hb hown (hts (.constant RL 198 (-1000000002)) (List.mem_of_getElem? (i := 4) rfl)) dL_refused_75 ?_
            refine lv_icmp_ne (tgt := 367) hx hb dL_refused_77 (by decide) (fun c_10 => ?_) (fun c_10 => ?_)
            · skip
              -- bad leaf 4
              rw [er_9] at c_10
              exact (c_10 rfl).elim
            · skip
              refine lv_aload_n hx hb dL_refused_80 rfl (lv_at hl 1 rfl) ?_
              refine lv_iload_n hx hb dL_refused_81 rfl (lv_at hl 0 rfl) ?_
              refine z_Hp (wr := []) (wt := fun u => zTr cA g u) (va_runV (As := [.int j23_s0]) (rest := []) ⟨hx, hb, hml, hown, hts⟩ (d_X9_place l D cA g H.size (j23_s0) hR_9) (cwV 1 hts gL_refused_X9_place rfl rfl rfl (by decide +kernel) ⟨Nat.le_of_ble_eq_true rfl, Nat.le_of_ble_eq_true rfl⟩) (zqV (wr := []) (wc := zTr cA g t_9) hK hP hD hS hA hE (List.Perm.refl _) 0 rfl rfl) rfl rfl hl.1 rfl (lv_room (Nat.le_of_ble_eq_true rfl)) dL_refused_82 ⟨Nat.le_of_ble_eq_true rfl, Nat.le_of_ble_eq_true rfl⟩) hP hD hS hA (List.Perm.refl _) (fun u => List.Perm.refl _) (fun r_11 t_11 H locs hp_11 hP hD hS => ?_)
              obtain ⟨er_11, hR_11⟩ := hp_11
              have hf_11 : (fm_place (pmN zi_X10) zi_X10 (j23_s0)) = ((-2), zi_X10) := rf_place hfar
              rw [hf_11] at er_11 hR_11
              have er_11 : r_11 = (-2) := er_11
              have hR_11 : Rel t_11 zi_X10 := hR_11
              clear hf_11
              have hP : va_P D vwCl (zTr cA g t_11) H := hP
              have hD : va_D A (zTr cA g t_11) := hD
              refine W.widen (k := 120) (n := 690) (by omega) (by omega) ?_
              refine lv_bipush (v := -2) hx hb dL_refused_85 (by decide) ?_
              refine lv_icmp_ne (tgt := 367) hx hb dL_refused_87 (by decide) (fun c_12 => ?_) (fun c_12 => ?_)
              · skip
                -- bad leaf 5
                rw [er_11] at c_12
                exact (c_12 rfl).elim
              · skip
                refine lv_aload_n hx hb dL_refused_90 rfl (lv_at hl 1 rfl) ?_
                refine lv_iload_n hx hb dL_refused_91 rfl (lv_at hl 0 rfl) ?_
                refine z_Hp (wr := []) (wt := fun u => zTr cA g u) (va_runV (As := [.int j23_s0]) (rest := []) ⟨hx, hb, hml, hown, hts⟩ (d_X9_line l D cA g H.size (j23_s0) hR_11) (cwV 1 hts gL_refused_X9_line rfl rfl rfl (by decide +kernel) ⟨Nat.le_of_ble_eq_true rfl, Nat.le_of_ble_eq_true rfl⟩) (zqV (wr := []) (wc := zTr cA g t_11) hK hP hD hS hA hE (List.Perm.refl _) 0 rfl rfl) rfl rfl hl.1 rfl (lv_room (Nat.le_of_ble_eq_true rfl)) dL_refused_92 ⟨Nat.le_of_ble_eq_true rfl, Nat.le_of_ble_eq_true rfl⟩) hP hD hS hA (List.Perm.refl _) (fun u => List.Perm.refl _) (fun r_13 t_13 H locs hp_13 hP hD hS => ?_)
                obtain ⟨er_13, hR_13⟩ := hp_13
                have hf_13 : (fm_line (pmN zi_X10) (nT (zi_X10.1 19)) zi_X10 (j23_s0)) = ((-2), zi_X10) := rf_line hfar
                rw [hf_13] at er_13 hR_13
                have er_13 : r_13 = (-2) := er_13
                have hR_13 : Rel t_13 zi_X10 := hR_13
                clear hf_13
                have hP : va_P D vwCl (zTr cA g t_13) H := hP
                have hD : va_D A (zTr cA g t_13) := hD
                refine W.widen (k := 140) (n := 805) (by omega) (by omega) ?_
                refine lv_bipush (v := -2) hx hb dL_refused_95 (by decide) ?_
                refine lv_icmp_ne (tgt := 367) hx hb dL_refused_97 (by decide) (fun c_14 => ?_) (fun c_14 => ?_)
                · skip
                  -- bad leaf 6
                  rw [er_13] at c_14
                  exact (c_14 rfl).elim
                · skip
                  refine lv_aload_n hx hb dL_refused_100 rfl (lv_at hl 1 rfl) ?_
                  refine lv_iload_n hx hb dL_refused_101 rfl (lv_at hl 0 rfl) ?_
                  refine lv_iconst (v := 0) hx hb dL_refused_102 (by decide) ?_
                  refine z_Hp (wr := []) (wt := fun u => zTr cA g u) (va_runV (As := [.int j23_s0, .int (0 : Int32)]) (rest := []) ⟨hx, hb, hml, hown, hts⟩ (d_X9_steer l D cA g H.size (j23_s0) (0 : Int32) hR_13) (cwV 2 hts gL_refused_X9_steer rfl rfl rfl (by decide +kernel) ⟨Nat.le_of_ble_eq_true rfl, Nat.le_of_ble_eq_true rfl⟩) (zqV (wr := []) (wc := zTr cA g t_13) hK hP hD hS hA hE (List.Perm.refl _) 0 rfl rfl) rfl rfl hl.1 rfl (lv_room (Nat.le_of_ble_eq_true rfl)) dL_refused_103 ⟨Nat.le_of_ble_eq_true rfl, Nat.le_of_ble_eq_true rfl⟩) hP hD hS hA (List.Perm.refl _) (fun u => List.Perm.refl _) (fun r_15 t_15 H locs hp_15 hP hD hS => ?_)
                  obtain ⟨er_15, hR_15⟩ := hp_15
                  have hf_15 : (fm_steer (pmN zi_X10) zi_X10 (j23_s0) (0 : Int32)) = ((-2), zi_X10) := rf_steer1 hfar
                  rw [hf_15] at er_15 hR_15
                  have er_15 : r_15 = (-2) := er_15
                  have hR_15 : Rel t_15 zi_X10 := hR_15
                  clear hf_15
                  have hP : va_P D vwCl (zTr cA g t_15) H := hP
                  have hD : va_D A (zTr cA g t_15) := hD
                  refine W.widen (k := 160) (n := 920) (by omega) (by omega) ?_
                  refine lv_bipush (v := -2) hx hb dL_refused_106 (by decide) ?_
                  refine lv_icmp_ne (tgt := 367) hx hb dL_refused_108 (by decide) (fun c_16 => ?_) (fun c_16 => ?_)
                  · skip
                    -- bad leaf 7
                    rw [er_15] at c_16
                    exact (c_16 rfl).elim
                  · skip
                    refine lv_aload_n hx hb dL_refused_111 rfl (lv_at hl 1 rfl) ?_
                    refine lv_iconst (v := 0) hx hb dL_refused_112 (by decide) ?_
                    refine lv_iload_n hx hb dL_refused_113 rfl (lv_at hl 0 rfl) ?_
                    refine z_Hp (wr := []) (wt := fun u => zTr cA g u) (va_runV (As := [.int (0 : Int32), .int j23_s0]) (rest := []) ⟨hx, hb, hml, hown, hts⟩ (d_X9_steer l D cA g H.size (0 : Int32) (j23_s0) hR_15) (cwV 2 hts gL_refused_X9_steer rfl rfl rfl (by decide +kernel) ⟨Nat.le_of_ble_eq_true rfl, Nat.le_of_ble_eq_true rfl⟩) (zqV (wr := []) (wc := zTr cA g t_15) hK hP hD hS hA hE (List.Perm.refl _) 0 rfl rfl) rfl rfl hl.1 rfl (lv_room (Nat.le_of_ble_eq_true rfl)) dL_refused_114 ⟨Nat.le_of_ble_eq_true rfl, Nat.le_of_ble_eq_true rfl⟩) hP hD hS hA (List.Perm.refl _) (fun u => List.Perm.refl _) (fun r_17 t_17 H locs hp_17 hP hD hS => ?_)
                    obtain ⟨er_17, hR_17⟩ := hp_17
                    have hf_17 : (fm_steer (pmN zi_X10) zi_X10 (0 : Int32) (j23_s0)) = ((-2), zi_X10) := rf_steer2 hfar
                    rw [hf_17] at er_17 hR_17
                    have er_17 : r_17 = (-2) := er_17
                    have hR_17 : Rel t_17 zi_X10 := hR_17
                    clear hf_17
                    have hP : va_P D vwCl (zTr cA g t_17) H := hP
                    have hD : va_D A (zTr cA g t_17) := hD
                    refine W.widen (k := 180) (n := 1035) (by omega) (by omega) ?_
                    refine lv_bipush (v := -2) hx hb dL_refused_117 (by decide) ?_
                    refine lv_icmp_ne (tgt := 367) hx hb dL_refused_119 (by decide) (fun c_18 => ?_) (fun c_18 => ?_)
                    · skip
                      -- bad leaf 8
                      rw [er_17] at c_18
                      exact (c_18 rfl).elim
                    · skip
                      refine lv_aload_n hx hb dL_refused_122 rfl (lv_at hl 1 rfl) ?_
                      refine lv_iload_n hx hb dL_refused_123 rfl (lv_at hl 0 rfl) ?_
                      refine lv_iconst (v := 0) hx hb dL_refused_124 (by decide) ?_
                      refine lv_iconst (v := 1) hx hb dL_refused_125 (by decide) ?_
                      refine z_Hp (wr := []) (wt := fun u => zTr cA g u) (va_runV (As := [.int j23_s0, .int (0 : Int32), .int (1 : Int32)]) (rest := []) ⟨hx, hb, hml, hown, hts⟩ (d_X9_leg l D cA g H.size (j23_s0) (0 : Int32) (1 : Int32) hR_17) (cwV 3 hts gL_refused_X9_leg rfl rfl rfl (by decide +kernel) ⟨Nat.le_of_ble_eq_true rfl, Nat.le_of_ble_eq_true rfl⟩) (zqV (wr := []) (wc := zTr cA g t_17) hK hP hD hS hA hE (List.Perm.refl _) 0 rfl rfl) rfl rfl hl.1 rfl (lv_room (Nat.le_of_ble_eq_true rfl)) dL_refused_126 ⟨Nat.le_of_ble_eq_true rfl, Nat.le_of_ble_eq_true rfl⟩) hP hD hS hA (List.Perm.refl _) (fun u => List.Perm.refl _) (fun r_19 t_19 H locs hp_19 hP hD hS => ?_)
                      obtain ⟨er_19, hR_19⟩ := hp_19
                      have hf_19 : (fm_leg (pmN zi_X10) (nT (zi_X10.1 3)) zi_X10 (j23_s0) (0 : Int32) (1 : Int32)) = ((-2), zi_X10) := rf_leg1 hfar
                      rw [hf_19] at er_19 hR_19
                      have er_19 : r_19 = (-2) := er_19
                      have hR_19 : Rel t_19 zi_X10 := hR_19
                      clear hf_19
                      have hP : va_P D vwCl (zTr cA g t_19) H := hP
                      have hD : va_D A (zTr cA g t_19) := hD
                      refine W.widen (k := 200) (n := 1150) (by omega) (by omega) ?_
                      refine lv_bipush (v := -2) hx hb dL_refused_129 (by decide) ?_
                      refine lv_icmp_ne (tgt := 367) hx hb dL_refused_131 (by decide) (fun c_20 => ?_) (fun c_20 => ?_)
                      · skip
                        -- bad leaf 9
                        rw [er_19] at c_20
                        exact (c_20 rfl).elim
                      · skip
                        refine lv_aload_n hx hb dL_refused_134 rfl (lv_at hl 1 rfl) ?_
                        refine lv_iconst (v := 0) hx hb dL_refused_135 (by decide) ?_
                        refine lv_iload_n hx hb dL_refused_136 rfl (lv_at hl 0 rfl) ?_
                        refine lv_iconst (v := 1) hx hb dL_refused_137 (by decide) ?_
                        refine z_Hp (wr := []) (wt := fun u => zTr cA g u) (va_runV (As := [.int (0 : Int32), .int j23_s0, .int (1 : Int32)]) (rest := []) ⟨hx, hb, hml, hown, hts⟩ (d_X9_leg l D cA g H.size (0 : Int32) (j23_s0) (1 : Int32) hR_19) (cwV 3 hts gL_refused_X9_leg rfl rfl rfl (by decide +kernel) ⟨Nat.le_of_ble_eq_true rfl, Nat.le_of_ble_eq_true rfl⟩) (zqV (wr := []) (wc := zTr cA g t_19) hK hP hD hS hA hE (List.Perm.refl _) 0 rfl rfl) rfl rfl hl.1 rfl (lv_room (Nat.le_of_ble_eq_true rfl)) dL_refused_138 ⟨Nat.le_of_ble_eq_true rfl, Nat.le_of_ble_eq_true rfl⟩) hP hD hS hA (List.Perm.refl _) (fun u => List.Perm.refl _) (fun r_21 t_21 H locs hp_21 hP hD hS => ?_)
                        obtain ⟨er_21, hR_21⟩ := hp_21
                        have hf_21 : (fm_leg (pmN zi_X10) (nT (zi_X10.1 3)) zi_X10 (0 : Int32) (j23_s0) (1 : Int32)) = ((-2), zi_X10) := rf_leg2 hfar
                        rw [hf_21] at er_21 hR_21
                        have er_21 : r_21 = (-2) := er_21
                        have hR_21 : Rel t_21 zi_X10 := hR_21
                        clear hf_21
                        have hP : va_P D vwCl (zTr cA g t_21) H := hP
                        have hD : va_D A (zTr cA g t_21) := hD
                        refine W.widen (k := 220) (n := 1265) (by omega) (by omega) ?_
                        refine lv_bipush (v := -2) hx hb dL_refused_141 (by decide) ?_
                        refine lv_icmp_ne (tgt := 367) hx hb dL_refused_143 (by decide) (fun c_22 => ?_) (fun c_22 => ?_)
                        · skip
                          -- bad leaf 10
                          rw [er_21] at c_22
                          exact (c_22 rfl).elim
                        · skip
                          refine lv_aload_n hx hb dL_refused_146 rfl (lv_at hl 1 rfl) ?_
                          refine lv_iconst (v := 0) hx hb dL_refused_147 (by decide) ?_
                          refine lv_iconst (v := 0) hx hb dL_refused_148 (by decide) ?_
                          refine lv_iload_n hx hb dL_refused_149 rfl (lv_at hl 0 rfl) ?_
                          refine z_Hp (wr := []) (wt := fun u => zTr cA g u) (va_runV (As := [.int (0 : Int32), .int (0 : Int32), .int j23_s0]) (rest := []) ⟨hx, hb, hml, hown, hts⟩ (d_X9_leg l D cA g H.size (0 : Int32) (0 : Int32) (j23_s0) hR_21) (cwV 3 hts gL_refused_X9_leg rfl rfl rfl (by decide +kernel) ⟨Nat.le_of_ble_eq_true rfl, Nat.le_of_ble_eq_true rfl⟩) (zqV (wr := []) (wc := zTr cA g t_21) hK hP hD hS hA hE (List.Perm.refl _) 0 rfl rfl) rfl rfl hl.1 rfl (lv_room (Nat.le_of_ble_eq_true rfl)) dL_refused_150 ⟨Nat.le_of_ble_eq_true rfl, Nat.le_of_ble_eq_true rfl⟩) hP hD hS hA (List.Perm.refl _) (fun u => List.Perm.refl _) (fun r_23 t_23 H locs hp_23 hP hD hS => ?_)
                          obtain ⟨er_23, hR_23⟩ := hp_23
                          have hf_23 : (fm_leg (pmN zi_X10) (nT (zi_X10.1 3)) zi_X10 (0 : Int32) (0 : Int32) (j23_s0)) = ((-2), zi_X10) := rf_leg3 hfar
                          rw [hf_23] at er_23 hR_23
                          have er_23 : r_23 = (-2) := er_23
                          have hR_23 : Rel t_23 zi_X10 := hR_23
                          clear hf_23
                          have hP : va_P D vwCl (zTr cA g t_23) H := hP
                          have hD : va_D A (zTr cA g t_23) := hD
                          refine W.widen (k := 240) (n := 1380) (by omega) (by omega) ?_
                          refine lv_bipush (v := -2) hx hb dL_refused_153 (by decide) ?_
                          refine lv_icmp_ne (tgt := 367) hx hb dL_refused_155 (by decide) (fun c_24 => ?_) (fun c_24 => ?_)
                          · skip
                            -- bad leaf 11
                            rw [er_23] at c_24
                            exact (c_24 rfl).elim
                          · skip
                            refine lv_aload_n hx hb dL_refused_158 rfl (lv_at hl 1 rfl) ?_
                            refine lv_iload_n hx hb dL_refused_159 rfl (lv_at hl 0 rfl) ?_
                            refine z_Hp (wr := []) (wt := fun u => zTr cA g u) (va_runV (As := [.int j23_s0]) (rest := []) ⟨hx, hb, hml, hown, hts⟩ (d_X9_pass l D cA g H.size (j23_s0) hR_23) (cwV 1 hts gL_refused_X9_pass rfl rfl rfl (by decide +kernel) ⟨Nat.le_of_ble_eq_true rfl, Nat.le_of_ble_eq_true rfl⟩) (zqV (wr := []) (wc := zTr cA g t_23) hK hP hD hS hA hE (List.Perm.refl _) 0 rfl rfl) rfl rfl hl.1 rfl (lv_room (Nat.le_of_ble_eq_true rfl)) dL_refused_160 ⟨Nat.le_of_ble_eq_true rfl, Nat.le_of_ble_eq_true rfl⟩) hP hD hS hA (List.Perm.refl _) (fun u => List.Perm.refl _) (fun r_25 t_25 H locs hp_25 hP hD hS => ?_)
                            obtain ⟨er_25, hR_25⟩ := hp_25
                            have hf_25 : (fm_pass (pmN zi_X10) zi_X10 (j23_s0)) = ((-2), zi_X10) := rf_pass hfar
                            rw [hf_25] at er_25 hR_25
                            have er_25 : r_25 = (-2) := er_25
                            have hR_25 : Rel t_25 zi_X10 := hR_25
                            clear hf_25
                            have hP : va_P D vwCl (zTr cA g t_25) H := hP
                            have hD : va_D A (zTr cA g t_25) := hD
                            refine W.widen (k := 260) (n := 1495) (by omega) (by omega) ?_
                            refine lv_bipush (v := -2) hx hb dL_refused_163 (by decide) ?_
                            refine lv_icmp_ne (tgt := 367) hx hb dL_refused_165 (by decide) (fun c_26 => ?_) (fun c_26 => ?_)
                            · skip
                              -- bad leaf 12
                              rw [er_25] at c_26
                              exact (c_26 rfl).elim
                            · skip
                              refine lv_aload_n hx hb dL_refused_168 rfl (lv_at hl 1 rfl) ?_
                              refine lv_iload_n hx hb dL_refused_169 rfl (lv_at hl 0 rfl) ?_
                              refine z_Hp (wr := []) (wt := fun u => zTr cA g u) (va_runV (As := [.int j23_s0]) (rest := []) ⟨hx, hb, hml, hown, hts⟩ (d_X9_damp l D cA g H.size (j23_s0) hR_25) (cwV 1 hts gL_refused_X9_damp rfl rfl rfl (by decide +kernel) ⟨Nat.le_of_ble_eq_true rfl, Nat.le_of_ble_eq_true rfl⟩) (zqV (wr := []) (wc := zTr cA g t_25) hK hP hD hS hA hE (List.Perm.refl _) 0 rfl rfl) rfl rfl hl.1 rfl (lv_room (Nat.le_of_ble_eq_true rfl)) dL_refused_170 ⟨Nat.le_of_ble_eq_true rfl, Nat.le_of_ble_eq_true rfl⟩) hP hD hS hA (List.Perm.refl _) (fun u => List.Perm.refl _) (fun r_27 t_27 H locs hp_27 hP hD hS => ?_)
                              obtain ⟨er_27, hR_27⟩ := hp_27
                              have hf_27 : (fm_damp (pmN zi_X10) zi_X10 (j23_s0)) = ((-2), zi_X10) := rf_damp hfar
                              rw [hf_27] at er_27 hR_27
                              have er_27 : r_27 = (-2) := er_27
                              have hR_27 : Rel t_27 zi_X10 := hR_27
                              clear hf_27
                              have hP : va_P D vwCl (zTr cA g t_27) H := hP
                              have hD : va_D A (zTr cA g t_27) := hD
                              refine W.widen (k := 280) (n := 1610) (by omega) (by omega) ?_
                              refine lv_bipush (v := -2) hx hb dL_refused_173 (by decide) ?_
                              refine lv_icmp_ne (tgt := 367) hx hb dL_refused_175 (by decide) (fun c_28 => ?_) (fun c_28 => ?_)
                              · skip
                                -- bad leaf 13
                                rw [er_27] at c_28
                                exact (c_28 rfl).elim
                              · skip
                                refine lv_aload_n hx hb dL_refused_178 rfl (lv_at hl 1 rfl) ?_
                                refine lv_iload_n hx hb dL_refused_179 rfl (lv_at hl 0 rfl) ?_
                                refine lv_iconst (v := 0) hx hb dL_refused_180 (by decide) ?_
                                refine z_Hp (wr := []) (wt := fun u => zTr cA g u) (va_runV (As := [.int j23_s0, .int (0 : Int32)]) (rest := []) ⟨hx, hb, hml, hown, hts⟩ (d_X9_correct l D cA g H.size (j23_s0) (0 : Int32) hR_27) (cwV 2 hts gL_refused_X9_correct rfl rfl rfl (by decide +kernel) ⟨Nat.le_of_ble_eq_true rfl, Nat.le_of_ble_eq_true rfl⟩) (zqV (wr := []) (wc := zTr cA g t_27) hK hP hD hS hA hE (List.Perm.refl _) 0 rfl rfl) rfl rfl hl.1 rfl (lv_room (Nat.le_of_ble_eq_true rfl)) dL_refused_181 ⟨Nat.le_of_ble_eq_true rfl, Nat.le_of_ble_eq_true rfl⟩) hP hD hS hA (List.Perm.refl _) (fun u => List.Perm.refl _) (fun r_29 t_29 H locs hp_29 hP hD hS => ?_)
                                obtain ⟨er_29, hR_29⟩ := hp_29
                                have hf_29 : (fm_correct (pmN zi_X10) zi_X10 (j23_s0) (0 : Int32)) = ((-2), zi_X10) := rf_corr1 hfar
                                rw [hf_29] at er_29 hR_29
                                have er_29 : r_29 = (-2) := er_29
                                have hR_29 : Rel t_29 zi_X10 := hR_29
                                clear hf_29
                                have hP : va_P D vwCl (zTr cA g t_29) H := hP
                                have hD : va_D A (zTr cA g t_29) := hD
                                refine W.widen (k := 300) (n := 1725) (by omega) (by omega) ?_
                                refine lv_bipush (v := -2) hx hb dL_refused_184 (by decide) ?_
                                refine lv_icmp_ne (tgt := 367) hx hb dL_refused_186 (by decide) (fun c_30 => ?_) (fun c_30 => ?_)
                                · skip
                                  -- bad leaf 14
                                  rw [er_29] at c_30
                                  exact (c_30 rfl).elim
                                · skip
                                  refine lv_aload_n hx hb dL_refused_189 rfl (lv_at hl 1 rfl) ?_
                                  refine lv_iconst (v := 0) hx hb dL_refused_190 (by decide) ?_
                                  refine lv_iload_n hx hb dL_refused_191 rfl (lv_at hl 0 rfl) ?_
                                  refine z_Hp (wr := []) (wt := fun u => zTr cA g u) (va_runV (As := [.int (0 : Int32), .int j23_s0]) (rest := []) ⟨hx, hb, hml, hown, hts⟩ (d_X9_correct l D cA g H.size (0 : Int32) (j23_s0) hR_29) (cwV 2 hts gL_refused_X9_correct rfl rfl rfl (by decide +kernel) ⟨Nat.le_of_ble_eq_true rfl, Nat.le_of_ble_eq_true rfl⟩) (zqV (wr := []) (wc := zTr cA g t_29) hK hP hD hS hA hE (List.Perm.refl _) 0 rfl rfl) rfl rfl hl.1 rfl (lv_room (Nat.le_of_ble_eq_true rfl)) dL_refused_192 ⟨Nat.le_of_ble_eq_true rfl, Nat.le_of_ble_eq_true rfl⟩) hP hD hS hA (List.Perm.refl _) (fun u => List.Perm.refl _) (fun r_31 t_31 H locs hp_31 hP hD hS => ?_)
                                  obtain ⟨er_31, hR_31⟩ := hp_31
                                  have hf_31 : (fm_correct (pmN zi_X10) zi_X10 (0 : Int32) (j23_s0)) = ((-2), zi_X10) := rf_corr2 hfar
                                  rw [hf_31] at er_31 hR_31
                                  have er_31 : r_31 = (-2) := er_31
                                  have hR_31 : Rel t_31 zi_X10 := hR_31
                                  clear hf_31
                                  have hP : va_P D vwCl (zTr cA g t_31) H := hP
                                  have hD : va_D A (zTr cA g t_31) := hD
                                  refine W.widen (k := 320) (n := 1840) (by omega) (by omega) ?_
                                  refine lv_bipush (v := -2) hx hb dL_refused_195 (by decide) ?_
                                  refine lv_icmp_ne (tgt := 367) hx hb dL_refused_197 (by decide) (fun c_32 => ?_) (fun c_32 => ?_)
                                  · skip
                                    -- bad leaf 15
                                    rw [er_31] at c_32
                                    exact (c_32 rfl).elim
                                  · skip
                                    refine lv_aload_n hx hb dL_refused_200 rfl (lv_at hl 1 rfl) ?_
                                    refine lv_iload_n hx hb dL_refused_201 rfl (lv_at hl 0 rfl) ?_
                                    refine z_Hp (wr := []) (wt := fun u => zTr cA g u) (va_runV (As := [.int j23_s0]) (rest := []) ⟨hx, hb, hml, hown, hts⟩ (d_X9_observe l D cA g H.size (j23_s0) hR_31) (cwV 1 hts gL_refused_X9_observe rfl rfl rfl (by decide +kernel) ⟨Nat.le_of_ble_eq_true rfl, Nat.le_of_ble_eq_true rfl⟩) (zqV (wr := []) (wc := zTr cA g t_31) hK hP hD hS hA hE (List.Perm.refl _) 0 rfl rfl) rfl rfl hl.1 rfl (lv_room (Nat.le_of_ble_eq_true rfl)) dL_refused_202 ⟨Nat.le_of_ble_eq_true rfl, Nat.le_of_ble_eq_true rfl⟩) hP hD hS hA (List.Perm.refl _) (fun u => List.Perm.refl _) (fun r_33 t_33 H locs hp_33 hP hD hS => ?_)
                                    obtain ⟨er_33, hR_33⟩ := hp_33
                                    have hf_33 : (fm_obs (pmN zi_X10) (nT (zi_X10.1 15)) zi_X10 (j23_s0)) = ((-1), zi_X10) := rf_obs hfar (by decide)
                                    rw [hf_33] at er_33 hR_33
                                    have er_33 : r_33 = (-1) := er_33
                                    have hR_33 : Rel t_33 zi_X10 := hR_33
                                    clear hf_33
                                    have hP : va_P D vwCl (zTr cA g t_33) H := hP
                                    have hD : va_D A (zTr cA g t_33) := hD
                                    refine W.widen (k := 340) (n := 1955) (by omega) (by omega) ?_
                                    refine lv_iconst (v := -1) hx hb dL_refused_205 (by decide) ?_
                                    refine lv_icmp_ne (tgt := 367) hx hb dL_refused_206 (by decide) (fun c_34 => ?_) (fun c_34 => ?_)
                                    · skip
                                      -- bad leaf 16
                                      rw [er_33] at c_34
                                      exact (c_34 rfl).elim
                                    · skip
                                      refine lv_aload_n hx hb dL_refused_209 rfl (lv_at hl 1 rfl) ?_
                                      refine lv_iload_n hx hb dL_refused_210 rfl (lv_at hl 0 rfl) ?_
                                      refine z_Hp (wr := []) (wt := fun u => zTr cA g u) (va_runV (As := [.int j23_s0]) (rest := []) ⟨hx, hb, hml, hown, hts⟩ (d_X9_guess l D cA g H.size (j23_s0) hR_33) (cwV 1 hts gL_refused_X9_guess rfl rfl rfl (by decide +kernel) ⟨Nat.le_of_ble_eq_true rfl, Nat.le_of_ble_eq_true rfl⟩) (zqV (wr := []) (wc := zTr cA g t_33) hK hP hD hS hA hE (List.Perm.refl _) 0 rfl rfl) rfl rfl hl.1 rfl (lv_room (Nat.le_of_ble_eq_true rfl)) dL_refused_211 ⟨Nat.le_of_ble_eq_true rfl, Nat.le_of_ble_eq_true rfl⟩) hP hD hS hA (List.Perm.refl _) (fun u => List.Perm.refl _) (fun r_35 t_35 H locs hp_35 hP hD hS => ?_)
                                      obtain ⟨er_35, hR_35⟩ := hp_35
                                      have hf_35 : (fm_guess (pmN zi_X10) zi_X10 (j23_s0)) = ((-2), zi_X10) := rf_guess hfar
                                      rw [hf_35] at er_35 hR_35
                                      have er_35 : r_35 = (-2) := er_35
                                      have hR_35 : Rel t_35 zi_X10 := hR_35
                                      clear hf_35
                                      have hP : va_P D vwCl (zTr cA g t_35) H := hP
                                      have hD : va_D A (zTr cA g t_35) := hD
                                      refine W.widen (k := 360) (n := 2070) (by omega) (by omega) ?_
                                      refine lv_bipush (v := -2) hx hb dL_refused_214 (by decide) ?_
                                      refine lv_icmp_ne (tgt := 367) hx hb dL_refused_216 (by decide) (fun c_36 => ?_) (fun c_36 => ?_)
                                      · skip
                                        -- bad leaf 17
                                        rw [er_35] at c_36
                                        exact (c_36 rfl).elim
                                      · skip
                                        refine lv_aload_n hx hb dL_refused_219 rfl (lv_at hl 1 rfl) ?_
                                        refine lv_iload_n hx hb dL_refused_220 rfl (lv_at hl 0 rfl) ?_
                                        refine z_Ri (va_runV (As := [.int j23_s0]) (rest := []) ⟨hx, hb, hml, hown, hts⟩ (d_X9_compass l D cA g (j23_s0) hR_35) (cwV 1 hts gL_refused_X9_compass rfl rfl rfl (by decide +kernel) ⟨Nat.le_of_ble_eq_true rfl, Nat.le_of_ble_eq_true rfl⟩) (zqVR (wr := []) (wc := zTr cA g t_35) hK hP hN (List.Perm.refl _) 0 rfl rfl) rfl rfl hl.1 rfl (lv_room (Nat.le_of_ble_eq_true rfl)) dL_refused_221 ⟨Nat.le_of_ble_eq_true rfl, Nat.le_of_ble_eq_true rfl⟩) ?_
                                        refine lv_topi (fun v_37 ev_37 => ?_)
                                        refine lv_ldc hx hb hown (hts (.constant RL 198 (-1000000002)) (List.mem_of_getElem? (i := 4) rfl)) dL_refused_224 ?_
                                        refine lv_icmp_ne (tgt := 367) hx hb dL_refused_226 (by decide) (fun c_38 => ?_) (fun c_38 => ?_)
                                        · skip
                                          -- bad leaf 18
                                          rw [ev_37] at c_38
                                          exact (c_38 (rf_compass hfar)).elim
                                        · skip
                                          refine lv_aload_n hx hb dL_refused_229 rfl (lv_at hl 1 rfl) ?_
                                          refine lv_iload_n hx hb dL_refused_230 rfl (lv_at hl 0 rfl) ?_
                                          refine lv_iconst (v := 0) hx hb dL_refused_231 (by decide) ?_
                                          refine z_Ri (va_runV (As := [.int j23_s0, .int (0 : Int32)]) (rest := []) ⟨hx, hb, hml, hown, hts⟩ (d_X9_turn l D cA g (j23_s0) (0 : Int32) hR_35) (cwV 2 hts gL_refused_X9_turn rfl rfl rfl (by decide +kernel) ⟨Nat.le_of_ble_eq_true rfl, Nat.le_of_ble_eq_true rfl⟩) (zqVR (wr := []) (wc := zTr cA g t_35) hK hP hN (List.Perm.refl _) 0 rfl rfl) rfl rfl hl.1 rfl (lv_room (Nat.le_of_ble_eq_true rfl)) dL_refused_232 ⟨Nat.le_of_ble_eq_true rfl, Nat.le_of_ble_eq_true rfl⟩) ?_
                                          refine lv_topi (fun v_39 ev_39 => ?_)
                                          refine lv_ldc hx hb hown (hts (.constant RL 144 (-1000000001)) (List.mem_of_getElem? (i := 5) rfl)) dL_refused_235 ?_
                                          refine lv_icmp_ne (tgt := 367) hx hb dL_refused_237 (by decide) (fun c_40 => ?_) (fun c_40 => ?_)
                                          · skip
                                            -- bad leaf 19
                                            rw [ev_39] at c_40
                                            exact (c_40 (rf_turn hfar (by decide))).elim
                                          · skip
                                            refine lv_aload_n hx hb dL_refused_240 rfl (lv_at hl 1 rfl) ?_
                                            refine lv_iload_n hx hb dL_refused_241 rfl (lv_at hl 0 rfl) ?_
                                            refine z_Ri (va_runV (As := [.int j23_s0]) (rest := []) ⟨hx, hb, hml, hown, hts⟩ (d_X9_check l D cA g (j23_s0) hR_35) (cwV 1 hts gL_refused_X9_check rfl rfl rfl (by decide +kernel) ⟨Nat.le_of_ble_eq_true rfl, Nat.le_of_ble_eq_true rfl⟩) (zqVR (wr := []) (wc := zTr cA g t_35) hK hP hN (List.Perm.refl _) 0 rfl rfl) rfl rfl hl.1 rfl (lv_room (Nat.le_of_ble_eq_true rfl)) dL_refused_242 ⟨Nat.le_of_ble_eq_true rfl, Nat.le_of_ble_eq_true rfl⟩) ?_
                                            refine lv_topi (fun v_41 ev_41 => ?_)
                                            refine lv_ldc hx hb hown (hts (.constant RL 144 (-1000000001)) (List.mem_of_getElem? (i := 5) rfl)) dL_refused_245 ?_
                                            refine lv_icmp_ne (tgt := 367) hx hb dL_refused_247 (by decide) (fun c_42 => ?_) (fun c_42 => ?_)
                                            · skip
                                              -- bad leaf 20
                                              rw [ev_41] at c_42
                                              exact (c_42 (rf_check hfar (by decide))).elim
                                            · skip
                                              refine lv_aload_n hx hb dL_refused_250 rfl (lv_at hl 1 rfl) ?_
                                              refine lv_iload_n hx hb dL_refused_251 rfl (lv_at hl 0 rfl) ?_
                                              refine z_Ri (va_runV (As := [.int j23_s0]) (rest := []) ⟨hx, hb, hml, hown, hts⟩ (d_X9_state l D cA g (j23_s0) hR_35) (cwV 1 hts gL_refused_X9_state rfl rfl rfl (by decide +kernel) ⟨Nat.le_of_ble_eq_true rfl, Nat.le_of_ble_eq_true rfl⟩) (zqVR (wr := []) (wc := zTr cA g t_35) hK hP hN (List.Perm.refl _) 0 rfl rfl) rfl rfl hl.1 rfl (lv_room (Nat.le_of_ble_eq_true rfl)) dL_refused_252 ⟨Nat.le_of_ble_eq_true rfl, Nat.le_of_ble_eq_true rfl⟩) ?_
                                              refine lv_topi (fun v_43 ev_43 => ?_)
                                              refine lv_bipush (v := -2) hx hb dL_refused_255 (by decide) ?_
                                              refine lv_icmp_ne (tgt := 367) hx hb dL_refused_257 (by decide) (fun c_44 => ?_) (fun c_44 => ?_)
                                              · skip
                                                -- bad leaf 21
                                                rw [ev_43] at c_44
                                                exact (c_44 (rf_state hfar)).elim
                                              · skip
                                                refine lv_aload_n hx hb dL_refused_260 rfl (lv_at hl 1 rfl) ?_
                                                refine lv_iload_n hx hb dL_refused_261 rfl (lv_at hl 0 rfl) ?_
                                                refine lv_iconst (v := 0) hx hb dL_refused_262 (by decide) ?_
                                                refine z_Ri (va_runV (As := [.int j23_s0, .int (0 : Int32)]) (rest := []) ⟨hx, hb, hml, hown, hts⟩ (d_X9_wave l D cA g (j23_s0) (0 : Int32) hR_35) (cwV 2 hts gL_refused_X9_wave rfl rfl rfl (by decide +kernel) ⟨Nat.le_of_ble_eq_true rfl, Nat.le_of_ble_eq_true rfl⟩) (zqVR (wr := []) (wc := zTr cA g t_35) hK hP hN (List.Perm.refl _) 0 rfl rfl) rfl rfl hl.1 rfl (lv_room (Nat.le_of_ble_eq_true rfl)) dL_refused_263 ⟨Nat.le_of_ble_eq_true rfl, Nat.le_of_ble_eq_true rfl⟩) ?_
                                                refine lv_topi (fun v_45 ev_45 => ?_)
                                                refine lv_ldc hx hb hown (hts (.constant RL 198 (-1000000002)) (List.mem_of_getElem? (i := 4) rfl)) dL_refused_266 ?_
                                                refine lv_icmp_ne (tgt := 367) hx hb dL_refused_268 (by decide) (fun c_46 => ?_) (fun c_46 => ?_)
                                                · skip
                                                  -- bad leaf 22
                                                  rw [ev_45] at c_46
                                                  exact (c_46 (rf_wave hfar)).elim
                                                · skip
                                                  refine lv_aload_n hx hb dL_refused_271 rfl (lv_at hl 1 rfl) ?_
                                                  refine lv_iload_n hx hb dL_refused_272 rfl (lv_at hl 0 rfl) ?_
                                                  refine lv_iconst (v := 0) hx hb dL_refused_273 (by decide) ?_
                                                  refine lv_iconst (v := 0) hx hb dL_refused_274 (by decide) ?_
                                                  refine z_Ri (va_runV (As := [.int j23_s0, .int (0 : Int32), .int (0 : Int32)]) (rest := []) ⟨hx, hb, hml, hown, hts⟩ (d_X9_restAt l D cA g (j23_s0) (0 : Int32) (0 : Int32) hR_35) (cwV 3 hts gL_refused_X9_restAt rfl rfl rfl (by decide +kernel) ⟨Nat.le_of_ble_eq_true rfl, Nat.le_of_ble_eq_true rfl⟩) (zqVR (wr := []) (wc := zTr cA g t_35) hK hP hN (List.Perm.refl _) 0 rfl rfl) rfl rfl hl.1 rfl (lv_room (Nat.le_of_ble_eq_true rfl)) dL_refused_275 ⟨Nat.le_of_ble_eq_true rfl, Nat.le_of_ble_eq_true rfl⟩) ?_
                                                  refine lv_topi (fun v_47 ev_47 => ?_)
                                                  refine lv_ldc hx hb hown (hts (.constant RL 198 (-1000000002)) (List.mem_of_getElem? (i := 4) rfl)) dL_refused_278 ?_
                                                  refine lv_icmp_ne (tgt := 367) hx hb dL_refused_280 (by decide) (fun c_48 => ?_) (fun c_48 => ?_)
                                                  · skip
                                                    -- bad leaf 23
                                                    rw [ev_47] at c_48
                                                    exact (c_48 (rf_restAt hfar)).elim
                                                  · skip
                                                    refine lv_aload_n hx hb dL_refused_283 rfl (lv_at hl 1 rfl) ?_
                                                    refine lv_iload_n hx hb dL_refused_284 rfl (lv_at hl 0 rfl) ?_
                                                    refine lv_iconst (v := 1) hx hb dL_refused_285 (by decide) ?_
                                                    refine z_Hp (wr := []) (wt := fun u => zTr cA g u) (va_runV (As := [.int j23_s0, .int (1 : Int32)]) (rest := []) ⟨hx, hb, hml, hown, hts⟩ (d_X9_calmIn l D cA g H.size (j23_s0) (1 : Int32) hR_35) (cwV 2 hts gL_refused_X9_calmIn rfl rfl rfl (by decide +kernel) ⟨Nat.le_of_ble_eq_true rfl, Nat.le_of_ble_eq_true rfl⟩) (zqV (wr := []) (wc := zTr cA g t_35) hK hP hD hS hA hE (List.Perm.refl _) 0 rfl rfl) rfl rfl hl.1 rfl (lv_room (Nat.le_of_ble_eq_true rfl)) dL_refused_286 ⟨Nat.le_of_ble_eq_true rfl, Nat.le_of_ble_eq_true rfl⟩) hP hD hS hA (List.Perm.refl _) (fun u => List.Perm.refl _) (fun r_49 t_49 H locs hp_49 hP hD hS => ?_)
                                                    obtain ⟨er_49, hR_49⟩ := hp_49
                                                    have hf_49 : (fm_calmIn zi_X10 (j23_s0) (1 : Int32)) = ((-2), zi_X10) := rf_calm1 hfar
                                                    rw [hf_49] at er_49 hR_49
                                                    have er_49 : r_49 = (-2) := er_49
                                                    have hR_49 : Rel t_49 zi_X10 := hR_49
                                                    clear hf_49
                                                    have hP : va_P D vwCl (zTr cA g t_49) H := hP
                                                    have hD : va_D A (zTr cA g t_49) := hD
                                                    refine W.widen (k := 360) (n := 2070) (by omega) (by omega) ?_
                                                    refine lv_bipush (v := -2) hx hb dL_refused_289 (by decide) ?_
                                                    refine lv_icmp_ne (tgt := 367) hx hb dL_refused_291 (by decide) (fun c_50 => ?_) (fun c_50 => ?_)
                                                    · skip
                                                      -- bad leaf 24
                                                      rw [er_49] at c_50
                                                      exact (c_50 rfl).elim
                                                    · skip
                                                      refine lv_aload_n hx hb dL_refused_294 rfl (lv_at hl 1 rfl) ?_
                                                      refine lv_iconst (v := 0) hx hb dL_refused_295 (by decide) ?_
                                                      refine lv_iload_n hx hb dL_refused_296 rfl (lv_at hl 0 rfl) ?_
                                                      refine z_Hp (wr := []) (wt := fun u => zTr cA g u) (va_runV (As := [.int (0 : Int32), .int j23_s0]) (rest := []) ⟨hx, hb, hml, hown, hts⟩ (d_X9_calmIn l D cA g H.size (0 : Int32) (j23_s0) hR_49) (cwV 2 hts gL_refused_X9_calmIn rfl rfl rfl (by decide +kernel) ⟨Nat.le_of_ble_eq_true rfl, Nat.le_of_ble_eq_true rfl⟩) (zqV (wr := []) (wc := zTr cA g t_49) hK hP hD hS hA hE (List.Perm.refl _) 0 rfl rfl) rfl rfl hl.1 rfl (lv_room (Nat.le_of_ble_eq_true rfl)) dL_refused_297 ⟨Nat.le_of_ble_eq_true rfl, Nat.le_of_ble_eq_true rfl⟩) hP hD hS hA (List.Perm.refl _) (fun u => List.Perm.refl _) (fun r_51 t_51 H locs hp_51 hP hD hS => ?_)
                                                      obtain ⟨er_51, hR_51⟩ := hp_51
                                                      have hf_51 : (fm_calmIn zi_X10 (0 : Int32) (j23_s0)) = ((-2), zi_X10) := rf_calm2 hfar
                                                      rw [hf_51] at er_51 hR_51
                                                      have er_51 : r_51 = (-2) := er_51
                                                      have hR_51 : Rel t_51 zi_X10 := hR_51
                                                      clear hf_51
                                                      have hP : va_P D vwCl (zTr cA g t_51) H := hP
                                                      have hD : va_D A (zTr cA g t_51) := hD
                                                      refine W.widen (k := 360) (n := 2070) (by omega) (by omega) ?_
                                                      refine lv_bipush (v := -2) hx hb dL_refused_300 (by decide) ?_
                                                      refine lv_icmp_ne (tgt := 367) hx hb dL_refused_302 (by decide) (fun c_52 => ?_) (fun c_52 => ?_)
                                                      · skip
                                                        -- bad leaf 25
                                                        rw [er_51] at c_52
                                                        exact (c_52 rfl).elim
                                                      · skip
                                                        refine lv_aload_n hx hb dL_refused_305 rfl (lv_at hl 1 rfl) ?_
                                                        refine lv_iload_n hx hb dL_refused_306 rfl (lv_at hl 0 rfl) ?_
                                                        refine lv_iconst (v := 1) hx hb dL_refused_307 (by decide) ?_
                                                        refine z_Hp (wr := []) (wt := fun u => zTr cA g u) (va_runV (As := [.int j23_s0, .int (1 : Int32)]) (rest := []) ⟨hx, hb, hml, hown, hts⟩ (d_X9_bestLevel l D cA g H.size (j23_s0) (1 : Int32) hR_51) (cwV 2 hts gL_refused_X9_bestLevel rfl rfl rfl (by decide +kernel) ⟨Nat.le_of_ble_eq_true rfl, Nat.le_of_ble_eq_true rfl⟩) (zqV (wr := []) (wc := zTr cA g t_51) hK hP hD hS hA hE (List.Perm.refl _) 0 rfl rfl) rfl rfl hl.1 rfl (lv_room (Nat.le_of_ble_eq_true rfl)) dL_refused_308 ⟨Nat.le_of_ble_eq_true rfl, Nat.le_of_ble_eq_true rfl⟩) hP hD hS hA (List.Perm.refl _) (fun u => List.Perm.refl _) (fun r_53 t_53 H locs hp_53 hP hD hS => ?_)
                                                        obtain ⟨er_53, hR_53⟩ := hp_53
                                                        have hf_53 : (fm_best zi_X10 (j23_s0) (1 : Int32)) = ((-2), zi_X10) := rf_best hfar
                                                        rw [hf_53] at er_53 hR_53
                                                        have er_53 : r_53 = (-2) := er_53
                                                        have hR_53 : Rel t_53 zi_X10 := hR_53
                                                        clear hf_53
                                                        have hP : va_P D vwCl (zTr cA g t_53) H := hP
                                                        have hD : va_D A (zTr cA g t_53) := hD
                                                        refine W.widen (k := 360) (n := 2070) (by omega) (by omega) ?_
                                                        refine lv_bipush (v := -2) hx hb dL_refused_311 (by decide) ?_
                                                        refine lv_icmp_ne (tgt := 367) hx hb dL_refused_313 (by decide) (fun c_54 => ?_) (fun c_54 => ?_)
                                                        · skip
                                                          -- bad leaf 26
                                                          rw [er_53] at c_54
                                                          exact (c_54 rfl).elim
                                                        · skip
                                                          refine lv_aload_n hx hb dL_refused_316 rfl (lv_at hl 1 rfl) ?_
                                                          refine z_Hp (wr := []) (wt := fun u => zTr cA g u) (va_runV (As := []) (rest := []) ⟨hx, hb, hml, hown, hts⟩ (d_X9_load l D cA g H.size  hR_53) (cwV 0 hts gL_refused_X9_load rfl rfl rfl (by decide +kernel) ⟨Nat.le_of_ble_eq_true rfl, Nat.le_of_ble_eq_true rfl⟩) (zqV (wr := []) (wc := zTr cA g t_53) hK hP hD hS hA hE (List.Perm.refl _) 0 rfl rfl) rfl rfl hl.1 rfl (lv_room (Nat.le_of_ble_eq_true rfl)) dL_refused_317 ⟨Nat.le_of_ble_eq_true rfl, Nat.le_of_ble_eq_true rfl⟩) hP hD hS hA (List.Perm.refl _) (fun u => List.Perm.refl _) (fun r_55 t_55 H locs hp_55 hP hD hS => ?_)
                                                          obtain ⟨er_55, hR_55⟩ := hp_55
                                                          obtain ⟨w_55, ew_55⟩ : ∃ z : vX10, z = ((fm_load (pmN zi_X10) (nT (zi_X10.1 3)) zi_X10)).2 := ⟨_, rfl⟩
                                                          rw [← ew_55] at hR_55
                                                          have hP : va_P D vwCl (zTr cA g t_55) H := hP
                                                          have hD : va_D A (zTr cA g t_55) := hD
                                                          refine W.widen (k := 380) (n := 2185) (by omega) (by omega) ?_
                                                          have rf_21 : w_55.2.2.2.2.2.2.1 = 0 := by rw [ew_55]; exact rf_load21 _ _
                                                          have rf_pm : pmN w_55 = 0 := by unfold pmN; rw [rf_21]; rfl
                                                          have rf_w1 : w_55.1 = zi_at := by rw [ew_55]; exact rf_load1 _ _
                                                          have er_55 : r_55 = -3 := by rw [er_55, rf_load]
                                                          refine lv_bipush (v := -3) hx hb dL_refused_320 (by decide) ?_
                                                          refine lv_icmp_ne (tgt := 367) hx hb dL_refused_322 (by decide) (fun c_56 => ?_) (fun c_56 => ?_)
                                                          · skip
                                                            -- bad leaf 27
                                                            rw [er_55] at c_56
                                                            exact (c_56 rfl).elim
                                                          · skip
                                                            refine lv_aload_n hx hb dL_refused_325 rfl (lv_at hl 1 rfl) ?_
                                                            refine z_Hp (wr := []) (wt := fun u => zTr cA g u) (va_runV (As := []) (rest := []) ⟨hx, hb, hml, hown, hts⟩ (d_X9_undo l D cA g H.size  hR_55) (cwV 0 hts gL_refused_X9_undo rfl rfl rfl (by decide +kernel) ⟨Nat.le_of_ble_eq_true rfl, Nat.le_of_ble_eq_true rfl⟩) (zqV (wr := []) (wc := zTr cA g t_55) hK hP hD hS hA hE (List.Perm.refl _) 0 rfl rfl) rfl rfl hl.1 rfl (lv_room (Nat.le_of_ble_eq_true rfl)) dL_refused_326 ⟨Nat.le_of_ble_eq_true rfl, Nat.le_of_ble_eq_true rfl⟩) hP hD hS hA (List.Perm.refl _) (fun u => List.Perm.refl _) (fun r_57 t_57 H locs hp_57 hP hD hS => ?_)
                                                            obtain ⟨er_57, hR_57⟩ := hp_57
                                                            have hf_57 : (fm_undo (pmN w_55) w_55) = ((-5), w_55) := rf_undo rf_pm
                                                            rw [hf_57] at er_57 hR_57
                                                            have er_57 : r_57 = (-5) := er_57
                                                            have hR_57 : Rel t_57 w_55 := hR_57
                                                            clear hf_57
                                                            have hP : va_P D vwCl (zTr cA g t_57) H := hP
                                                            have hD : va_D A (zTr cA g t_57) := hD
                                                            refine W.widen (k := 380) (n := 2185) (by omega) (by omega) ?_
                                                            refine lv_bipush (v := -5) hx hb dL_refused_329 (by decide) ?_
                                                            refine lv_icmp_ne (tgt := 367) hx hb dL_refused_331 (by decide) (fun c_58 => ?_) (fun c_58 => ?_)
                                                            · skip
                                                              -- bad leaf 28
                                                              rw [er_57] at c_58
                                                              exact (c_58 rfl).elim
                                                            · skip
                                                              refine lv_aload_n hx hb dL_refused_334 rfl (lv_at hl 1 rfl) ?_
                                                              refine lv_iload_n hx hb dL_refused_335 rfl (lv_at hl 0 rfl) ?_
                                                              refine z_Hp (wr := []) (wt := fun u => zTr cA g u) (va_runV (As := [.int j23_s0]) (rest := []) ⟨hx, hb, hml, hown, hts⟩ (d_X9_save l D cA g H.size (j23_s0) hR_57) (cwV 1 hts gL_refused_X9_save rfl rfl rfl (by decide +kernel) ⟨Nat.le_of_ble_eq_true rfl, Nat.le_of_ble_eq_true rfl⟩) (zqV (wr := []) (wc := zTr cA g t_57) hK hP hD hS hA hE (List.Perm.refl _) 0 rfl rfl) rfl rfl hl.1 rfl (lv_room (Nat.le_of_ble_eq_true rfl)) dL_refused_336 ⟨Nat.le_of_ble_eq_true rfl, Nat.le_of_ble_eq_true rfl⟩) hP hD hS hA (List.Perm.refl _) (fun u => List.Perm.refl _) (fun r_59 t_59 H locs hp_59 hP hD hS => ?_)
                                                              obtain ⟨er_59, hR_59⟩ := hp_59
                                                              have hf_59 : (fm_saveX w_55 (j23_s0)) = ((-2), w_55) := rf_save hfar
                                                              rw [hf_59] at er_59 hR_59
                                                              have er_59 : r_59 = (-2) := er_59
                                                              have hR_59 : Rel t_59 w_55 := hR_59
                                                              clear hf_59
                                                              have hP : va_P D vwCl (zTr cA g t_59) H := hP
                                                              have hD : va_D A (zTr cA g t_59) := hD
                                                              refine W.widen (k := 400) (n := 2300) (by omega) (by omega) ?_
                                                              refine lv_bipush (v := -2) hx hb dL_refused_339 (by decide) ?_
                                                              refine lv_icmp_ne (tgt := 367) hx hb dL_refused_341 (by decide) (fun c_60 => ?_) (fun c_60 => ?_)
                                                              · skip
                                                                -- bad leaf 29
                                                                rw [er_59] at c_60
                                                                exact (c_60 rfl).elim
                                                              · skip
                                                                refine lv_aload_n hx hb dL_refused_344 rfl (lv_at hl 1 rfl) ?_
                                                                refine lv_iload_n hx hb dL_refused_345 rfl (lv_at hl 0 rfl) ?_
                                                                refine z_Hp (wr := []) (wt := fun u => zTr cA g u) (va_runV (As := [.int j23_s0]) (rest := []) ⟨hx, hb, hml, hown, hts⟩ (d_X9_restore l D cA g H.size (j23_s0) hR_59) (cwV 1 hts gL_refused_X9_restore rfl rfl rfl (by decide +kernel) ⟨Nat.le_of_ble_eq_true rfl, Nat.le_of_ble_eq_true rfl⟩) (zqV (wr := []) (wc := zTr cA g t_59) hK hP hD hS hA hE (List.Perm.refl _) 0 rfl rfl) rfl rfl hl.1 rfl (lv_room (Nat.le_of_ble_eq_true rfl)) dL_refused_346 ⟨Nat.le_of_ble_eq_true rfl, Nat.le_of_ble_eq_true rfl⟩) hP hD hS hA (List.Perm.refl _) (fun u => List.Perm.refl _) (fun r_61 t_61 H locs hp_61 hP hD hS => ?_)
                                                                obtain ⟨er_61, hR_61⟩ := hp_61
                                                                have hf_61 : (fm_restX (pmN w_55) w_55 (j23_s0)) = ((-2), w_55) := rf_rest hfar
                                                                rw [hf_61] at er_61 hR_61
                                                                have er_61 : r_61 = (-2) := er_61
                                                                have hR_61 : Rel t_61 w_55 := hR_61
                                                                clear hf_61
                                                                have hP : va_P D vwCl (zTr cA g t_61) H := hP
                                                                have hD : va_D A (zTr cA g t_61) := hD
                                                                refine W.widen (k := 420) (n := 2415) (by omega) (by omega) ?_
                                                                refine lv_bipush (v := -2) hx hb dL_refused_349 (by decide) ?_
                                                                refine lv_icmp_ne (tgt := 367) hx hb dL_refused_351 (by decide) (fun c_62 => ?_) (fun c_62 => ?_)
                                                                · skip
                                                                  -- bad leaf 30
                                                                  rw [er_61] at c_62
                                                                  exact (c_62 rfl).elim
                                                                · skip
                                                                  refine lv_aload_n hx hb dL_refused_354 rfl (lv_at hl 1 rfl) ?_
                                                                  refine lv_bipush (v := 21) hx hb dL_refused_355 (by decide) ?_
                                                                  refine z_Ri (va_runV (As := [.int (21 : Int32)]) (rest := []) ⟨hx, hb, hml, hown, hts⟩ (d_X9_state l D cA g (21 : Int32) hR_61) (cwV 1 hts gL_refused_X9_state rfl rfl rfl (by decide +kernel) ⟨Nat.le_of_ble_eq_true rfl, Nat.le_of_ble_eq_true rfl⟩) (zqVR (wr := []) (wc := zTr cA g t_61) hK hP hN (List.Perm.refl _) 0 rfl rfl) rfl rfl hl.1 rfl (lv_room (Nat.le_of_ble_eq_true rfl)) dL_refused_357 ⟨Nat.le_of_ble_eq_true rfl, Nat.le_of_ble_eq_true rfl⟩) ?_
                                                                  refine lv_topi (fun v_63 ev_63 => ?_)
                                                                  rw [fs_21] at ev_63
                                                                  refine lv_if_ne (tgt := 367) hx hb dL_refused_360 (by decide) (fun c_64 => ?_) (fun c_64 => ?_)
                                                                  · skip
                                                                    -- bad leaf 31
                                                                    rw [ev_63] at c_64
                                                                    exact (c_64 rf_21).elim
                                                                  · skip
                                                                    refine lv_iconst (v := 1) hx hb dL_refused_363 (by decide) ?_
                                                                    refine lv_goto (tgt := 368) hx hb dL_refused_364 (by decide) ?_
                                                                    have hP9 : va_P D vwCl (zTr cA g t_61) H := hP
                                                                    have hD9 : va_D A (zTr cA g t_61) := hD
                                                                    have hI9 : IV 0 w_55 := IV_c rf_IV (fun i _ => congrFun rf_w1 i)
                                                                    subst hQ
                                                                    refine W.widen (k := 600) (n := 3000) (by omega) (by omega) ?_
                                                                    exact W.zret (ty := .boolean) (v := 1) hx hb hr rfl (fun t ht hW => ⟨⟨1, t_61, rfl, ⟨rfl, w_55, hR_61, hI9⟩, ⟨by rw [ht]; exact hP9, va_K.moved hW.alike hK, hD9⟩⟩, hS.F ht⟩) hS.2.2 dL_refused_368
  refine lv_if_ge (tgt := 16) hx hb dL_refused_1 (by decide) (fun c_65 => ?_) (fun c_65 => ?_)
  · skip
    refine lv_iload_n hx hb dL_refused_16 rfl (lv_at hl 1 rfl) ?_
    refine lv_ldc hx hb hown (hts (.constant RL 63 (1000000)) (List.mem_of_getElem? (i := 2) rfl)) dL_refused_17 ?_
    refine lv_irem hx hb dL_refused_19 (by decide) ?_
    refine lv_ldc hx hb hown (hts (.constant RL 197 (1800001)) (List.mem_of_getElem? (i := 3) rfl)) dL_refused_20 ?_
    refine lv_iadd hx hb dL_refused_22 ?_
    exact J23 _ (Or.inl ⟨c_65, rfl⟩) ls (lv_sub hl [0, 1] rfl)
  · skip
    refine lv_ldc hx hb hown (hts (.constant RL 196 (-1800001)) (List.mem_of_getElem? (i := 1) rfl)) dL_refused_4 ?_
    refine lv_iload_n hx hb dL_refused_6 rfl (lv_at hl 1 rfl) ?_
    refine lv_ldc hx hb hown (hts (.constant RL 63 (1000000)) (List.mem_of_getElem? (i := 2) rfl)) dL_refused_7 ?_
    refine z_Ri (va_runS (As := [.int x1, .int (1000000 : Int32)]) (rest := [.int (-1800001 : Int32)]) ⟨hx, hb, hml, hown, hts⟩ (c_L_up l D cA (x1) (1000000 : Int32)  (by decide)) (va_cwS 2 hts gL_refused_L_up rfl rfl rfl (by decide +kernel) ⟨Nat.le_of_ble_eq_true rfl, Nat.le_of_ble_eq_true rfl⟩) (zqSR0 hK hN) rfl rfl hl.1 rfl (lv_room (Nat.le_of_ble_eq_true rfl)) dL_refused_9 ⟨Nat.le_of_ble_eq_true rfl, Nat.le_of_ble_eq_true rfl⟩) ?_
    refine lv_topi (fun v_66 ev_66 => ?_)
    refine lv_isub hx hb dL_refused_12 ?_
    refine lv_goto (tgt := 23) hx hb dL_refused_13 (by decide) ?_
    subst ev_66
    exact J23 _ (Or.inr ⟨c_65, rfl⟩) ls (lv_sub hl [0, 1] rfl)
