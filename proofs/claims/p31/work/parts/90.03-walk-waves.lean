set_option maxHeartbeats 4000000 in
set_option maxRecDepth 100000 in
theorem c_L_waves (l : Launch) (D : va_G) (cA : Nat → ClassId) (g : Nat → Nat) {t : vTv} {w : vX10} (x1 : Int32) (hR : Rel t w) : Met l yL_waves wsL_waves ({ frames := 4, cells := 0, slots := 0, locals := 106 }) (va_Pc [.ref (g 0), .int x1] (zPreR D (zty cA) (zTr cA g t))) (vp_Si (fun x => x = 1)) 0 0 (fun _ => False) := by
  refine Met.ofW (cc := cL_waves) (maxL := 13) (ret := (some .boolean)) (by decide) rfl ?_
  intro p e s m args below meth c s₁ B hml hv
  obtain ⟨rfl, hP, hK, hN⟩ := hv
  have hx := B.exec
  have hb := B.bytes
  have hr := B.returns
  have hts := atoms_spec (ws := wsL_waves) B.pre
  have hown : s.vm.findClass RL = some m.cls := findClass_of_methodNamed B.named
  have hP : va_P D vwCl (zTr cA g t) s.heap := hP
  have hl := lv_entry ([.ref (g 0), .int x1]) (n := 13) (Nat.le_of_ble_eq_true rfl)
  rw [lg_entry_eq]
  generalize (lg_sl ([.ref (g 0), .int x1]) ++ List.replicate (13 - (lg_sl ([.ref (g 0), .int x1])).length) Slot.unset).toArray = ls at hl ⊢
  have hl : lv_has ls 13 [(0, .ref (g 0)), (1, .int x1)] := hl
  refine z_genQ (fun Q hQ => ?_)
  refine lv_iload_n hx hb dL_waves_0 rfl (lv_at hl 1 rfl) ?_
  refine lv_sipush (v := 9001) hx hb dL_waves_1 (by decide) ?_
  refine z_Ri (va_runS (As := [.int x1, .int (9001 : Int32)]) (rest := []) ⟨hx, hb, hml, hown, hts⟩ (c_L_up l D cA (x1) (9001 : Int32)  (by decide)) (va_cwS 2 hts gL_waves_L_up rfl rfl rfl (by decide +kernel) ⟨Nat.le_of_ble_eq_true rfl, Nat.le_of_ble_eq_true rfl⟩) (zqSR0 hK hN) rfl rfl hl.1 rfl (lv_room (Nat.le_of_ble_eq_true rfl)) dL_waves_4 ⟨Nat.le_of_ble_eq_true rfl, Nat.le_of_ble_eq_true rfl⟩) ?_
  refine lv_topi (fun v_1 ev_1 => ?_)
  obtain ⟨k_1, hk_1, ek_1⟩ := up_ex (x1) (n := 9001) (by decide) (by decide)
  have ev_1 : v_1 = nI k_1 := ev_1.trans ek_1
  clear ek_1
  refine lv_istore_n (lv' := [(2, .int v_1), (0, .ref (g 0)), (1, .int x1)]) hx hb dL_waves_7 rfl hl (by decide) rfl (fun ls hl => ?_)
  refine lv_aload_n hx hb dL_waves_8 rfl (lv_at hl 1 rfl) ?_
  refine lv_iload_n hx hb dL_waves_9 rfl (lv_at hl 0 rfl) ?_
  refine lv_iconst (v := 0) hx hb dL_waves_10 (by decide) ?_
  refine z_Ri (va_runV (As := [.int v_1, .int (0 : Int32)]) (rest := []) ⟨hx, hb, hml, hown, hts⟩ (d_X9_wave l D cA g (v_1) (0 : Int32) hR) (cwV 2 hts gL_waves_X9_wave rfl rfl rfl (by decide +kernel) ⟨Nat.le_of_ble_eq_true rfl, Nat.le_of_ble_eq_true rfl⟩) (zqVR (wr := []) (wc := zTr cA g t) hK hP hN (List.Perm.refl _) 0 rfl rfl) rfl rfl hl.1 rfl (lv_room (Nat.le_of_ble_eq_true rfl)) dL_waves_11 ⟨Nat.le_of_ble_eq_true rfl, Nat.le_of_ble_eq_true rfl⟩) ?_
  refine lv_topi (fun v_2 ev_2 => ?_)
  refine lv_istore_n (lv' := [(3, .int v_2), (2, .int v_1), (0, .ref (g 0)), (1, .int x1)]) hx hb dL_waves_14 rfl hl (by decide) rfl (fun ls hl => ?_)
  refine lv_aload_n hx hb dL_waves_15 rfl (lv_at hl 2 rfl) ?_
  refine lv_iload_n hx hb dL_waves_16 rfl (lv_at hl 1 rfl) ?_
  refine lv_iconst (v := 1) hx hb dL_waves_17 (by decide) ?_
  refine z_Ri (va_runV (As := [.int v_1, .int (1 : Int32)]) (rest := []) ⟨hx, hb, hml, hown, hts⟩ (d_X9_wave l D cA g (v_1) (1 : Int32) hR) (cwV 2 hts gL_waves_X9_wave rfl rfl rfl (by decide +kernel) ⟨Nat.le_of_ble_eq_true rfl, Nat.le_of_ble_eq_true rfl⟩) (zqVR (wr := []) (wc := zTr cA g t) hK hP hN (List.Perm.refl _) 0 rfl rfl) rfl rfl hl.1 rfl (lv_room (Nat.le_of_ble_eq_true rfl)) dL_waves_18 ⟨Nat.le_of_ble_eq_true rfl, Nat.le_of_ble_eq_true rfl⟩) ?_
  refine lv_topi (fun v_3 ev_3 => ?_)
  refine lv_istore (lv' := [(4, .int v_3), (3, .int v_2), (2, .int v_1), (0, .ref (g 0)), (1, .int x1)]) hx hb dL_waves_21 hl (by decide) rfl (fun ls hl => ?_)
  refine lv_iload_n hx hb dL_waves_23 rfl (lv_at hl 1 rfl) ?_
  refine lv_if_lt (tgt := 109) hx hb dL_waves_24 (by decide) (fun c_4 => ?_) (fun c_4 => ?_)
  · skip
    -- bad leaf 0
    rw [ev_2, ev_1] at c_4
    exact (wf_1 (Nat.le_of_lt_succ hk_1) c_4).elim
  · skip
    refine lv_iload_n hx hb dL_waves_27 rfl (lv_at hl 1 rfl) ?_
    refine lv_ldc hx hb hown (hts (.constant RL 63 (1000000)) (List.mem_of_getElem? (i := 1) rfl)) dL_waves_28 ?_
    refine lv_icmp_gt (tgt := 109) hx hb dL_waves_30 (by decide) (fun c_5 => ?_) (fun c_5 => ?_)
    · skip
      -- bad leaf 1
      rw [ev_2, ev_1] at c_5
      exact (wf_2 (Nat.le_of_lt_succ hk_1) c_5).elim
    · skip
      refine lv_aload_n hx hb dL_waves_33 rfl (lv_at hl 3 rfl) ?_
      refine lv_sipush (v := 18000) hx hb dL_waves_34 (by decide) ?_
      refine lv_iload_n hx hb dL_waves_37 rfl (lv_at hl 2 rfl) ?_
      refine lv_isub hx hb dL_waves_38 ?_
      refine lv_iconst (v := 0) hx hb dL_waves_39 (by decide) ?_
      refine z_Ri (va_runV (As := [.int ((18000 : Int32) - v_1), .int (0 : Int32)]) (rest := []) ⟨hx, hb, hml, hown, hts⟩ (d_X9_wave l D cA g ((18000 : Int32) - v_1) (0 : Int32) hR) (cwV 2 hts gL_waves_X9_wave rfl rfl rfl (by decide +kernel) ⟨Nat.le_of_ble_eq_true rfl, Nat.le_of_ble_eq_true rfl⟩) (zqVR (wr := []) (wc := zTr cA g t) hK hP hN (List.Perm.refl _) 0 rfl rfl) rfl rfl hl.1 rfl (lv_room (Nat.le_of_ble_eq_true rfl)) dL_waves_40 ⟨Nat.le_of_ble_eq_true rfl, Nat.le_of_ble_eq_true rfl⟩) ?_
      refine lv_topi (fun v_6 ev_6 => ?_)
      refine lv_iload_n hx hb dL_waves_43 rfl (lv_at hl 1 rfl) ?_
      refine lv_icmp_ne (tgt := 109) hx hb dL_waves_44 (by decide) (fun c_7 => ?_) (fun c_7 => ?_)
      · skip
        -- bad leaf 2
        rw [ev_6, ev_2, ev_1] at c_7
        exact (c_7 (wf_3 (Nat.le_of_lt_succ hk_1))).elim
      · skip
        refine lv_iload_n hx hb dL_waves_47 rfl (lv_at hl 2 rfl) ?_
        have J65 : ∀ (ej65 : ((v_1 ≤ 0)) ∨ ((¬ (v_1 ≤ 0)) ∧ (((fm_wave ((36000 : Int32) - v_1) (0 : Int32))) = (-v_2)))), ∀ (ls : Array Slot), lv_has ls 13 [(4, .int v_3), (3, .int v_2), (2, .int v_1), (0, .ref (g 0)), (1, .int x1)] → W p l e (headSpec wsL_waves ({ frames := 4, cells := 0, slots := 0, locals := 106 })).room s m (([.ref (g 0), .int x1] : List Value).toArray) below meth c s.heap [] 0 0 Q (F0 m 65 ls []) := by
          intro ej65 ls hl
          refine lv_aload_n hx hb dL_waves_65 rfl (lv_at hl 3 rfl) ?_
          refine lv_sipush (v := 18000) hx hb dL_waves_66 (by decide) ?_
          refine lv_iload_n hx hb dL_waves_69 rfl (lv_at hl 2 rfl) ?_
          refine lv_iadd hx hb dL_waves_70 ?_
          refine lv_iconst (v := 0) hx hb dL_waves_71 (by decide) ?_
          refine z_Ri (va_runV (As := [.int ((18000 : Int32) + v_1), .int (0 : Int32)]) (rest := []) ⟨hx, hb, hml, hown, hts⟩ (d_X9_wave l D cA g ((18000 : Int32) + v_1) (0 : Int32) hR) (cwV 2 hts gL_waves_X9_wave rfl rfl rfl (by decide +kernel) ⟨Nat.le_of_ble_eq_true rfl, Nat.le_of_ble_eq_true rfl⟩) (zqVR (wr := []) (wc := zTr cA g t) hK hP hN (List.Perm.refl _) 0 rfl rfl) rfl rfl hl.1 rfl (lv_room (Nat.le_of_ble_eq_true rfl)) dL_waves_72 ⟨Nat.le_of_ble_eq_true rfl, Nat.le_of_ble_eq_true rfl⟩) ?_
          refine lv_topi (fun v_8 ev_8 => ?_)
          refine lv_iload_n hx hb dL_waves_75 rfl (lv_at hl 1 rfl) ?_
          refine lv_ineg hx hb dL_waves_76 ?_
          refine lv_icmp_ne (tgt := 109) hx hb dL_waves_77 (by decide) (fun c_9 => ?_) (fun c_9 => ?_)
          · skip
            -- bad leaf 3
            rw [ev_8, ev_2, ev_1] at c_9
            exact (c_9 (wf_5 (Nat.le_of_lt_succ hk_1))).elim
          · skip
            refine lv_iload hx hb dL_waves_80 (lv_at hl 0 rfl) ?_
            refine lv_aload_n hx hb dL_waves_82 rfl (lv_at hl 3 rfl) ?_
            refine lv_sipush (v := 9000) hx hb dL_waves_83 (by decide) ?_
            refine lv_iload_n hx hb dL_waves_86 rfl (lv_at hl 2 rfl) ?_
            refine lv_iadd hx hb dL_waves_87 ?_
            refine lv_iconst (v := 0) hx hb dL_waves_88 (by decide) ?_
            refine z_Ri (va_runV (As := [.int ((9000 : Int32) + v_1), .int (0 : Int32)]) (rest := [.int v_3]) ⟨hx, hb, hml, hown, hts⟩ (d_X9_wave l D cA g ((9000 : Int32) + v_1) (0 : Int32) hR) (cwV 2 hts gL_waves_X9_wave rfl rfl rfl (by decide +kernel) ⟨Nat.le_of_ble_eq_true rfl, Nat.le_of_ble_eq_true rfl⟩) (zqVR (wr := []) (wc := zTr cA g t) hK hP hN (List.Perm.refl _) 0 rfl rfl) rfl rfl hl.1 rfl (lv_room (Nat.le_of_ble_eq_true rfl)) dL_waves_89 ⟨Nat.le_of_ble_eq_true rfl, Nat.le_of_ble_eq_true rfl⟩) ?_
            refine lv_topi (fun v_10 ev_10 => ?_)
            refine lv_icmp_ne (tgt := 109) hx hb dL_waves_92 (by decide) (fun c_11 => ?_) (fun c_11 => ?_)
            · skip
              -- bad leaf 4
              rw [ev_10, ev_3, ev_1] at c_11
              exact (c_11 (wf_6 (Nat.le_of_lt_succ hk_1))).elim
            · skip
              refine lv_aload_n hx hb dL_waves_95 rfl (lv_at hl 3 rfl) ?_
              refine lv_sipush (v := 9000) hx hb dL_waves_96 (by decide) ?_
              refine lv_iload_n hx hb dL_waves_99 rfl (lv_at hl 2 rfl) ?_
              refine lv_isub hx hb dL_waves_100 ?_
              refine lv_iconst (v := 1) hx hb dL_waves_101 (by decide) ?_
              refine z_Ri (va_runV (As := [.int ((9000 : Int32) - v_1), .int (1 : Int32)]) (rest := []) ⟨hx, hb, hml, hown, hts⟩ (d_X9_wave l D cA g ((9000 : Int32) - v_1) (1 : Int32) hR) (cwV 2 hts gL_waves_X9_wave rfl rfl rfl (by decide +kernel) ⟨Nat.le_of_ble_eq_true rfl, Nat.le_of_ble_eq_true rfl⟩) (zqVR (wr := []) (wc := zTr cA g t) hK hP hN (List.Perm.refl _) 0 rfl rfl) rfl rfl hl.1 rfl (lv_room (Nat.le_of_ble_eq_true rfl)) dL_waves_102 ⟨Nat.le_of_ble_eq_true rfl, Nat.le_of_ble_eq_true rfl⟩) ?_
              refine lv_topi (fun v_12 ev_12 => ?_)
              refine lv_iload_n hx hb dL_waves_105 rfl (lv_at hl 1 rfl) ?_
              refine lv_icmp_eq (tgt := 111) hx hb dL_waves_106 (by decide) (fun c_13 => ?_) (fun c_13 => ?_)
              · skip
                refine lv_iload_n hx hb dL_waves_111 rfl (lv_at hl 2 rfl) ?_
                refine lv_sipush (v := 9000) hx hb dL_waves_112 (by decide) ?_
                have J132 : ∀ (ej132 : (((9000 : Int32) ≤ v_1)) ∨ ((¬ ((9000 : Int32) ≤ v_1)) ∧ (v_2 ≤ ((fm_wave (v_1 + (1 : Int32)) (0 : Int32)))))), ∀ (ls : Array Slot), lv_has ls 13 [(4, .int v_3), (3, .int v_2), (2, .int v_1), (0, .ref (g 0)), (1, .int x1)] → W p l e (headSpec wsL_waves ({ frames := 4, cells := 0, slots := 0, locals := 106 })).room s m (([.ref (g 0), .int x1] : List Value).toArray) below meth c s.heap [] 0 0 Q (F0 m 132 ls []) := by
                  intro ej132 ls hl
                  refine lv_iload_n hx hb dL_waves_132 rfl (lv_at hl 1 rfl) ?_
                  refine lv_i2l hx hb dL_waves_133 rfl ?_
                  refine lv_iload_n hx hb dL_waves_134 rfl (lv_at hl 1 rfl) ?_
                  refine lv_i2l hx hb dL_waves_135 rfl ?_
                  refine lv_lmul hx hb dL_waves_136 ?_
                  refine lv_iload hx hb dL_waves_137 (lv_at hl 0 rfl) ?_
                  refine lv_i2l hx hb dL_waves_139 rfl ?_
                  refine lv_iload hx hb dL_waves_140 (lv_at hl 0 rfl) ?_
                  refine lv_i2l hx hb dL_waves_142 rfl ?_
                  refine lv_lmul hx hb dL_waves_143 ?_
                  refine lv_ladd hx hb dL_waves_144 ?_
                  refine lv_topl (fun y_14 ey_14 => ?_)
                  refine lv_lstore (lv' := [(5, .long y_14), (4, .int v_3), (3, .int v_2), (2, .int v_1), (0, .ref (g 0)), (1, .int x1)]) hx hb dL_waves_145 hl (by decide) rfl (fun ls hl => ?_)
                  refine lv_lload hx hb dL_waves_147 (lv_at hl 0 rfl) ?_
                  refine lv_ldc2 hx hb hown (hts (.constantLong RL 65 (990000000000)) (List.mem_of_getElem? (i := 3) rfl)) dL_waves_149 ?_
                  refine W.lcmp hx hb dL_waves_152 ?_
                  refine lv_if_lt (tgt := 165) hx hb dL_waves_153 (by decide) (fun kc_15 => ?_) (fun kc_15 => ?_)
                  · skip
                    have c_15 : y_14 < (990000000000 : Int64) := (lg_cmp_lt _ _).mp kc_15
                    -- bad leaf 5
                    rw [ey_14, ev_3, ev_2, ev_1] at c_15
                    exact (wf_10 (Nat.le_of_lt_succ hk_1) c_15).elim
                  · skip
                    have c_15 : ¬ (y_14 < (990000000000 : Int64)) := fun h => kc_15 ((lg_cmp_lt _ _).mpr h)
                    refine lv_lload hx hb dL_waves_156 (lv_at hl 0 rfl) ?_
                    refine lv_ldc2 hx hb hown (hts (.constantLong RL 67 (1010000000000)) (List.mem_of_getElem? (i := 4) rfl)) dL_waves_158 ?_
                    refine W.lcmp hx hb dL_waves_161 ?_
                    refine lv_if_le (tgt := 167) hx hb dL_waves_162 (by decide) (fun kc_16 => ?_) (fun kc_16 => ?_)
                    · skip
                      have c_16 : y_14 ≤ (1010000000000 : Int64) := (lg_cmp_le _ _).mp kc_16
                      refine lv_iload_n hx hb dL_waves_167 rfl (lv_at hl 5 rfl) ?_
                      refine lv_iconst (v := 4) hx hb dL_waves_168 (by decide) ?_
                      refine lv_ishr hx hb dL_waves_169 ?_
                      refine lv_bipush (v := 71) hx hb dL_waves_170 (by decide) ?_
                      refine z_Ri (va_runS (As := [.int (x1 >>> ((4 : Int32) &&& 31)), .int (71 : Int32)]) (rest := []) ⟨hx, hb, hml, hown, hts⟩ (c_L_up l D cA (x1 >>> ((4 : Int32) &&& 31)) (71 : Int32)  (by decide)) (va_cwS 2 hts gL_waves_L_up rfl rfl rfl (by decide +kernel) ⟨Nat.le_of_ble_eq_true rfl, Nat.le_of_ble_eq_true rfl⟩) (zqSR0 hK hN) rfl rfl hl.1 rfl (lv_room (Nat.le_of_ble_eq_true rfl)) dL_waves_172 ⟨Nat.le_of_ble_eq_true rfl, Nat.le_of_ble_eq_true rfl⟩) ?_
                      refine lv_topi (fun v_17 ev_17 => ?_)
                      obtain ⟨k_17, hk_17, ek_17⟩ := up_ex ((x1 >>> ((4 : Int32) &&& 31))) (n := 71) (by decide) (by decide)
                      have ev_17 : v_17 = nI k_17 := ev_17.trans ek_17
                      clear ek_17
                      refine lv_istore (lv' := [(7, .int v_17), (5, .long y_14), (4, .int v_3), (3, .int v_2), (2, .int v_1), (0, .ref (g 0)), (1, .int x1)]) hx hb dL_waves_175 hl (by decide) rfl (fun ls hl => ?_)
                      refine lv_iload_n hx hb dL_waves_177 rfl (lv_at hl 6 rfl) ?_
                      refine lv_bipush (v := 7) hx hb dL_waves_178 (by decide) ?_
                      refine lv_ishr hx hb dL_waves_180 ?_
                      refine lv_sipush (v := 401) hx hb dL_waves_181 (by decide) ?_
                      refine z_Ri (va_runS (As := [.int (x1 >>> ((7 : Int32) &&& 31)), .int (401 : Int32)]) (rest := []) ⟨hx, hb, hml, hown, hts⟩ (c_L_up l D cA (x1 >>> ((7 : Int32) &&& 31)) (401 : Int32)  (by decide)) (va_cwS 2 hts gL_waves_L_up rfl rfl rfl (by decide +kernel) ⟨Nat.le_of_ble_eq_true rfl, Nat.le_of_ble_eq_true rfl⟩) (zqSR0 hK hN) rfl rfl hl.1 rfl (lv_room (Nat.le_of_ble_eq_true rfl)) dL_waves_184 ⟨Nat.le_of_ble_eq_true rfl, Nat.le_of_ble_eq_true rfl⟩) ?_
                      refine lv_topi (fun v_18 ev_18 => ?_)
                      obtain ⟨k_18, hk_18, ek_18⟩ := up_ex ((x1 >>> ((7 : Int32) &&& 31))) (n := 401) (by decide) (by decide)
                      have ev_18 : v_18 = nI k_18 := ev_18.trans ek_18
                      clear ek_18
                      refine lv_istore (lv' := [(8, .int v_18), (7, .int v_17), (5, .long y_14), (4, .int v_3), (3, .int v_2), (2, .int v_1), (0, .ref (g 0)), (1, .int x1)]) hx hb dL_waves_187 hl (by decide) rfl (fun ls hl => ?_)
                      refine lv_aload_n hx hb dL_waves_189 rfl (lv_at hl 6 rfl) ?_
                      refine lv_iload hx hb dL_waves_190 (lv_at hl 1 rfl) ?_
                      refine lv_iconst (v := 0) hx hb dL_waves_192 (by decide) ?_
                      refine lv_iload_n hx hb dL_waves_193 rfl (lv_at hl 5 rfl) ?_
                      refine z_Ri (va_runV (As := [.int v_17, .int (0 : Int32), .int v_1]) (rest := []) ⟨hx, hb, hml, hown, hts⟩ (d_X9_restAt l D cA g (v_17) (0 : Int32) (v_1) hR) (cwV 3 hts gL_waves_X9_restAt rfl rfl rfl (by decide +kernel) ⟨Nat.le_of_ble_eq_true rfl, Nat.le_of_ble_eq_true rfl⟩) (zqVR (wr := []) (wc := zTr cA g t) hK hP hN (List.Perm.refl _) 0 rfl rfl) rfl rfl hl.1 rfl (lv_room (Nat.le_of_ble_eq_true rfl)) dL_waves_194 ⟨Nat.le_of_ble_eq_true rfl, Nat.le_of_ble_eq_true rfl⟩) ?_
                      refine lv_topi (fun v_19 ev_19 => ?_)
                      refine lv_istore (lv' := [(9, .int v_19), (8, .int v_18), (7, .int v_17), (5, .long y_14), (4, .int v_3), (3, .int v_2), (2, .int v_1), (0, .ref (g 0)), (1, .int x1)]) hx hb dL_waves_197 hl (by decide) rfl (fun ls hl => ?_)
                      refine lv_aload_n hx hb dL_waves_199 rfl (lv_at hl 7 rfl) ?_
                      refine lv_bipush (v := 100) hx hb dL_waves_200 (by decide) ?_
                      refine lv_iload hx hb dL_waves_202 (lv_at hl 2 rfl) ?_
                      refine lv_imul hx hb dL_waves_204 ?_
                      refine lv_iconst (v := 1) hx hb dL_waves_205 (by decide) ?_
                      refine z_Ri (va_runV (As := [.int ((100 : Int32) * v_17), .int (1 : Int32)]) (rest := []) ⟨hx, hb, hml, hown, hts⟩ (d_X9_wave l D cA g ((100 : Int32) * v_17) (1 : Int32) hR) (cwV 2 hts gL_waves_X9_wave rfl rfl rfl (by decide +kernel) ⟨Nat.le_of_ble_eq_true rfl, Nat.le_of_ble_eq_true rfl⟩) (zqVR (wr := []) (wc := zTr cA g t) hK hP hN (List.Perm.refl _) 0 rfl rfl) rfl rfl hl.1 rfl (lv_room (Nat.le_of_ble_eq_true rfl)) dL_waves_206 ⟨Nat.le_of_ble_eq_true rfl, Nat.le_of_ble_eq_true rfl⟩) ?_
                      refine lv_topi (fun v_20 ev_20 => ?_)
                      refine lv_istore (lv' := [(10, .int v_20), (9, .int v_19), (8, .int v_18), (7, .int v_17), (5, .long y_14), (4, .int v_3), (3, .int v_2), (2, .int v_1), (0, .ref (g 0)), (1, .int x1)]) hx hb dL_waves_209 hl (by decide) rfl (fun ls hl => ?_)
                      refine lv_iload hx hb dL_waves_211 (lv_at hl 1 rfl) ?_
                      refine lv_i2l hx hb dL_waves_213 rfl ?_
                      refine lv_iload hx hb dL_waves_214 (lv_at hl 0 rfl) ?_
                      refine lv_i2l hx hb dL_waves_216 rfl ?_
                      refine lv_lmul hx hb dL_waves_217 ?_
                      refine lv_aload_n hx hb dL_waves_218 rfl (lv_at hl 8 rfl) ?_
                      refine lv_bipush (v := 24) hx hb dL_waves_219 (by decide) ?_
                      refine z_Ri (va_runV (As := [.int (24 : Int32)]) (rest := [.long ((v_19.toInt64) * (v_20.toInt64))]) ⟨hx, hb, hml, hown, hts⟩ (d_X9_state l D cA g (24 : Int32) hR) (cwV 1 hts gL_waves_X9_state rfl rfl rfl (by decide +kernel) ⟨Nat.le_of_ble_eq_true rfl, Nat.le_of_ble_eq_true rfl⟩) (zqVR (wr := []) (wc := zTr cA g t) hK hP hN (List.Perm.refl _) 0 rfl rfl) rfl rfl hl.1 rfl (lv_room (Nat.le_of_ble_eq_true rfl)) dL_waves_221 ⟨Nat.le_of_ble_eq_true rfl, Nat.le_of_ble_eq_true rfl⟩) ?_
                      refine lv_topi (fun v_21 ev_21 => ?_)
                      rw [fs_24] at ev_21
                      refine lv_i2l hx hb dL_waves_224 rfl ?_
                      refine lv_aload_n hx hb dL_waves_225 rfl (lv_at hl 8 rfl) ?_
                      refine lv_bipush (v := 100) hx hb dL_waves_226 (by decide) ?_
                      refine lv_iload hx hb dL_waves_228 (lv_at hl 3 rfl) ?_
                      refine lv_imul hx hb dL_waves_230 ?_
                      refine lv_iconst (v := 0) hx hb dL_waves_231 (by decide) ?_
                      refine z_Ri (va_runV (As := [.int ((100 : Int32) * v_17), .int (0 : Int32)]) (rest := [.long (v_21.toInt64), .long ((v_19.toInt64) * (v_20.toInt64))]) ⟨hx, hb, hml, hown, hts⟩ (d_X9_wave l D cA g ((100 : Int32) * v_17) (0 : Int32) hR) (cwV 2 hts gL_waves_X9_wave rfl rfl rfl (by decide +kernel) ⟨Nat.le_of_ble_eq_true rfl, Nat.le_of_ble_eq_true rfl⟩) (zqVR (wr := []) (wc := zTr cA g t) hK hP hN (List.Perm.refl _) 0 rfl rfl) rfl rfl hl.1 rfl (lv_room (Nat.le_of_ble_eq_true rfl)) dL_waves_232 ⟨Nat.le_of_ble_eq_true rfl, Nat.le_of_ble_eq_true rfl⟩) ?_
                      refine lv_topi (fun v_22 ev_22 => ?_)
                      refine lv_i2l hx hb dL_waves_235 rfl ?_
                      refine lv_lmul hx hb dL_waves_236 ?_
                      refine lv_lsub hx hb dL_waves_237 ?_
                      refine lv_topl (fun y_23 ey_23 => ?_)
                      refine lv_lstore (lv' := [(11, .long y_23), (10, .int v_20), (9, .int v_19), (8, .int v_18), (7, .int v_17), (5, .long y_14), (4, .int v_3), (3, .int v_2), (2, .int v_1), (0, .ref (g 0)), (1, .int x1)]) hx hb dL_waves_238 hl (by decide) rfl (fun ls hl => ?_)
                      refine lv_lload hx hb dL_waves_240 (lv_at hl 0 rfl) ?_
                      refine lv_lconst (v := 0) hx hb dL_waves_242 (by decide) ?_
                      refine W.lcmp hx hb dL_waves_243 ?_
                      refine lv_if_gt (tgt := 304) hx hb dL_waves_244 (by decide) (fun kc_24 => ?_) (fun kc_24 => ?_)
                      · skip
                        have c_24 : (0 : Int64) < y_23 := (lg_cmp_gt _ _).mp kc_24
                        -- bad leaf 6
                        rw [ey_23, ev_22, ev_21, ev_20, ev_19, ev_17, ev_1] at c_24
                        exact (rs_A (rel_22 hR) (Nat.le_of_lt_succ hk_17) (Nat.le_of_lt_succ hk_1) c_24).elim
                      · skip
                        have c_24 : ¬ ((0 : Int64) < y_23) := fun h => kc_24 ((lg_cmp_gt _ _).mpr h)
                        refine lv_lload hx hb dL_waves_247 (lv_at hl 0 rfl) ?_
                        refine lv_iload hx hb dL_waves_249 (lv_at hl 1 rfl) ?_
                        refine lv_ineg hx hb dL_waves_251 ?_
                        refine lv_i2l hx hb dL_waves_252 rfl ?_
                        refine W.lcmp hx hb dL_waves_253 ?_
                        refine lv_if_le (tgt := 304) hx hb dL_waves_254 (by decide) (fun kc_25 => ?_) (fun kc_25 => ?_)
                        · skip
                          have c_25 : y_23 ≤ ((-v_20).toInt64) := (lg_cmp_le _ _).mp kc_25
                          -- bad leaf 7
                          rw [ey_23, ev_22, ev_21, ev_20, ev_19, ev_17, ev_1] at c_25
                          exact (rs_B (rel_22 hR) (Nat.le_of_lt_succ hk_17) (Nat.le_of_lt_succ hk_1) c_25).elim
                        · skip
                          have c_25 : ¬ (y_23 ≤ ((-v_20).toInt64)) := fun h => kc_25 ((lg_cmp_le _ _).mpr h)
                          refine lv_aload_n hx hb dL_waves_257 rfl (lv_at hl 9 rfl) ?_
                          refine lv_iload hx hb dL_waves_258 (lv_at hl 4 rfl) ?_
                          refine lv_ineg hx hb dL_waves_260 ?_
                          refine lv_iconst (v := 0) hx hb dL_waves_261 (by decide) ?_
                          refine lv_iload_n hx hb dL_waves_262 rfl (lv_at hl 8 rfl) ?_
                          refine z_Ri (va_runV (As := [.int (-v_17), .int (0 : Int32), .int v_1]) (rest := []) ⟨hx, hb, hml, hown, hts⟩ (d_X9_restAt l D cA g (-v_17) (0 : Int32) (v_1) hR) (cwV 3 hts gL_waves_X9_restAt rfl rfl rfl (by decide +kernel) ⟨Nat.le_of_ble_eq_true rfl, Nat.le_of_ble_eq_true rfl⟩) (zqVR (wr := []) (wc := zTr cA g t) hK hP hN (List.Perm.refl _) 0 rfl rfl) rfl rfl hl.1 rfl (lv_room (Nat.le_of_ble_eq_true rfl)) dL_waves_263 ⟨Nat.le_of_ble_eq_true rfl, Nat.le_of_ble_eq_true rfl⟩) ?_
                          refine lv_topi (fun v_26 ev_26 => ?_)
                          refine lv_iload hx hb dL_waves_266 (lv_at hl 2 rfl) ?_
                          refine lv_ineg hx hb dL_waves_268 ?_
                          refine lv_icmp_ne (tgt := 304) hx hb dL_waves_269 (by decide) (fun c_27 => ?_) (fun c_27 => ?_)
                          · skip
                            -- bad leaf 8
                            rw [ev_26, ev_19, ev_17, ev_1] at c_27
                            exact (c_27 (rs_C (rel_22 hR) (Nat.le_of_lt_succ hk_17) (Nat.le_of_lt_succ hk_1))).elim
                          · skip
                            refine lv_aload_n hx hb dL_waves_272 rfl (lv_at hl 9 rfl) ?_
                            refine lv_iload hx hb dL_waves_273 (lv_at hl 4 rfl) ?_
                            refine lv_iload hx hb dL_waves_275 (lv_at hl 3 rfl) ?_
                            refine lv_sipush (v := 9000) hx hb dL_waves_277 (by decide) ?_
                            refine z_Ri (va_runV (As := [.int v_17, .int v_18, .int (9000 : Int32)]) (rest := []) ⟨hx, hb, hml, hown, hts⟩ (d_X9_restAt l D cA g (v_17) (v_18) (9000 : Int32) hR) (cwV 3 hts gL_waves_X9_restAt rfl rfl rfl (by decide +kernel) ⟨Nat.le_of_ble_eq_true rfl, Nat.le_of_ble_eq_true rfl⟩) (zqVR (wr := []) (wc := zTr cA g t) hK hP hN (List.Perm.refl _) 0 rfl rfl) rfl rfl hl.1 rfl (lv_room (Nat.le_of_ble_eq_true rfl)) dL_waves_280 ⟨Nat.le_of_ble_eq_true rfl, Nat.le_of_ble_eq_true rfl⟩) ?_
                            refine lv_topi (fun v_28 ev_28 => ?_)
                            refine lv_iload hx hb dL_waves_283 (lv_at hl 2 rfl) ?_
                            refine lv_icmp_ne (tgt := 304) hx hb dL_waves_285 (by decide) (fun c_29 => ?_) (fun c_29 => ?_)
                            · skip
                              -- bad leaf 9
                              rw [ev_28, ev_19, ev_18, ev_17, ev_1] at c_29
                              exact (c_29 (rs_DE (k := k_1) (rel_22 hR) (Nat.le_of_lt_succ hk_17) (Nat.le_of_lt_succ hk_1) (Nat.le_of_lt_succ hk_18) ⟨by decide, by decide⟩ cos_27)).elim
                            · skip
                              refine lv_aload_n hx hb dL_waves_288 rfl (lv_at hl 9 rfl) ?_
                              refine lv_iload hx hb dL_waves_289 (lv_at hl 4 rfl) ?_
                              refine lv_iload hx hb dL_waves_291 (lv_at hl 3 rfl) ?_
                              refine lv_sipush (v := 27000) hx hb dL_waves_293 (by decide) ?_
                              refine z_Ri (va_runV (As := [.int v_17, .int v_18, .int (27000 : Int32)]) (rest := []) ⟨hx, hb, hml, hown, hts⟩ (d_X9_restAt l D cA g (v_17) (v_18) (27000 : Int32) hR) (cwV 3 hts gL_waves_X9_restAt rfl rfl rfl (by decide +kernel) ⟨Nat.le_of_ble_eq_true rfl, Nat.le_of_ble_eq_true rfl⟩) (zqVR (wr := []) (wc := zTr cA g t) hK hP hN (List.Perm.refl _) 0 rfl rfl) rfl rfl hl.1 rfl (lv_room (Nat.le_of_ble_eq_true rfl)) dL_waves_296 ⟨Nat.le_of_ble_eq_true rfl, Nat.le_of_ble_eq_true rfl⟩) ?_
                              refine lv_topi (fun v_30 ev_30 => ?_)
                              refine lv_iload hx hb dL_waves_299 (lv_at hl 2 rfl) ?_
                              refine lv_icmp_eq (tgt := 306) hx hb dL_waves_301 (by decide) (fun c_31 => ?_) (fun c_31 => ?_)
                              · skip
                                refine lv_aload_n hx hb dL_waves_306 rfl (lv_at hl 9 rfl) ?_
                                refine lv_iload hx hb dL_waves_307 (lv_at hl 4 rfl) ?_
                                refine lv_iload hx hb dL_waves_309 (lv_at hl 3 rfl) ?_
                                refine lv_iload_n hx hb dL_waves_311 rfl (lv_at hl 8 rfl) ?_
                                refine z_Ri (va_runV (As := [.int v_17, .int v_18, .int v_1]) (rest := []) ⟨hx, hb, hml, hown, hts⟩ (d_X9_restAt l D cA g (v_17) (v_18) (v_1) hR) (cwV 3 hts gL_waves_X9_restAt rfl rfl rfl (by decide +kernel) ⟨Nat.le_of_ble_eq_true rfl, Nat.le_of_ble_eq_true rfl⟩) (zqVR (wr := []) (wc := zTr cA g t) hK hP hN (List.Perm.refl _) 0 rfl rfl) rfl rfl hl.1 rfl (lv_room (Nat.le_of_ble_eq_true rfl)) dL_waves_312 ⟨Nat.le_of_ble_eq_true rfl, Nat.le_of_ble_eq_true rfl⟩) ?_
                                refine lv_topi (fun v_32 ev_32 => ?_)
                                refine lv_iload hx hb dL_waves_315 (lv_at hl 2 rfl) ?_
                                refine lv_isub hx hb dL_waves_317 ?_
                                refine lv_iload hx hb dL_waves_318 (lv_at hl 2 rfl) ?_
                                refine lv_aload_n hx hb dL_waves_320 rfl (lv_at hl 9 rfl) ?_
                                refine lv_iload hx hb dL_waves_321 (lv_at hl 4 rfl) ?_
                                refine lv_iload hx hb dL_waves_323 (lv_at hl 3 rfl) ?_
                                refine lv_sipush (v := 18000) hx hb dL_waves_325 (by decide) ?_
                                refine lv_iload_n hx hb dL_waves_328 rfl (lv_at hl 8 rfl) ?_
                                refine lv_isub hx hb dL_waves_329 ?_
                                refine z_Ri (va_runV (As := [.int v_17, .int v_18, .int ((18000 : Int32) - v_1)]) (rest := [.int v_19, .int (v_32 - v_19)]) ⟨hx, hb, hml, hown, hts⟩ (d_X9_restAt l D cA g (v_17) (v_18) ((18000 : Int32) - v_1) hR) (cwV 3 hts gL_waves_X9_restAt rfl rfl rfl (by decide +kernel) ⟨Nat.le_of_ble_eq_true rfl, Nat.le_of_ble_eq_true rfl⟩) (zqVR (wr := []) (wc := zTr cA g t) hK hP hN (List.Perm.refl _) 0 rfl rfl) rfl rfl hl.1 rfl (lv_room (Nat.le_of_ble_eq_true rfl)) dL_waves_330 ⟨Nat.le_of_ble_eq_true rfl, Nat.le_of_ble_eq_true rfl⟩) ?_
                                refine lv_topi (fun v_33 ev_33 => ?_)
                                refine lv_isub hx hb dL_waves_333 ?_
                                refine lv_icmp_ne (tgt := 362) hx hb dL_waves_334 (by decide) (fun c_34 => ?_) (fun c_34 => ?_)
                                · skip
                                  -- bad leaf 10
                                  rw [ev_33, ev_32, ev_19, ev_18, ev_17, ev_1] at c_34
                                  exact (c_34 (rs_F (rel_22 hR) (Nat.le_of_lt_succ hk_17) (Nat.le_of_lt_succ hk_1) (Nat.le_of_lt_succ hk_18))).elim
                                · skip
                                  refine lv_aload_n hx hb dL_waves_337 rfl (lv_at hl 9 rfl) ?_
                                  refine lv_iload hx hb dL_waves_338 (lv_at hl 4 rfl) ?_
                                  refine lv_iload hx hb dL_waves_340 (lv_at hl 3 rfl) ?_
                                  refine lv_iconst (v := 0) hx hb dL_waves_342 (by decide) ?_
                                  refine z_Ri (va_runV (As := [.int v_17, .int v_18, .int (0 : Int32)]) (rest := []) ⟨hx, hb, hml, hown, hts⟩ (d_X9_restAt l D cA g (v_17) (v_18) (0 : Int32) hR) (cwV 3 hts gL_waves_X9_restAt rfl rfl rfl (by decide +kernel) ⟨Nat.le_of_ble_eq_true rfl, Nat.le_of_ble_eq_true rfl⟩) (zqVR (wr := []) (wc := zTr cA g t) hK hP hN (List.Perm.refl _) 0 rfl rfl) rfl rfl hl.1 rfl (lv_room (Nat.le_of_ble_eq_true rfl)) dL_waves_343 ⟨Nat.le_of_ble_eq_true rfl, Nat.le_of_ble_eq_true rfl⟩) ?_
                                  refine lv_topi (fun v_35 ev_35 => ?_)
                                  refine lv_aload_n hx hb dL_waves_346 rfl (lv_at hl 9 rfl) ?_
                                  refine lv_iload hx hb dL_waves_347 (lv_at hl 4 rfl) ?_
                                  refine lv_iload hx hb dL_waves_349 (lv_at hl 3 rfl) ?_
                                  refine lv_iload_n hx hb dL_waves_351 rfl (lv_at hl 8 rfl) ?_
                                  refine z_Ri (va_runV (As := [.int v_17, .int v_18, .int v_1]) (rest := [.int v_35]) ⟨hx, hb, hml, hown, hts⟩ (d_X9_restAt l D cA g (v_17) (v_18) (v_1) hR) (cwV 3 hts gL_waves_X9_restAt rfl rfl rfl (by decide +kernel) ⟨Nat.le_of_ble_eq_true rfl, Nat.le_of_ble_eq_true rfl⟩) (zqVR (wr := []) (wc := zTr cA g t) hK hP hN (List.Perm.refl _) 0 rfl rfl) rfl rfl hl.1 rfl (lv_room (Nat.le_of_ble_eq_true rfl)) dL_waves_352 ⟨Nat.le_of_ble_eq_true rfl, Nat.le_of_ble_eq_true rfl⟩) ?_
                                  refine lv_topi (fun v_36 ev_36 => ?_)
                                  refine lv_icmp_gt (tgt := 362) hx hb dL_waves_355 (by decide) (fun c_37 => ?_) (fun c_37 => ?_)
                                  · skip
                                    -- bad leaf 11
                                    rw [ev_36, ev_35, ev_18, ev_17, ev_1] at c_37
                                    exact (rs_G (rel_22 hR) (Nat.le_of_lt_succ hk_17) (Nat.le_of_lt_succ hk_1) (Nat.le_of_lt_succ hk_18) c_37).elim
                                  · skip
                                    refine lv_iconst (v := 1) hx hb dL_waves_358 (by decide) ?_
                                    refine lv_goto (tgt := 363) hx hb dL_waves_359 (by decide) ?_
                                    subst hQ
                                    exact W.zret (ty := .boolean) (v := 1) hx hb hr rfl (fun t ht hW => ⟨_, rfl, rfl, ht⟩) (fun q h => by cases h) dL_waves_363
                              · skip
                                -- bad leaf 12
                                rw [ev_30, ev_19, ev_18, ev_17, ev_1] at c_31
                                exact (c_31 (rs_DE (k := k_1) (rel_22 hR) (Nat.le_of_lt_succ hk_17) (Nat.le_of_lt_succ hk_1) (Nat.le_of_lt_succ hk_18) ⟨by decide, by decide⟩ cos_9)).elim
                    · skip
                      have c_16 : ¬ (y_14 ≤ (1010000000000 : Int64)) := fun h => kc_16 ((lg_cmp_le _ _).mpr h)
                      -- bad leaf 13
                      rw [ey_14, ev_3, ev_2, ev_1] at c_16
                      exact (c_16 (Int64.not_lt.mp (wf_11 (Nat.le_of_lt_succ hk_1)))).elim
                refine lv_icmp_ge (tgt := 132) hx hb dL_waves_115 (by decide) (fun c_38 => ?_) (fun c_38 => ?_)
                · skip
                  exact J132  (Or.inl c_38) ls (lv_sub hl [0, 1, 2, 3, 4] rfl)
                · skip
                  refine lv_aload_n hx hb dL_waves_118 rfl (lv_at hl 3 rfl) ?_
                  refine lv_iload_n hx hb dL_waves_119 rfl (lv_at hl 2 rfl) ?_
                  refine lv_iconst (v := 1) hx hb dL_waves_120 (by decide) ?_
                  refine lv_iadd hx hb dL_waves_121 ?_
                  refine lv_iconst (v := 0) hx hb dL_waves_122 (by decide) ?_
                  refine z_Ri (va_runV (As := [.int (v_1 + (1 : Int32)), .int (0 : Int32)]) (rest := []) ⟨hx, hb, hml, hown, hts⟩ (d_X9_wave l D cA g (v_1 + (1 : Int32)) (0 : Int32) hR) (cwV 2 hts gL_waves_X9_wave rfl rfl rfl (by decide +kernel) ⟨Nat.le_of_ble_eq_true rfl, Nat.le_of_ble_eq_true rfl⟩) (zqVR (wr := []) (wc := zTr cA g t) hK hP hN (List.Perm.refl _) 0 rfl rfl) rfl rfl hl.1 rfl (lv_room (Nat.le_of_ble_eq_true rfl)) dL_waves_123 ⟨Nat.le_of_ble_eq_true rfl, Nat.le_of_ble_eq_true rfl⟩) ?_
                  refine lv_topi (fun v_39 ev_39 => ?_)
                  refine lv_iload_n hx hb dL_waves_126 rfl (lv_at hl 1 rfl) ?_
                  refine lv_icmp_ge (tgt := 132) hx hb dL_waves_127 (by decide) (fun c_40 => ?_) (fun c_40 => ?_)
                  · skip
                    subst ev_39
                    exact J132  (Or.inr ⟨c_38, c_40⟩) ls (lv_sub hl [0, 1, 2, 3, 4] rfl)
                  · skip
                    -- bad leaf 14
                    rw [ev_1] at c_38
                    rw [ev_39, ev_2, ev_1] at c_40
                    exact (c_40 (Int32.not_lt.mp (wf_8 (Nat.le_of_lt_succ hk_1) c_38))).elim
              · skip
                -- bad leaf 15
                rw [ev_12, ev_2, ev_1] at c_13
                exact (c_13 (wf_7 (Nat.le_of_lt_succ hk_1))).elim
        refine lv_if_le (tgt := 65) hx hb dL_waves_48 (by decide) (fun c_41 => ?_) (fun c_41 => ?_)
        · skip
          exact J65  (Or.inl c_41) ls (lv_sub hl [0, 1, 2, 3, 4] rfl)
        · skip
          refine lv_aload_n hx hb dL_waves_51 rfl (lv_at hl 3 rfl) ?_
          refine lv_ldc hx hb hown (hts (.constant RL 64 (36000)) (List.mem_of_getElem? (i := 2) rfl)) dL_waves_52 ?_
          refine lv_iload_n hx hb dL_waves_54 rfl (lv_at hl 2 rfl) ?_
          refine lv_isub hx hb dL_waves_55 ?_
          refine lv_iconst (v := 0) hx hb dL_waves_56 (by decide) ?_
          refine z_Ri (va_runV (As := [.int ((36000 : Int32) - v_1), .int (0 : Int32)]) (rest := []) ⟨hx, hb, hml, hown, hts⟩ (d_X9_wave l D cA g ((36000 : Int32) - v_1) (0 : Int32) hR) (cwV 2 hts gL_waves_X9_wave rfl rfl rfl (by decide +kernel) ⟨Nat.le_of_ble_eq_true rfl, Nat.le_of_ble_eq_true rfl⟩) (zqVR (wr := []) (wc := zTr cA g t) hK hP hN (List.Perm.refl _) 0 rfl rfl) rfl rfl hl.1 rfl (lv_room (Nat.le_of_ble_eq_true rfl)) dL_waves_57 ⟨Nat.le_of_ble_eq_true rfl, Nat.le_of_ble_eq_true rfl⟩) ?_
          refine lv_topi (fun v_42 ev_42 => ?_)
          refine lv_iload_n hx hb dL_waves_60 rfl (lv_at hl 1 rfl) ?_
          refine lv_ineg hx hb dL_waves_61 ?_
          refine lv_icmp_ne (tgt := 109) hx hb dL_waves_62 (by decide) (fun c_43 => ?_) (fun c_43 => ?_)
          · skip
            -- bad leaf 16
            rw [ev_1] at c_41
            rw [ev_42, ev_2, ev_1] at c_43
            exact (c_43 (wf_4 (Nat.le_of_lt_succ hk_1) c_41)).elim
          · skip
            subst ev_42
            exact J65  (Or.inr ⟨c_41, c_43⟩) ls (lv_sub hl [0, 1, 2, 3, 4] rfl)
