set_option maxHeartbeats 4000000 in
set_option maxRecDepth 100000 in
theorem c_L_trust (l : Launch) (D : va_G) (cA : Nat → ClassId) (g : Nat → Nat) {t : vTv} {w : vX10} (hR : Rel t w) : Met l yL_trust wsL_trust ({ frames := 5, cells := 0, slots := 0, locals := 126 }) (va_Pc [.ref (g 0)] (zPreR D (zty cA) (zTr cA g t))) (vp_Si (fun x => x = 1)) 0 0 (fun _ => False) := by
  refine Met.ofW (cc := cL_trust) (maxL := 6) (ret := (some .boolean)) (by decide) rfl ?_
  intro p e s m args below meth c s₁ B hml hv
  obtain ⟨rfl, hP, hK, hN⟩ := hv
  have hx := B.exec
  have hb := B.bytes
  have hr := B.returns
  have hts := atoms_spec (ws := wsL_trust) B.pre
  have hown : s.vm.findClass RL = some m.cls := findClass_of_methodNamed B.named
  have hP : va_P D vwCl (zTr cA g t) s.heap := hP
  have hl := lv_entry ([.ref (g 0)]) (n := 6) (Nat.le_of_ble_eq_true rfl)
  rw [lg_entry_eq]
  generalize (lg_sl ([.ref (g 0)]) ++ List.replicate (6 - (lg_sl ([.ref (g 0)])).length) Slot.unset).toArray = ls at hl ⊢
  have hl : lv_has ls 6 [(0, .ref (g 0))] := hl
  refine z_genQ (fun Q hQ => ?_)
  refine lv_aload_n hx hb dL_trust_0 rfl (lv_at hl 0 rfl) ?_
  refine lv_bipush (v := 13) hx hb dL_trust_1 (by decide) ?_
  refine z_Ri (va_runV (As := [.int (13 : Int32)]) (rest := []) ⟨hx, hb, hml, hown, hts⟩ (d_X9_state l D cA g (13 : Int32) hR) (cwV 1 hts gL_trust_X9_state rfl rfl rfl (by decide +kernel) ⟨Nat.le_of_ble_eq_true rfl, Nat.le_of_ble_eq_true rfl⟩) (zqVR (wr := []) (wc := zTr cA g t) hK hP hN (List.Perm.refl _) 0 rfl rfl) rfl rfl hl.1 rfl (lv_room (Nat.le_of_ble_eq_true rfl)) dL_trust_3 ⟨Nat.le_of_ble_eq_true rfl, Nat.le_of_ble_eq_true rfl⟩) ?_
  refine lv_topi (fun v_1 ev_1 => ?_)
  rw [fs_13] at ev_1
  refine lv_istore_n (lv' := [(1, .int v_1), (0, .ref (g 0))]) hx hb dL_trust_6 rfl hl (by decide) rfl (fun ls hl => ?_)
  refine lv_iconst (v := 0) hx hb dL_trust_7 (by decide) ?_
  refine lv_istore_n (lv' := [(2, .int (0 : Int32)), (1, .int v_1), (0, .ref (g 0))]) hx hb dL_trust_8 rfl hl (by decide) rfl (fun ls hl => ?_)
  have L9 : ∀ (zn : Nat) (k : Nat), 8 - k < zn → (k ≤ 8) → ∀ (ls : Array Slot), lv_has ls 6 [(2, .int (nI k)), (1, .int v_1), (0, .ref (g 0))] → W p l e (headSpec wsL_trust ({ frames := 5, cells := 0, slots := 0, locals := 126 })).room s m (([.ref (g 0)] : List Value).toArray) below meth c s.heap [] 0 0 Q (F0 m 9 ls []) := by
    intro zn
    induction zn with
    | zero =>
      intro k hm
      exact absurd hm (Nat.not_lt_zero _)
    | succ zn ih =>
      intro k hm hk ls hl
      refine lv_iload_n hx hb dL_trust_9 rfl (lv_at hl 0 rfl) ?_
      refine lv_iconst (v := 1) hx hb dL_trust_10 (by decide) ?_
      refine lv_iadd hx hb dL_trust_11 ?_
      refine lv_iload_n hx hb dL_trust_12 rfl (lv_at hl 1 rfl) ?_
      refine lv_icmp_ge (tgt := 41) hx hb dL_trust_13 (by decide) (fun c_2 => ?_) (fun c_2 => ?_)
      · skip
        refine lv_aload_n hx hb dL_trust_41 rfl (lv_at hl 2 rfl) ?_
        refine lv_iload_n hx hb dL_trust_42 rfl (lv_at hl 1 rfl) ?_
        refine lv_iconst (v := 0) hx hb dL_trust_43 (by decide) ?_
        refine z_Ri (va_runV (As := [.int v_1, .int (0 : Int32)]) (rest := []) ⟨hx, hb, hml, hown, hts⟩ (d_X9_turn l D cA g (v_1) (0 : Int32) hR) (cwV 2 hts gL_trust_X9_turn rfl rfl rfl (by decide +kernel) ⟨Nat.le_of_ble_eq_true rfl, Nat.le_of_ble_eq_true rfl⟩) (zqVR (wr := []) (wc := zTr cA g t) hK hP hN (List.Perm.refl _) 0 rfl rfl) rfl rfl hl.1 rfl (lv_room (Nat.le_of_ble_eq_true rfl)) dL_trust_44 ⟨Nat.le_of_ble_eq_true rfl, Nat.le_of_ble_eq_true rfl⟩) ?_
        refine lv_topi (fun v_3 ev_3 => ?_)
        refine lv_ldc hx hb hown (hts (.constant RL 144 (-1000000001)) (List.mem_of_getElem? (i := 1) rfl)) dL_trust_47 ?_
        refine lv_icmp_ne (tgt := 67) hx hb dL_trust_49 (by decide) (fun c_4 => ?_) (fun c_4 => ?_)
        · skip
          -- bad leaf 0
          rw [ev_3, ev_1] at c_4
          exact (c_4 (tr_0 hR)).elim
        · skip
          refine lv_aload_n hx hb dL_trust_52 rfl (lv_at hl 2 rfl) ?_
          refine lv_aload_n hx hb dL_trust_53 rfl (lv_at hl 2 rfl) ?_
          refine lv_bipush (v := 15) hx hb dL_trust_54 (by decide) ?_
          refine z_Ri (va_runV (As := [.int (15 : Int32)]) (rest := [.ref (g 0)]) ⟨hx, hb, hml, hown, hts⟩ (d_X9_state l D cA g (15 : Int32) hR) (cwV 1 hts gL_trust_X9_state rfl rfl rfl (by decide +kernel) ⟨Nat.le_of_ble_eq_true rfl, Nat.le_of_ble_eq_true rfl⟩) (zqVR (wr := []) (wc := zTr cA g t) hK hP hN (List.Perm.refl _) 0 rfl rfl) rfl rfl hl.1 rfl (lv_room (Nat.le_of_ble_eq_true rfl)) dL_trust_56 ⟨Nat.le_of_ble_eq_true rfl, Nat.le_of_ble_eq_true rfl⟩) ?_
          refine lv_topi (fun v_5 ev_5 => ?_)
          rw [fs_15] at ev_5
          refine z_Ri (va_runV (As := [.int v_5]) (rest := []) ⟨hx, hb, hml, hown, hts⟩ (d_X9_check l D cA g (v_5) hR) (cwV 1 hts gL_trust_X9_check rfl rfl rfl (by decide +kernel) ⟨Nat.le_of_ble_eq_true rfl, Nat.le_of_ble_eq_true rfl⟩) (zqVR (wr := []) (wc := zTr cA g t) hK hP hN (List.Perm.refl _) 0 rfl rfl) rfl rfl hl.1 rfl (lv_room (Nat.le_of_ble_eq_true rfl)) dL_trust_59 ⟨Nat.le_of_ble_eq_true rfl, Nat.le_of_ble_eq_true rfl⟩) ?_
          refine lv_topi (fun v_6 ev_6 => ?_)
          refine lv_ldc hx hb hown (hts (.constant RL 144 (-1000000001)) (List.mem_of_getElem? (i := 1) rfl)) dL_trust_62 ?_
          refine lv_icmp_eq (tgt := 69) hx hb dL_trust_64 (by decide) (fun c_7 => ?_) (fun c_7 => ?_)
          · skip
            refine lv_iload_n hx hb dL_trust_69 rfl (lv_at hl 1 rfl) ?_
            refine lv_iconst (v := 2) hx hb dL_trust_70 (by decide) ?_
            have J79 : ∀ (j79_s0 : Int32) (ej79 : (((2 : Int32) ≤ v_1) ∧ j79_s0 = (0 : Int32)) ∨ ((¬ ((2 : Int32) ≤ v_1)) ∧ j79_s0 = (1 : Int32))), ∀ (ls : Array Slot), lv_has ls 6 [(2, .int (nI k)), (1, .int v_1), (0, .ref (g 0))] → W p l e (headSpec wsL_trust ({ frames := 5, cells := 0, slots := 0, locals := 126 })).room s m (([.ref (g 0)] : List Value).toArray) below meth c s.heap [] 0 0 Q (F0 m 79 ls [.int j79_s0]) := by
              intro j79_s0 ej79 ls hl
              refine lv_aload_n hx hb dL_trust_79 rfl (lv_at hl 2 rfl) ?_
              refine lv_bipush (v := 6) hx hb dL_trust_80 (by decide) ?_
              refine z_Ri (va_runV (As := [.int (6 : Int32)]) (rest := [.int j79_s0]) ⟨hx, hb, hml, hown, hts⟩ (d_X9_compass l D cA g (6 : Int32) hR) (cwV 1 hts gL_trust_X9_compass rfl rfl rfl (by decide +kernel) ⟨Nat.le_of_ble_eq_true rfl, Nat.le_of_ble_eq_true rfl⟩) (zqVR (wr := []) (wc := zTr cA g t) hK hP hN (List.Perm.refl _) 0 rfl rfl) rfl rfl hl.1 rfl (lv_room (Nat.le_of_ble_eq_true rfl)) dL_trust_82 ⟨Nat.le_of_ble_eq_true rfl, Nat.le_of_ble_eq_true rfl⟩) ?_
              refine lv_topi (fun v_8 ev_8 => ?_)
              rw [fk_6] at ev_8
              refine lv_ldc hx hb hown (hts (.constant RL 145 (-1000000006)) (List.mem_of_getElem? (i := 2) rfl)) dL_trust_85 ?_
              have J95 : ∀ (j95_s1 : Int32) (ej95 : ((¬ (v_8 = (-1000000006 : Int32))) ∧ j95_s1 = (0 : Int32)) ∨ ((v_8 = (-1000000006 : Int32)) ∧ j95_s1 = (1 : Int32))), ∀ (ls : Array Slot), lv_has ls 6 [(2, .int (nI k)), (1, .int v_1), (0, .ref (g 0))] → W p l e (headSpec wsL_trust ({ frames := 5, cells := 0, slots := 0, locals := 126 })).room s m (([.ref (g 0)] : List Value).toArray) below meth c s.heap [] 0 0 Q (F0 m 95 ls [.int j95_s1, .int j79_s0]) := by
                intro j95_s1 ej95 ls hl
                refine lv_icmp_ne (tgt := 125) hx hb dL_trust_95 (by decide) (fun c_9 => ?_) (fun c_9 => ?_)
                · skip
                  -- bad leaf 1
                  rw [ev_1] at ej79
                  rw [ev_8] at ej95
                  exact (c_9 (tr_1 hR ej79 ej95)).elim
                · skip
                  refine lv_iload_n hx hb dL_trust_98 rfl (lv_at hl 1 rfl) ?_
                  refine lv_iconst (v := 1) hx hb dL_trust_99 (by decide) ?_
                  have J127 : ∀ (ej127 : ((v_1 ≤ (1 : Int32))) ∨ ((¬ (v_1 ≤ (1 : Int32))) ∧ (((if 2 ≤ w.1 13 then w.1 58 - w.1 60 else -1000000006)) = (((fm_turn w.1 (0 : Int32) (0 : Int32))) - ((fm_turn w.1 (1 : Int32) (0 : Int32))))))), ∀ (ls : Array Slot), lv_has ls 6 [(2, .int (nI k)), (1, .int v_1), (0, .ref (g 0))] → W p l e (headSpec wsL_trust ({ frames := 5, cells := 0, slots := 0, locals := 126 })).room s m (([.ref (g 0)] : List Value).toArray) below meth c s.heap [] 0 0 Q (F0 m 127 ls []) := by
                    intro ej127 ls hl
                    refine lv_iload_n hx hb dL_trust_127 rfl (lv_at hl 1 rfl) ?_
                    refine lv_iconst (v := 3) hx hb dL_trust_128 (by decide) ?_
                    refine lv_icmp_ge (tgt := 166) hx hb dL_trust_129 (by decide) (fun c_10 => ?_) (fun c_10 => ?_)
                    · skip
                      refine lv_aload_n hx hb dL_trust_166 rfl (lv_at hl 2 rfl) ?_
                      refine lv_iconst (v := 2) hx hb dL_trust_167 (by decide) ?_
                      refine lv_iconst (v := 0) hx hb dL_trust_168 (by decide) ?_
                      refine z_Ri (va_runV (As := [.int (2 : Int32), .int (0 : Int32)]) (rest := []) ⟨hx, hb, hml, hown, hts⟩ (d_X9_turn l D cA g (2 : Int32) (0 : Int32) hR) (cwV 2 hts gL_trust_X9_turn rfl rfl rfl (by decide +kernel) ⟨Nat.le_of_ble_eq_true rfl, Nat.le_of_ble_eq_true rfl⟩) (zqVR (wr := []) (wc := zTr cA g t) hK hP hN (List.Perm.refl _) 0 rfl rfl) rfl rfl hl.1 rfl (lv_room (Nat.le_of_ble_eq_true rfl)) dL_trust_169 ⟨Nat.le_of_ble_eq_true rfl, Nat.le_of_ble_eq_true rfl⟩) ?_
                      refine lv_topi (fun v_11 ev_11 => ?_)
                      refine lv_iconst (v := 2) hx hb dL_trust_172 (by decide) ?_
                      refine lv_aload_n hx hb dL_trust_173 rfl (lv_at hl 2 rfl) ?_
                      refine lv_iconst (v := 1) hx hb dL_trust_174 (by decide) ?_
                      refine lv_iconst (v := 0) hx hb dL_trust_175 (by decide) ?_
                      refine z_Ri (va_runV (As := [.int (1 : Int32), .int (0 : Int32)]) (rest := [.int (2 : Int32), .int v_11]) ⟨hx, hb, hml, hown, hts⟩ (d_X9_turn l D cA g (1 : Int32) (0 : Int32) hR) (cwV 2 hts gL_trust_X9_turn rfl rfl rfl (by decide +kernel) ⟨Nat.le_of_ble_eq_true rfl, Nat.le_of_ble_eq_true rfl⟩) (zqVR (wr := []) (wc := zTr cA g t) hK hP hN (List.Perm.refl _) 0 rfl rfl) rfl rfl hl.1 rfl (lv_room (Nat.le_of_ble_eq_true rfl)) dL_trust_176 ⟨Nat.le_of_ble_eq_true rfl, Nat.le_of_ble_eq_true rfl⟩) ?_
                      refine lv_topi (fun v_12 ev_12 => ?_)
                      refine lv_imul hx hb dL_trust_179 ?_
                      refine lv_iadd hx hb dL_trust_180 ?_
                      refine lv_aload_n hx hb dL_trust_181 rfl (lv_at hl 2 rfl) ?_
                      refine lv_iconst (v := 0) hx hb dL_trust_182 (by decide) ?_
                      refine lv_iconst (v := 0) hx hb dL_trust_183 (by decide) ?_
                      refine z_Ri (va_runV (As := [.int (0 : Int32), .int (0 : Int32)]) (rest := [.int (v_11 + ((2 : Int32) * v_12))]) ⟨hx, hb, hml, hown, hts⟩ (d_X9_turn l D cA g (0 : Int32) (0 : Int32) hR) (cwV 2 hts gL_trust_X9_turn rfl rfl rfl (by decide +kernel) ⟨Nat.le_of_ble_eq_true rfl, Nat.le_of_ble_eq_true rfl⟩) (zqVR (wr := []) (wc := zTr cA g t) hK hP hN (List.Perm.refl _) 0 rfl rfl) rfl rfl hl.1 rfl (lv_room (Nat.le_of_ble_eq_true rfl)) dL_trust_184 ⟨Nat.le_of_ble_eq_true rfl, Nat.le_of_ble_eq_true rfl⟩) ?_
                      refine lv_topi (fun v_13 ev_13 => ?_)
                      refine lv_iadd hx hb dL_trust_187 ?_
                      refine lv_iconst (v := 4) hx hb dL_trust_188 (by decide) ?_
                      refine lv_idiv hx hb dL_trust_189 (by decide) ?_
                      refine lv_topi (fun y_14 ey_14 => ?_)
                      refine lv_istore_n (lv' := [(2, .int y_14), (1, .int v_1), (0, .ref (g 0))]) hx hb dL_trust_190 rfl hl (by decide) rfl (fun ls hl => ?_)
                      refine lv_aload_n hx hb dL_trust_191 rfl (lv_at hl 2 rfl) ?_
                      refine lv_iconst (v := 4) hx hb dL_trust_192 (by decide) ?_
                      refine z_Ri (va_runV (As := [.int (4 : Int32)]) (rest := []) ⟨hx, hb, hml, hown, hts⟩ (d_X9_compass l D cA g (4 : Int32) hR) (cwV 1 hts gL_trust_X9_compass rfl rfl rfl (by decide +kernel) ⟨Nat.le_of_ble_eq_true rfl, Nat.le_of_ble_eq_true rfl⟩) (zqVR (wr := []) (wc := zTr cA g t) hK hP hN (List.Perm.refl _) 0 rfl rfl) rfl rfl hl.1 rfl (lv_room (Nat.le_of_ble_eq_true rfl)) dL_trust_193 ⟨Nat.le_of_ble_eq_true rfl, Nat.le_of_ble_eq_true rfl⟩) ?_
                      refine lv_topi (fun v_15 ev_15 => ?_)
                      rw [fk_4] at ev_15
                      refine lv_iload_n hx hb dL_trust_196 rfl (lv_at hl 0 rfl) ?_
                      refine lv_icmp_eq (tgt := 202) hx hb dL_trust_197 (by decide) (fun c_16 => ?_) (fun c_16 => ?_)
                      · skip
                        have h3 : 3 ≤ w.1 13 := by rw [← ev_1]; exact c_10
                        have ey_14 : y_14 = fm_settled w.1 := by rw [← c_16, ev_15, if_pos h3]
                        refine lv_aload_n hx hb dL_trust_202 rfl (lv_at hl 2 rfl) ?_
                        refine lv_iconst (v := 5) hx hb dL_trust_203 (by decide) ?_
                        refine z_Ri (va_runV (As := [.int (5 : Int32)]) (rest := []) ⟨hx, hb, hml, hown, hts⟩ (d_X9_compass l D cA g (5 : Int32) hR) (cwV 1 hts gL_trust_X9_compass rfl rfl rfl (by decide +kernel) ⟨Nat.le_of_ble_eq_true rfl, Nat.le_of_ble_eq_true rfl⟩) (zqVR (wr := []) (wc := zTr cA g t) hK hP hN (List.Perm.refl _) 0 rfl rfl) rfl rfl hl.1 rfl (lv_room (Nat.le_of_ble_eq_true rfl)) dL_trust_204 ⟨Nat.le_of_ble_eq_true rfl, Nat.le_of_ble_eq_true rfl⟩) ?_
                        refine lv_topi (fun v_17 ev_17 => ?_)
                        rw [fk_5] at ev_17
                        refine lv_istore_n (lv' := [(3, .int v_17), (2, .int y_14), (1, .int v_1), (0, .ref (g 0))]) hx hb dL_trust_207 rfl hl (by decide) rfl (fun ls hl => ?_)
                        have ev_17 : v_17 = fm_mean w.1 w.2.1 := by rw [ev_17, if_pos h3]
                        refine lv_aload_n hx hb dL_trust_208 rfl (lv_at hl 3 rfl) ?_
                        refine z_Ri (va_runV (As := []) (rest := []) ⟨hx, hb, hml, hown, hts⟩ (d_X9_reason l D cA g  hR) (cwV 0 hts gL_trust_X9_reason rfl rfl rfl (by decide +kernel) ⟨Nat.le_of_ble_eq_true rfl, Nat.le_of_ble_eq_true rfl⟩) (zqVR (wr := []) (wc := zTr cA g t) hK hP hN (List.Perm.refl _) 0 rfl rfl) rfl rfl hl.1 rfl (lv_room (Nat.le_of_ble_eq_true rfl)) dL_trust_209 ⟨Nat.le_of_ble_eq_true rfl, Nat.le_of_ble_eq_true rfl⟩) ?_
                        refine lv_topi (fun v_18 ev_18 => ?_)
                        refine lv_istore (lv' := [(4, .int v_18), (3, .int v_17), (2, .int y_14), (1, .int v_1), (0, .ref (g 0))]) hx hb dL_trust_212 hl (by decide) rfl (fun ls hl => ?_)
                        refine lv_aload_n hx hb dL_trust_214 rfl (lv_at hl 4 rfl) ?_
                        refine lv_bipush (v := 6) hx hb dL_trust_215 (by decide) ?_
                        refine z_Ri (va_runV (As := [.int (6 : Int32)]) (rest := []) ⟨hx, hb, hml, hown, hts⟩ (d_X9_compass l D cA g (6 : Int32) hR) (cwV 1 hts gL_trust_X9_compass rfl rfl rfl (by decide +kernel) ⟨Nat.le_of_ble_eq_true rfl, Nat.le_of_ble_eq_true rfl⟩) (zqVR (wr := []) (wc := zTr cA g t) hK hP hN (List.Perm.refl _) 0 rfl rfl) rfl rfl hl.1 rfl (lv_room (Nat.le_of_ble_eq_true rfl)) dL_trust_217 ⟨Nat.le_of_ble_eq_true rfl, Nat.le_of_ble_eq_true rfl⟩) ?_
                        refine lv_topi (fun v_19 ev_19 => ?_)
                        rw [fk_6] at ev_19
                        refine z_Ri (va_runS (As := [.int v_19]) (rest := []) ⟨hx, hb, hml, hown, hts⟩ (c_L_size l D cA (v_19)  ) (va_cwS 1 hts gL_trust_L_size rfl rfl rfl (by decide +kernel) ⟨Nat.le_of_ble_eq_true rfl, Nat.le_of_ble_eq_true rfl⟩) (zqSR0 hK hN) rfl rfl hl.1 rfl (lv_room (Nat.le_of_ble_eq_true rfl)) dL_trust_220 ⟨Nat.le_of_ble_eq_true rfl, Nat.le_of_ble_eq_true rfl⟩) ?_
                        refine lv_topi (fun v_20 ev_20 => ?_)
                        refine lv_aload_n hx hb dL_trust_223 rfl (lv_at hl 4 rfl) ?_
                        refine lv_bipush (v := 25) hx hb dL_trust_224 (by decide) ?_
                        refine z_Ri (va_runV (As := [.int (25 : Int32)]) (rest := [.int v_20]) ⟨hx, hb, hml, hown, hts⟩ (d_X9_state l D cA g (25 : Int32) hR) (cwV 1 hts gL_trust_X9_state rfl rfl rfl (by decide +kernel) ⟨Nat.le_of_ble_eq_true rfl, Nat.le_of_ble_eq_true rfl⟩) (zqVR (wr := []) (wc := zTr cA g t) hK hP hN (List.Perm.refl _) 0 rfl rfl) rfl rfl hl.1 rfl (lv_room (Nat.le_of_ble_eq_true rfl)) dL_trust_226 ⟨Nat.le_of_ble_eq_true rfl, Nat.le_of_ble_eq_true rfl⟩) ?_
                        refine lv_topi (fun v_21 ev_21 => ?_)
                        rw [fs_25] at ev_21
                        refine lv_icmp_le (tgt := 244) hx hb dL_trust_229 (by decide) (fun c_22 => ?_) (fun c_22 => ?_)
                        · skip
                          refine lv_iload_n hx hb dL_trust_244 rfl (lv_at hl 2 rfl) ?_
                          refine lv_iload_n hx hb dL_trust_245 rfl (lv_at hl 1 rfl) ?_
                          refine lv_isub hx hb dL_trust_246 ?_
                          refine z_Ri (va_runS (As := [.int (y_14 - v_17)]) (rest := []) ⟨hx, hb, hml, hown, hts⟩ (c_L_size l D cA (y_14 - v_17)  ) (va_cwS 1 hts gL_trust_L_size rfl rfl rfl (by decide +kernel) ⟨Nat.le_of_ble_eq_true rfl, Nat.le_of_ble_eq_true rfl⟩) (zqSR0 hK hN) rfl rfl hl.1 rfl (lv_room (Nat.le_of_ble_eq_true rfl)) dL_trust_247 ⟨Nat.le_of_ble_eq_true rfl, Nat.le_of_ble_eq_true rfl⟩) ?_
                          refine lv_topi (fun v_23 ev_23 => ?_)
                          refine lv_aload_n hx hb dL_trust_250 rfl (lv_at hl 4 rfl) ?_
                          refine lv_bipush (v := 26) hx hb dL_trust_251 (by decide) ?_
                          refine z_Ri (va_runV (As := [.int (26 : Int32)]) (rest := [.int v_23]) ⟨hx, hb, hml, hown, hts⟩ (d_X9_state l D cA g (26 : Int32) hR) (cwV 1 hts gL_trust_X9_state rfl rfl rfl (by decide +kernel) ⟨Nat.le_of_ble_eq_true rfl, Nat.le_of_ble_eq_true rfl⟩) (zqVR (wr := []) (wc := zTr cA g t) hK hP hN (List.Perm.refl _) 0 rfl rfl) rfl rfl hl.1 rfl (lv_room (Nat.le_of_ble_eq_true rfl)) dL_trust_253 ⟨Nat.le_of_ble_eq_true rfl, Nat.le_of_ble_eq_true rfl⟩) ?_
                          refine lv_topi (fun v_24 ev_24 => ?_)
                          rw [fs_26] at ev_24
                          refine lv_icmp_le (tgt := 271) hx hb dL_trust_256 (by decide) (fun c_25 => ?_) (fun c_25 => ?_)
                          · skip
                            refine lv_aload_n hx hb dL_trust_271 rfl (lv_at hl 4 rfl) ?_
                            refine lv_bipush (v := 15) hx hb dL_trust_272 (by decide) ?_
                            refine z_Ri (va_runV (As := [.int (15 : Int32)]) (rest := []) ⟨hx, hb, hml, hown, hts⟩ (d_X9_state l D cA g (15 : Int32) hR) (cwV 1 hts gL_trust_X9_state rfl rfl rfl (by decide +kernel) ⟨Nat.le_of_ble_eq_true rfl, Nat.le_of_ble_eq_true rfl⟩) (zqVR (wr := []) (wc := zTr cA g t) hK hP hN (List.Perm.refl _) 0 rfl rfl) rfl rfl hl.1 rfl (lv_room (Nat.le_of_ble_eq_true rfl)) dL_trust_274 ⟨Nat.le_of_ble_eq_true rfl, Nat.le_of_ble_eq_true rfl⟩) ?_
                            refine lv_topi (fun v_26 ev_26 => ?_)
                            rw [fs_15] at ev_26
                            refine lv_iconst (v := 3) hx hb dL_trust_277 (by decide) ?_
                            refine lv_icmp_ge (tgt := 293) hx hb dL_trust_278 (by decide) (fun c_27 => ?_) (fun c_27 => ?_)
                            · skip
                              refine lv_aload_n hx hb dL_trust_293 rfl (lv_at hl 4 rfl) ?_
                              refine lv_iconst (v := 0) hx hb dL_trust_294 (by decide) ?_
                              refine z_Ri (va_runV (As := [.int (0 : Int32)]) (rest := []) ⟨hx, hb, hml, hown, hts⟩ (d_X9_check l D cA g (0 : Int32) hR) (cwV 1 hts gL_trust_X9_check rfl rfl rfl (by decide +kernel) ⟨Nat.le_of_ble_eq_true rfl, Nat.le_of_ble_eq_true rfl⟩) (zqVR (wr := []) (wc := zTr cA g t) hK hP hN (List.Perm.refl _) 0 rfl rfl) rfl rfl hl.1 rfl (lv_room (Nat.le_of_ble_eq_true rfl)) dL_trust_295 ⟨Nat.le_of_ble_eq_true rfl, Nat.le_of_ble_eq_true rfl⟩) ?_
                              refine lv_topi (fun v_28 ev_28 => ?_)
                              refine lv_aload_n hx hb dL_trust_298 rfl (lv_at hl 4 rfl) ?_
                              refine lv_iconst (v := 1) hx hb dL_trust_299 (by decide) ?_
                              refine z_Ri (va_runV (As := [.int (1 : Int32)]) (rest := [.int v_28]) ⟨hx, hb, hml, hown, hts⟩ (d_X9_check l D cA g (1 : Int32) hR) (cwV 1 hts gL_trust_X9_check rfl rfl rfl (by decide +kernel) ⟨Nat.le_of_ble_eq_true rfl, Nat.le_of_ble_eq_true rfl⟩) (zqVR (wr := []) (wc := zTr cA g t) hK hP hN (List.Perm.refl _) 0 rfl rfl) rfl rfl hl.1 rfl (lv_room (Nat.le_of_ble_eq_true rfl)) dL_trust_300 ⟨Nat.le_of_ble_eq_true rfl, Nat.le_of_ble_eq_true rfl⟩) ?_
                              refine lv_topi (fun v_29 ev_29 => ?_)
                              refine lv_iadd hx hb dL_trust_303 ?_
                              refine lv_aload_n hx hb dL_trust_304 rfl (lv_at hl 4 rfl) ?_
                              refine lv_iconst (v := 2) hx hb dL_trust_305 (by decide) ?_
                              refine z_Ri (va_runV (As := [.int (2 : Int32)]) (rest := [.int (v_28 + v_29)]) ⟨hx, hb, hml, hown, hts⟩ (d_X9_check l D cA g (2 : Int32) hR) (cwV 1 hts gL_trust_X9_check rfl rfl rfl (by decide +kernel) ⟨Nat.le_of_ble_eq_true rfl, Nat.le_of_ble_eq_true rfl⟩) (zqVR (wr := []) (wc := zTr cA g t) hK hP hN (List.Perm.refl _) 0 rfl rfl) rfl rfl hl.1 rfl (lv_room (Nat.le_of_ble_eq_true rfl)) dL_trust_306 ⟨Nat.le_of_ble_eq_true rfl, Nat.le_of_ble_eq_true rfl⟩) ?_
                              refine lv_topi (fun v_30 ev_30 => ?_)
                              refine lv_iadd hx hb dL_trust_309 ?_
                              refine lv_iconst (v := 3) hx hb dL_trust_310 (by decide) ?_
                              refine lv_idiv hx hb dL_trust_311 (by decide) ?_
                              refine lv_topi (fun y_31 ey_31 => ?_)
                              refine lv_istore (lv' := [(5, .int y_31), (4, .int v_18), (3, .int v_17), (2, .int y_14), (1, .int v_1), (0, .ref (g 0))]) hx hb dL_trust_312 hl (by decide) rfl (fun ls hl => ?_)
                              refine lv_bipush (v := 100) hx hb dL_trust_314 (by decide) ?_
                              refine lv_iload hx hb dL_trust_316 (lv_at hl 0 rfl) ?_
                              refine lv_imul hx hb dL_trust_318 ?_
                              refine lv_iload_n hx hb dL_trust_319 rfl (lv_at hl 3 rfl) ?_
                              refine lv_isub hx hb dL_trust_320 ?_
                              refine z_Ri (va_runS (As := [.int (((100 : Int32) * y_31) - y_14)]) (rest := []) ⟨hx, hb, hml, hown, hts⟩ (c_L_size l D cA (((100 : Int32) * y_31) - y_14)  ) (va_cwS 1 hts gL_trust_L_size rfl rfl rfl (by decide +kernel) ⟨Nat.le_of_ble_eq_true rfl, Nat.le_of_ble_eq_true rfl⟩) (zqSR0 hK hN) rfl rfl hl.1 rfl (lv_room (Nat.le_of_ble_eq_true rfl)) dL_trust_321 ⟨Nat.le_of_ble_eq_true rfl, Nat.le_of_ble_eq_true rfl⟩) ?_
                              refine lv_topi (fun v_32 ev_32 => ?_)
                              refine lv_aload_n hx hb dL_trust_324 rfl (lv_at hl 5 rfl) ?_
                              refine lv_bipush (v := 27) hx hb dL_trust_325 (by decide) ?_
                              refine z_Ri (va_runV (As := [.int (27 : Int32)]) (rest := [.int v_32]) ⟨hx, hb, hml, hown, hts⟩ (d_X9_state l D cA g (27 : Int32) hR) (cwV 1 hts gL_trust_X9_state rfl rfl rfl (by decide +kernel) ⟨Nat.le_of_ble_eq_true rfl, Nat.le_of_ble_eq_true rfl⟩) (zqVR (wr := []) (wc := zTr cA g t) hK hP hN (List.Perm.refl _) 0 rfl rfl) rfl rfl hl.1 rfl (lv_room (Nat.le_of_ble_eq_true rfl)) dL_trust_327 ⟨Nat.le_of_ble_eq_true rfl, Nat.le_of_ble_eq_true rfl⟩) ?_
                              refine lv_topi (fun v_33 ev_33 => ?_)
                              rw [fs_27] at ev_33
                              refine lv_icmp_le (tgt := 345) hx hb dL_trust_330 (by decide) (fun c_34 => ?_) (fun c_34 => ?_)
                              · skip
                                refine lv_iload hx hb dL_trust_345 (lv_at hl 1 rfl) ?_
                                refine lv_iload_n hx hb dL_trust_347 rfl (lv_at hl 3 rfl) ?_
                                refine z_Ri (va_runS (As := [.int y_14]) (rest := [.int v_18]) ⟨hx, hb, hml, hown, hts⟩ (c_L_size l D cA (y_14)  ) (va_cwS 1 hts gL_trust_L_size rfl rfl rfl (by decide +kernel) ⟨Nat.le_of_ble_eq_true rfl, Nat.le_of_ble_eq_true rfl⟩) (zqSR0 hK hN) rfl rfl hl.1 rfl (lv_room (Nat.le_of_ble_eq_true rfl)) dL_trust_348 ⟨Nat.le_of_ble_eq_true rfl, Nat.le_of_ble_eq_true rfl⟩) ?_
                                refine lv_topi (fun v_35 ev_35 => ?_)
                                refine lv_aload_n hx hb dL_trust_351 rfl (lv_at hl 5 rfl) ?_
                                refine lv_bipush (v := 27) hx hb dL_trust_352 (by decide) ?_
                                refine z_Ri (va_runV (As := [.int (27 : Int32)]) (rest := [.int v_35, .int v_18]) ⟨hx, hb, hml, hown, hts⟩ (d_X9_state l D cA g (27 : Int32) hR) (cwV 1 hts gL_trust_X9_state rfl rfl rfl (by decide +kernel) ⟨Nat.le_of_ble_eq_true rfl, Nat.le_of_ble_eq_true rfl⟩) (zqVR (wr := []) (wc := zTr cA g t) hK hP hN (List.Perm.refl _) 0 rfl rfl) rfl rfl hl.1 rfl (lv_room (Nat.le_of_ble_eq_true rfl)) dL_trust_354 ⟨Nat.le_of_ble_eq_true rfl, Nat.le_of_ble_eq_true rfl⟩) ?_
                                refine lv_topi (fun v_36 ev_36 => ?_)
                                rw [fs_27] at ev_36
                                have J380 : ∀ (j380_s1 : Int32) (ej380 : ((v_35 ≤ v_36) ∧ (¬ ((w.1 8) = 0)) ∧ j380_s1 = (0 : Int32)) ∨ ((v_35 ≤ v_36) ∧ ((w.1 8) = 0) ∧ j380_s1 = (7 : Int32)) ∨ ((¬ (v_35 ≤ v_36)) ∧ j380_s1 = (6 : Int32))), ∀ (ls : Array Slot), lv_has ls 6 [(5, .int y_31), (4, .int v_18), (3, .int v_17), (2, .int y_14), (1, .int v_1), (0, .ref (g 0))] → W p l e (headSpec wsL_trust ({ frames := 5, cells := 0, slots := 0, locals := 126 })).room s m (([.ref (g 0)] : List Value).toArray) below meth c s.heap [] 0 0 Q (F0 m 380 ls [.int j380_s1, .int v_18]) := by
                                  intro j380_s1 ej380 ls hl
                                  refine lv_icmp_ne (tgt := 387) hx hb dL_trust_380 (by decide) (fun c_37 => ?_) (fun c_37 => ?_)
                                  · skip
                                    -- bad leaf 2
                                    rw [ev_36, ev_35, ey_14] at ej380
                                    rw [ev_21, ev_20, ev_19] at c_22
                                    rw [ev_24, ev_23, ev_17, ey_14] at c_25
                                    rw [ev_26] at c_27
                                    rw [ev_33, ev_32, ey_31, ev_30, ev_29, ev_28, ey_14] at c_34
                                    rw [ev_18] at c_37
                                    exact (c_37 (tr_2 hR h3 c_22 c_25 c_27 c_34 ej380)).elim
                                  · skip
                                    refine lv_iconst (v := 1) hx hb dL_trust_383 (by decide) ?_
                                    refine lv_goto (tgt := 388) hx hb dL_trust_384 (by decide) ?_
                                    subst hQ
                                    exact W.zret (ty := .boolean) (v := 1) hx hb hr rfl (fun t ht hW => ⟨_, rfl, rfl, ht⟩) (fun q h => by cases h) dL_trust_388
                                refine lv_icmp_le (tgt := 365) hx hb dL_trust_357 (by decide) (fun c_38 => ?_) (fun c_38 => ?_)
                                · skip
                                  refine lv_aload_n hx hb dL_trust_365 rfl (lv_at hl 5 rfl) ?_
                                  refine lv_bipush (v := 6) hx hb dL_trust_366 (by decide) ?_
                                  refine z_Ri (va_runV (As := [.int (6 : Int32)]) (rest := [.int v_18]) ⟨hx, hb, hml, hown, hts⟩ (d_X9_state l D cA g (6 : Int32) hR) (cwV 1 hts gL_trust_X9_state rfl rfl rfl (by decide +kernel) ⟨Nat.le_of_ble_eq_true rfl, Nat.le_of_ble_eq_true rfl⟩) (zqVR (wr := []) (wc := zTr cA g t) hK hP hN (List.Perm.refl _) 0 rfl rfl) rfl rfl hl.1 rfl (lv_room (Nat.le_of_ble_eq_true rfl)) dL_trust_368 ⟨Nat.le_of_ble_eq_true rfl, Nat.le_of_ble_eq_true rfl⟩) ?_
                                  refine lv_topi (fun v_39 ev_39 => ?_)
                                  rw [fs_6] at ev_39
                                  refine lv_if_ne (tgt := 379) hx hb dL_trust_371 (by decide) (fun c_40 => ?_) (fun c_40 => ?_)
                                  · skip
                                    refine lv_iconst (v := 0) hx hb dL_trust_379 (by decide) ?_
                                    subst ev_39
                                    exact J380 _ (Or.inl ⟨c_38, c_40, rfl⟩) ls (lv_sub hl [0, 1, 2, 3, 4, 5] rfl)
                                  · skip
                                    refine lv_bipush (v := 7) hx hb dL_trust_374 (by decide) ?_
                                    refine lv_goto (tgt := 380) hx hb dL_trust_376 (by decide) ?_
                                    subst ev_39
                                    exact J380 _ (Or.inr (Or.inl ⟨c_38, c_40, rfl⟩)) ls (lv_sub hl [0, 1, 2, 3, 4, 5] rfl)
                                · skip
                                  refine lv_bipush (v := 6) hx hb dL_trust_360 (by decide) ?_
                                  refine lv_goto (tgt := 380) hx hb dL_trust_362 (by decide) ?_
                                  exact J380 _ (Or.inr (Or.inr ⟨c_38, rfl⟩)) ls (lv_sub hl [0, 1, 2, 3, 4, 5] rfl)
                              · skip
                                refine lv_iload hx hb dL_trust_333 (lv_at hl 1 rfl) ?_
                                refine lv_iconst (v := 5) hx hb dL_trust_335 (by decide) ?_
                                refine lv_icmp_ne (tgt := 343) hx hb dL_trust_336 (by decide) (fun c_41 => ?_) (fun c_41 => ?_)
                                · skip
                                  -- bad leaf 3
                                  rw [ev_21, ev_20, ev_19] at c_22
                                  rw [ev_24, ev_23, ev_17, ey_14] at c_25
                                  rw [ev_26] at c_27
                                  rw [ev_33, ev_32, ey_31, ev_30, ev_29, ev_28, ey_14] at c_34
                                  rw [ev_18] at c_41
                                  exact (c_41 (tr_3 hR h3 c_22 c_25 c_27 c_34)).elim
                                · skip
                                  refine lv_iconst (v := 1) hx hb dL_trust_339 (by decide) ?_
                                  refine lv_goto (tgt := 344) hx hb dL_trust_340 (by decide) ?_
                                  subst hQ
                                  exact W.zret (ty := .boolean) (v := 1) hx hb hr rfl (fun t ht hW => ⟨_, rfl, rfl, ht⟩) (fun q h => by cases h) dL_trust_344
                            · skip
                              refine lv_iload hx hb dL_trust_281 (lv_at hl 0 rfl) ?_
                              refine lv_iconst (v := 4) hx hb dL_trust_283 (by decide) ?_
                              refine lv_icmp_ne (tgt := 291) hx hb dL_trust_284 (by decide) (fun c_42 => ?_) (fun c_42 => ?_)
                              · skip
                                -- bad leaf 4
                                rw [ev_21, ev_20, ev_19] at c_22
                                rw [ev_24, ev_23, ev_17, ey_14] at c_25
                                rw [ev_26] at c_27
                                rw [ev_18] at c_42
                                exact (c_42 (tr_4 h3 c_22 c_25 c_27)).elim
                              · skip
                                refine lv_iconst (v := 1) hx hb dL_trust_287 (by decide) ?_
                                refine lv_goto (tgt := 292) hx hb dL_trust_288 (by decide) ?_
                                subst hQ
                                exact W.zret (ty := .boolean) (v := 1) hx hb hr rfl (fun t ht hW => ⟨_, rfl, rfl, ht⟩) (fun q h => by cases h) dL_trust_292
                          · skip
                            refine lv_iload hx hb dL_trust_259 (lv_at hl 0 rfl) ?_
                            refine lv_iconst (v := 3) hx hb dL_trust_261 (by decide) ?_
                            refine lv_icmp_ne (tgt := 269) hx hb dL_trust_262 (by decide) (fun c_43 => ?_) (fun c_43 => ?_)
                            · skip
                              -- bad leaf 5
                              rw [ev_21, ev_20, ev_19] at c_22
                              rw [ev_24, ev_23, ev_17, ey_14] at c_25
                              rw [ev_18] at c_43
                              exact (c_43 (tr_5 h3 c_22 c_25)).elim
                            · skip
                              refine lv_iconst (v := 1) hx hb dL_trust_265 (by decide) ?_
                              refine lv_goto (tgt := 270) hx hb dL_trust_266 (by decide) ?_
                              subst hQ
                              exact W.zret (ty := .boolean) (v := 1) hx hb hr rfl (fun t ht hW => ⟨_, rfl, rfl, ht⟩) (fun q h => by cases h) dL_trust_270
                        · skip
                          refine lv_iload hx hb dL_trust_232 (lv_at hl 0 rfl) ?_
                          refine lv_iconst (v := 2) hx hb dL_trust_234 (by decide) ?_
                          refine lv_icmp_ne (tgt := 242) hx hb dL_trust_235 (by decide) (fun c_44 => ?_) (fun c_44 => ?_)
                          · skip
                            -- bad leaf 6
                            rw [ev_21, ev_20, ev_19] at c_22
                            rw [ev_18] at c_44
                            exact (c_44 (tr_6 h3 c_22)).elim
                          · skip
                            refine lv_iconst (v := 1) hx hb dL_trust_238 (by decide) ?_
                            refine lv_goto (tgt := 243) hx hb dL_trust_239 (by decide) ?_
                            subst hQ
                            exact W.zret (ty := .boolean) (v := 1) hx hb hr rfl (fun t ht hW => ⟨_, rfl, rfl, ht⟩) (fun q h => by cases h) dL_trust_243
                      · skip
                        -- bad leaf 7
                        rw [ev_1] at c_10
                        rw [ev_15, ey_14, ev_13, ev_12, ev_11] at c_16
                        exact (c_16 (by rw [if_pos c_10]; exact tr_7 hR c_10)).elim
                    · skip
                      refine lv_aload_n hx hb dL_trust_132 rfl (lv_at hl 2 rfl) ?_
                      refine z_Ri (va_runV (As := []) (rest := []) ⟨hx, hb, hml, hown, hts⟩ (d_X9_reason l D cA g  hR) (cwV 0 hts gL_trust_X9_reason rfl rfl rfl (by decide +kernel) ⟨Nat.le_of_ble_eq_true rfl, Nat.le_of_ble_eq_true rfl⟩) (zqVR (wr := []) (wc := zTr cA g t) hK hP hN (List.Perm.refl _) 0 rfl rfl) rfl rfl hl.1 rfl (lv_room (Nat.le_of_ble_eq_true rfl)) dL_trust_133 ⟨Nat.le_of_ble_eq_true rfl, Nat.le_of_ble_eq_true rfl⟩) ?_
                      refine lv_topi (fun v_45 ev_45 => ?_)
                      refine lv_iconst (v := 1) hx hb dL_trust_136 (by decide) ?_
                      refine lv_icmp_ne (tgt := 164) hx hb dL_trust_137 (by decide) (fun c_46 => ?_) (fun c_46 => ?_)
                      · skip
                        -- bad leaf 8
                        rw [ev_1] at c_10
                        rw [ev_45] at c_46
                        exact (c_46 (tr_8 c_10)).elim
                      · skip
                        refine lv_aload_n hx hb dL_trust_140 rfl (lv_at hl 2 rfl) ?_
                        refine lv_iconst (v := 4) hx hb dL_trust_141 (by decide) ?_
                        refine z_Ri (va_runV (As := [.int (4 : Int32)]) (rest := []) ⟨hx, hb, hml, hown, hts⟩ (d_X9_compass l D cA g (4 : Int32) hR) (cwV 1 hts gL_trust_X9_compass rfl rfl rfl (by decide +kernel) ⟨Nat.le_of_ble_eq_true rfl, Nat.le_of_ble_eq_true rfl⟩) (zqVR (wr := []) (wc := zTr cA g t) hK hP hN (List.Perm.refl _) 0 rfl rfl) rfl rfl hl.1 rfl (lv_room (Nat.le_of_ble_eq_true rfl)) dL_trust_142 ⟨Nat.le_of_ble_eq_true rfl, Nat.le_of_ble_eq_true rfl⟩) ?_
                        refine lv_topi (fun v_47 ev_47 => ?_)
                        rw [fk_4] at ev_47
                        refine lv_ldc hx hb hown (hts (.constant RL 145 (-1000000006)) (List.mem_of_getElem? (i := 2) rfl)) dL_trust_145 ?_
                        refine lv_icmp_ne (tgt := 164) hx hb dL_trust_147 (by decide) (fun c_48 => ?_) (fun c_48 => ?_)
                        · skip
                          -- bad leaf 9
                          rw [ev_1] at c_10
                          rw [ev_45] at c_46
                          rw [ev_47] at c_48
                          exact (c_48 (if_neg c_10)).elim
                        · skip
                          refine lv_aload_n hx hb dL_trust_150 rfl (lv_at hl 2 rfl) ?_
                          refine lv_iconst (v := 5) hx hb dL_trust_151 (by decide) ?_
                          refine z_Ri (va_runV (As := [.int (5 : Int32)]) (rest := []) ⟨hx, hb, hml, hown, hts⟩ (d_X9_compass l D cA g (5 : Int32) hR) (cwV 1 hts gL_trust_X9_compass rfl rfl rfl (by decide +kernel) ⟨Nat.le_of_ble_eq_true rfl, Nat.le_of_ble_eq_true rfl⟩) (zqVR (wr := []) (wc := zTr cA g t) hK hP hN (List.Perm.refl _) 0 rfl rfl) rfl rfl hl.1 rfl (lv_room (Nat.le_of_ble_eq_true rfl)) dL_trust_152 ⟨Nat.le_of_ble_eq_true rfl, Nat.le_of_ble_eq_true rfl⟩) ?_
                          refine lv_topi (fun v_49 ev_49 => ?_)
                          rw [fk_5] at ev_49
                          refine lv_ldc hx hb hown (hts (.constant RL 145 (-1000000006)) (List.mem_of_getElem? (i := 2) rfl)) dL_trust_155 ?_
                          refine lv_icmp_ne (tgt := 164) hx hb dL_trust_157 (by decide) (fun c_50 => ?_) (fun c_50 => ?_)
                          · skip
                            -- bad leaf 10
                            rw [ev_1] at c_10
                            rw [ev_45] at c_46
                            rw [ev_47] at c_48
                            rw [ev_49] at c_50
                            exact (c_50 (if_neg c_10)).elim
                          · skip
                            refine lv_iconst (v := 1) hx hb dL_trust_160 (by decide) ?_
                            refine lv_goto (tgt := 165) hx hb dL_trust_161 (by decide) ?_
                            subst hQ
                            exact W.zret (ty := .boolean) (v := 1) hx hb hr rfl (fun t ht hW => ⟨_, rfl, rfl, ht⟩) (fun q h => by cases h) dL_trust_165
                  refine lv_icmp_le (tgt := 127) hx hb dL_trust_100 (by decide) (fun c_51 => ?_) (fun c_51 => ?_)
                  · skip
                    exact J127  (Or.inl c_51) ls (lv_sub hl [0, 1, 2] rfl)
                  · skip
                    refine lv_aload_n hx hb dL_trust_103 rfl (lv_at hl 2 rfl) ?_
                    refine lv_bipush (v := 6) hx hb dL_trust_104 (by decide) ?_
                    refine z_Ri (va_runV (As := [.int (6 : Int32)]) (rest := []) ⟨hx, hb, hml, hown, hts⟩ (d_X9_compass l D cA g (6 : Int32) hR) (cwV 1 hts gL_trust_X9_compass rfl rfl rfl (by decide +kernel) ⟨Nat.le_of_ble_eq_true rfl, Nat.le_of_ble_eq_true rfl⟩) (zqVR (wr := []) (wc := zTr cA g t) hK hP hN (List.Perm.refl _) 0 rfl rfl) rfl rfl hl.1 rfl (lv_room (Nat.le_of_ble_eq_true rfl)) dL_trust_106 ⟨Nat.le_of_ble_eq_true rfl, Nat.le_of_ble_eq_true rfl⟩) ?_
                    refine lv_topi (fun v_52 ev_52 => ?_)
                    rw [fk_6] at ev_52
                    refine lv_aload_n hx hb dL_trust_109 rfl (lv_at hl 2 rfl) ?_
                    refine lv_iconst (v := 0) hx hb dL_trust_110 (by decide) ?_
                    refine lv_iconst (v := 0) hx hb dL_trust_111 (by decide) ?_
                    refine z_Ri (va_runV (As := [.int (0 : Int32), .int (0 : Int32)]) (rest := [.int v_52]) ⟨hx, hb, hml, hown, hts⟩ (d_X9_turn l D cA g (0 : Int32) (0 : Int32) hR) (cwV 2 hts gL_trust_X9_turn rfl rfl rfl (by decide +kernel) ⟨Nat.le_of_ble_eq_true rfl, Nat.le_of_ble_eq_true rfl⟩) (zqVR (wr := []) (wc := zTr cA g t) hK hP hN (List.Perm.refl _) 0 rfl rfl) rfl rfl hl.1 rfl (lv_room (Nat.le_of_ble_eq_true rfl)) dL_trust_112 ⟨Nat.le_of_ble_eq_true rfl, Nat.le_of_ble_eq_true rfl⟩) ?_
                    refine lv_topi (fun v_53 ev_53 => ?_)
                    refine lv_aload_n hx hb dL_trust_115 rfl (lv_at hl 2 rfl) ?_
                    refine lv_iconst (v := 1) hx hb dL_trust_116 (by decide) ?_
                    refine lv_iconst (v := 0) hx hb dL_trust_117 (by decide) ?_
                    refine z_Ri (va_runV (As := [.int (1 : Int32), .int (0 : Int32)]) (rest := [.int v_53, .int v_52]) ⟨hx, hb, hml, hown, hts⟩ (d_X9_turn l D cA g (1 : Int32) (0 : Int32) hR) (cwV 2 hts gL_trust_X9_turn rfl rfl rfl (by decide +kernel) ⟨Nat.le_of_ble_eq_true rfl, Nat.le_of_ble_eq_true rfl⟩) (zqVR (wr := []) (wc := zTr cA g t) hK hP hN (List.Perm.refl _) 0 rfl rfl) rfl rfl hl.1 rfl (lv_room (Nat.le_of_ble_eq_true rfl)) dL_trust_118 ⟨Nat.le_of_ble_eq_true rfl, Nat.le_of_ble_eq_true rfl⟩) ?_
                    refine lv_topi (fun v_54 ev_54 => ?_)
                    refine lv_isub hx hb dL_trust_121 ?_
                    refine lv_icmp_eq (tgt := 127) hx hb dL_trust_122 (by decide) (fun c_55 => ?_) (fun c_55 => ?_)
                    · skip
                      subst ev_54
                      subst ev_53
                      subst ev_52
                      exact J127  (Or.inr ⟨c_51, c_55⟩) ls (lv_sub hl [0, 1, 2] rfl)
                    · skip
                      -- bad leaf 11
                      rw [ev_1] at c_51
                      rw [ev_54, ev_53, ev_52] at c_55
                      exact (c_55 (tr_11 hR c_51)).elim
              refine lv_icmp_ne (tgt := 94) hx hb dL_trust_87 (by decide) (fun c_56 => ?_) (fun c_56 => ?_)
              · skip
                refine lv_iconst (v := 0) hx hb dL_trust_94 (by decide) ?_
                exact J95 _ (Or.inl ⟨c_56, rfl⟩) ls (lv_sub hl [0, 1, 2] rfl)
              · skip
                refine lv_iconst (v := 1) hx hb dL_trust_90 (by decide) ?_
                refine lv_goto (tgt := 95) hx hb dL_trust_91 (by decide) ?_
                exact J95 _ (Or.inr ⟨c_56, rfl⟩) ls (lv_sub hl [0, 1, 2] rfl)
            refine lv_icmp_ge (tgt := 78) hx hb dL_trust_71 (by decide) (fun c_57 => ?_) (fun c_57 => ?_)
            · skip
              refine lv_iconst (v := 0) hx hb dL_trust_78 (by decide) ?_
              exact J79 _ (Or.inl ⟨c_57, rfl⟩) ls (lv_sub hl [0, 1, 2] rfl)
            · skip
              refine lv_iconst (v := 1) hx hb dL_trust_74 (by decide) ?_
              refine lv_goto (tgt := 79) hx hb dL_trust_75 (by decide) ?_
              exact J79 _ (Or.inr ⟨c_57, rfl⟩) ls (lv_sub hl [0, 1, 2] rfl)
          · skip
            -- bad leaf 12
            rw [ev_6, ev_5] at c_7
            exact (c_7 (tr_12 hR)).elim
      · skip
        refine lv_aload_n hx hb dL_trust_16 rfl (lv_at hl 2 rfl) ?_
        refine lv_iload_n hx hb dL_trust_17 rfl (lv_at hl 0 rfl) ?_
        refine lv_iconst (v := 1) hx hb dL_trust_18 (by decide) ?_
        refine z_Ri (va_runV (As := [.int (nI k), .int (1 : Int32)]) (rest := []) ⟨hx, hb, hml, hown, hts⟩ (d_X9_turn l D cA g (nI k) (1 : Int32) hR) (cwV 2 hts gL_trust_X9_turn rfl rfl rfl (by decide +kernel) ⟨Nat.le_of_ble_eq_true rfl, Nat.le_of_ble_eq_true rfl⟩) (zqVR (wr := []) (wc := zTr cA g t) hK hP hN (List.Perm.refl _) 0 rfl rfl) rfl rfl hl.1 rfl (lv_room (Nat.le_of_ble_eq_true rfl)) dL_trust_19 ⟨Nat.le_of_ble_eq_true rfl, Nat.le_of_ble_eq_true rfl⟩) ?_
        refine lv_topi (fun v_58 ev_58 => ?_)
        refine lv_aload_n hx hb dL_trust_22 rfl (lv_at hl 2 rfl) ?_
        refine lv_iload_n hx hb dL_trust_23 rfl (lv_at hl 0 rfl) ?_
        refine lv_iconst (v := 1) hx hb dL_trust_24 (by decide) ?_
        refine lv_iadd hx hb dL_trust_25 ?_
        refine lv_iconst (v := 1) hx hb dL_trust_26 (by decide) ?_
        refine z_Ri (va_runV (As := [.int ((nI k) + (1 : Int32)), .int (1 : Int32)]) (rest := [.int v_58]) ⟨hx, hb, hml, hown, hts⟩ (d_X9_turn l D cA g ((nI k) + (1 : Int32)) (1 : Int32) hR) (cwV 2 hts gL_trust_X9_turn rfl rfl rfl (by decide +kernel) ⟨Nat.le_of_ble_eq_true rfl, Nat.le_of_ble_eq_true rfl⟩) (zqVR (wr := []) (wc := zTr cA g t) hK hP hN (List.Perm.refl _) 0 rfl rfl) rfl rfl hl.1 rfl (lv_room (Nat.le_of_ble_eq_true rfl)) dL_trust_27 ⟨Nat.le_of_ble_eq_true rfl, Nat.le_of_ble_eq_true rfl⟩) ?_
        refine lv_topi (fun v_59 ev_59 => ?_)
        refine lv_icmp_gt (tgt := 35) hx hb dL_trust_30 (by decide) (fun c_60 => ?_) (fun c_60 => ?_)
        · skip
          refine lv_iinc (v := (nI (k + 1))) (lv' := [(2, .int (nI (k + 1))), (1, .int v_1), (0, .ref (g 0))]) hx hb dL_trust_35 hl (k := 0) rfl (nI_1 k) (by decide) rfl (fun ls hl => ?_)
          refine lv_goto (tgt := 9) hx hb dL_trust_38 (by decide) ?_
          have hk8 := tr_k hR hk (by rw [← ev_1]; exact c_2)
          exact ih (k + 1) (by omega) (by omega) ls (lv_sub hl [0, 1, 2] rfl)
        · skip
          -- bad leaf 13
          rw [ev_1] at c_2
          rw [ev_59, ev_58] at c_60
          exact (c_60 (tr_13 hR hk c_2)).elim
  exact L9 (8 + 1) (0) (by omega) (Nat.zero_le _) ls (lv_sub hl [0, 1, 2] rfl)
