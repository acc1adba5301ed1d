set_option maxHeartbeats 4000000 in
set_option maxRecDepth 100000 in
theorem c_L_sums (l : Launch) (D : va_G) (cA : Nat → ClassId) (g : Nat → Nat) {t : vTv} {w : vX10} (n : Nat) (hR : Rel t w) (hI : IV n w) : Met l yL_sums wsL_sums ({ frames := 5, cells := 0, slots := 0, locals := 126 }) (va_Pc [.ref (g 0)] (zPreR D (zty cA) (zTr cA g t))) (vp_Si (fun x => x = 1)) 0 0 (fun _ => False) := by
  refine Met.ofW (cc := cL_sums) (maxL := 4) (ret := (some .boolean)) (by decide) rfl ?_
  intro p e s m args below meth c s₁ B hml hv
  obtain ⟨rfl, hP, hK, hN⟩ := hv
  have hx := B.exec
  have hb := B.bytes
  have hr := B.returns
  have hts := atoms_spec (ws := wsL_sums) B.pre
  have hown : s.vm.findClass RL = some m.cls := findClass_of_methodNamed B.named
  have hP : va_P D vwCl (zTr cA g t) s.heap := hP
  have hl := lv_entry ([.ref (g 0)]) (n := 4) (Nat.le_of_ble_eq_true rfl)
  rw [lg_entry_eq]
  generalize (lg_sl ([.ref (g 0)]) ++ List.replicate (4 - (lg_sl ([.ref (g 0)])).length) Slot.unset).toArray = ls at hl ⊢
  have hl : lv_has ls 4 [(0, .ref (g 0))] := hl
  refine z_genQ (fun Q hQ => ?_)
  refine lv_iconst (v := 0) hx hb dL_sums_0 (by decide) ?_
  refine lv_istore_n (lv' := [(1, .int (0 : Int32)), (0, .ref (g 0))]) hx hb dL_sums_1 rfl hl (by decide) rfl (fun ls hl => ?_)
  refine lv_iconst (v := 0) hx hb dL_sums_2 (by decide) ?_
  refine lv_istore_n (lv' := [(2, .int (0 : Int32)), (1, .int (0 : Int32)), (0, .ref (g 0))]) hx hb dL_sums_3 rfl hl (by decide) rfl (fun ls hl => ?_)
  refine lv_iconst (v := 0) hx hb dL_sums_4 (by decide) ?_
  refine lv_istore_n (lv' := [(3, .int (0 : Int32)), (2, .int (0 : Int32)), (1, .int (0 : Int32)), (0, .ref (g 0))]) hx hb dL_sums_5 rfl hl (by decide) rfl (fun ls hl => ?_)
  have L6 : ∀ (zn : Nat) (k : Nat), 5 - k < zn → (k ≤ nT (w.1 15)) → ∀ (ls : Array Slot), lv_has ls 4 [(3, .int (nI k)), (2, .int (0 : Int32)), (1, .int (fm_csum w.1 k)), (0, .ref (g 0))] → W p l e (headSpec wsL_sums ({ frames := 5, cells := 0, slots := 0, locals := 126 })).room s m (([.ref (g 0)] : List Value).toArray) below meth c s.heap [] 0 0 Q (F0 m 6 ls []) := by
    intro zn
    induction zn with
    | zero =>
      intro k hm
      exact absurd hm (Nat.not_lt_zero _)
    | succ zn ih =>
      intro k hm hk ls hl
      refine lv_iload_n hx hb dL_sums_6 rfl (lv_at hl 0 rfl) ?_
      refine lv_aload_n hx hb dL_sums_7 rfl (lv_at hl 3 rfl) ?_
      refine lv_bipush (v := 15) hx hb dL_sums_8 (by decide) ?_
      refine z_Ri (va_runV (As := [.int (15 : Int32)]) (rest := [.int (nI k)]) ⟨hx, hb, hml, hown, hts⟩ (d_X9_state l D cA g (15 : Int32) hR) (cwV 1 hts gL_sums_X9_state rfl rfl rfl (by decide +kernel) ⟨Nat.le_of_ble_eq_true rfl, Nat.le_of_ble_eq_true rfl⟩) (zqVR (wr := []) (wc := zTr cA g t) hK hP hN (List.Perm.refl _) 0 rfl rfl) rfl rfl hl.1 rfl (lv_room (Nat.le_of_ble_eq_true rfl)) dL_sums_10 ⟨Nat.le_of_ble_eq_true rfl, Nat.le_of_ble_eq_true rfl⟩) ?_
      refine lv_topi (fun v_1 ev_1 => ?_)
      rw [fs_15] at ev_1
      refine lv_icmp_ge (tgt := 30) hx hb dL_sums_13 (by decide) (fun c_2 => ?_) (fun c_2 => ?_)
      · skip
        obtain rfl : k = nT (w.1 15) := su_eq hR hk (by rw [← ev_1]; exact c_2)
        refine lv_bipush (v := 8) hx hb dL_sums_30 (by decide) ?_
        refine lv_istore_n (lv' := [(3, .int (8 : Int32)), (2, .int (0 : Int32)), (1, .int (fm_csum w.1 (nT (w.1 15)))), (0, .ref (g 0))]) hx hb dL_sums_32 rfl hl (by decide) rfl (fun ls hl => ?_)
        have L33 : ∀ (zn : Nat) (j9 : Nat), 5 - j9 < zn → (j9 ≤ 5) → ∀ (ls : Array Slot), lv_has ls 4 [(3, .int (nI (8 + j9))), (2, .int (fl_ms w.1 j9)), (1, .int (fm_csum w.1 (nT (w.1 15)))), (0, .ref (g 0))] → W p l e (headSpec wsL_sums ({ frames := 5, cells := 0, slots := 0, locals := 126 })).room s m (([.ref (g 0)] : List Value).toArray) below meth c s.heap [] 0 0 Q (F0 m 33 ls []) := by
          intro zn
          induction zn with
          | zero =>
            intro j9 hm
            exact absurd hm (Nat.not_lt_zero _)
          | succ zn ih =>
            intro j9 hm hm9 ls hl
            refine lv_iload_n hx hb dL_sums_33 rfl (lv_at hl 0 rfl) ?_
            refine lv_bipush (v := 13) hx hb dL_sums_34 (by decide) ?_
            refine lv_icmp_ge (tgt := 53) hx hb dL_sums_36 (by decide) (fun c_3 => ?_) (fun c_3 => ?_)
            · skip
              obtain rfl : j9 = 5 := su_m5 hm9 c_3
              refine lv_aload_n hx hb dL_sums_53 rfl (lv_at hl 3 rfl) ?_
              refine lv_bipush (v := 7) hx hb dL_sums_54 (by decide) ?_
              refine z_Ri (va_runV (As := [.int (7 : Int32)]) (rest := []) ⟨hx, hb, hml, hown, hts⟩ (d_X9_compass l D cA g (7 : Int32) hR) (cwV 1 hts gL_sums_X9_compass rfl rfl rfl (by decide +kernel) ⟨Nat.le_of_ble_eq_true rfl, Nat.le_of_ble_eq_true rfl⟩) (zqVR (wr := []) (wc := zTr cA g t) hK hP hN (List.Perm.refl _) 0 rfl rfl) rfl rfl hl.1 rfl (lv_room (Nat.le_of_ble_eq_true rfl)) dL_sums_56 ⟨Nat.le_of_ble_eq_true rfl, Nat.le_of_ble_eq_true rfl⟩) ?_
              refine lv_topi (fun v_4 ev_4 => ?_)
              rw [fk_7] at ev_4
              refine lv_iload_n hx hb dL_sums_59 rfl (lv_at hl 2 rfl) ?_
              refine lv_icmp_ne (tgt := 120) hx hb dL_sums_60 (by decide) (fun c_5 => ?_) (fun c_5 => ?_)
              · skip
                -- bad leaf 0
                rw [ev_4] at c_5
                exact (c_5 (rfl)).elim
              · skip
                refine lv_iload_n hx hb dL_sums_63 rfl (lv_at hl 1 rfl) ?_
                refine lv_aload_n hx hb dL_sums_64 rfl (lv_at hl 3 rfl) ?_
                refine lv_iconst (v := 0) hx hb dL_sums_65 (by decide) ?_
                refine z_Ri (va_runV (As := [.int (0 : Int32)]) (rest := [.int (fl_ms w.1 5)]) ⟨hx, hb, hml, hown, hts⟩ (d_X9_state l D cA g (0 : Int32) hR) (cwV 1 hts gL_sums_X9_state rfl rfl rfl (by decide +kernel) ⟨Nat.le_of_ble_eq_true rfl, Nat.le_of_ble_eq_true rfl⟩) (zqVR (wr := []) (wc := zTr cA g t) hK hP hN (List.Perm.refl _) 0 rfl rfl) rfl rfl hl.1 rfl (lv_room (Nat.le_of_ble_eq_true rfl)) dL_sums_66 ⟨Nat.le_of_ble_eq_true rfl, Nat.le_of_ble_eq_true rfl⟩) ?_
                refine lv_topi (fun v_6 ev_6 => ?_)
                rw [fs_0] at ev_6
                refine lv_icmp_ne (tgt := 120) hx hb dL_sums_69 (by decide) (fun c_7 => ?_) (fun c_7 => ?_)
                · skip
                  -- bad leaf 1
                  rw [ev_6] at c_7
                  exact (c_7 (su_3 hI)).elim
                · skip
                  refine lv_aload_n hx hb dL_sums_72 rfl (lv_at hl 3 rfl) ?_
                  refine lv_bipush (v := 13) hx hb dL_sums_73 (by decide) ?_
                  refine z_Ri (va_runV (As := [.int (13 : Int32)]) (rest := []) ⟨hx, hb, hml, hown, hts⟩ (d_X9_state l D cA g (13 : Int32) hR) (cwV 1 hts gL_sums_X9_state rfl rfl rfl (by decide +kernel) ⟨Nat.le_of_ble_eq_true rfl, Nat.le_of_ble_eq_true rfl⟩) (zqVR (wr := []) (wc := zTr cA g t) hK hP hN (List.Perm.refl _) 0 rfl rfl) rfl rfl hl.1 rfl (lv_room (Nat.le_of_ble_eq_true rfl)) dL_sums_75 ⟨Nat.le_of_ble_eq_true rfl, Nat.le_of_ble_eq_true rfl⟩) ?_
                  refine lv_topi (fun v_8 ev_8 => ?_)
                  rw [fs_13] at ev_8
                  refine lv_aload_n hx hb dL_sums_78 rfl (lv_at hl 3 rfl) ?_
                  refine lv_bipush (v := 14) hx hb dL_sums_79 (by decide) ?_
                  refine z_Ri (va_runV (As := [.int (14 : Int32)]) (rest := [.int v_8]) ⟨hx, hb, hml, hown, hts⟩ (d_X9_state l D cA g (14 : Int32) hR) (cwV 1 hts gL_sums_X9_state rfl rfl rfl (by decide +kernel) ⟨Nat.le_of_ble_eq_true rfl, Nat.le_of_ble_eq_true rfl⟩) (zqVR (wr := []) (wc := zTr cA g t) hK hP hN (List.Perm.refl _) 0 rfl rfl) rfl rfl hl.1 rfl (lv_room (Nat.le_of_ble_eq_true rfl)) dL_sums_81 ⟨Nat.le_of_ble_eq_true rfl, Nat.le_of_ble_eq_true rfl⟩) ?_
                  refine lv_topi (fun v_9 ev_9 => ?_)
                  rw [fs_14] at ev_9
                  refine lv_icmp_gt (tgt := 120) hx hb dL_sums_84 (by decide) (fun c_10 => ?_) (fun c_10 => ?_)
                  · skip
                    -- bad leaf 2
                    rw [ev_9, ev_8] at c_10
                    exact (su_2 hI c_10).elim
                  · skip
                    refine lv_aload_n hx hb dL_sums_87 rfl (lv_at hl 3 rfl) ?_
                    refine lv_bipush (v := 15) hx hb dL_sums_88 (by decide) ?_
                    refine z_Ri (va_runV (As := [.int (15 : Int32)]) (rest := []) ⟨hx, hb, hml, hown, hts⟩ (d_X9_state l D cA g (15 : Int32) hR) (cwV 1 hts gL_sums_X9_state rfl rfl rfl (by decide +kernel) ⟨Nat.le_of_ble_eq_true rfl, Nat.le_of_ble_eq_true rfl⟩) (zqVR (wr := []) (wc := zTr cA g t) hK hP hN (List.Perm.refl _) 0 rfl rfl) rfl rfl hl.1 rfl (lv_room (Nat.le_of_ble_eq_true rfl)) dL_sums_90 ⟨Nat.le_of_ble_eq_true rfl, Nat.le_of_ble_eq_true rfl⟩) ?_
                    refine lv_topi (fun v_11 ev_11 => ?_)
                    rw [fs_15] at ev_11
                    refine lv_aload_n hx hb dL_sums_93 rfl (lv_at hl 3 rfl) ?_
                    refine lv_bipush (v := 16) hx hb dL_sums_94 (by decide) ?_
                    refine z_Ri (va_runV (As := [.int (16 : Int32)]) (rest := [.int v_11]) ⟨hx, hb, hml, hown, hts⟩ (d_X9_state l D cA g (16 : Int32) hR) (cwV 1 hts gL_sums_X9_state rfl rfl rfl (by decide +kernel) ⟨Nat.le_of_ble_eq_true rfl, Nat.le_of_ble_eq_true rfl⟩) (zqVR (wr := []) (wc := zTr cA g t) hK hP hN (List.Perm.refl _) 0 rfl rfl) rfl rfl hl.1 rfl (lv_room (Nat.le_of_ble_eq_true rfl)) dL_sums_96 ⟨Nat.le_of_ble_eq_true rfl, Nat.le_of_ble_eq_true rfl⟩) ?_
                    refine lv_topi (fun v_12 ev_12 => ?_)
                    rw [fs_16] at ev_12
                    refine lv_icmp_gt (tgt := 120) hx hb dL_sums_99 (by decide) (fun c_13 => ?_) (fun c_13 => ?_)
                    · skip
                      -- bad leaf 3
                      rw [ev_12, ev_11] at c_13
                      exact (su_1 hI c_13).elim
                    · skip
                      refine lv_aload_n hx hb dL_sums_102 rfl (lv_at hl 3 rfl) ?_
                      refine lv_bipush (v := 8) hx hb dL_sums_103 (by decide) ?_
                      refine z_Ri (va_runV (As := [.int (8 : Int32)]) (rest := []) ⟨hx, hb, hml, hown, hts⟩ (d_X9_compass l D cA g (8 : Int32) hR) (cwV 1 hts gL_sums_X9_compass rfl rfl rfl (by decide +kernel) ⟨Nat.le_of_ble_eq_true rfl, Nat.le_of_ble_eq_true rfl⟩) (zqVR (wr := []) (wc := zTr cA g t) hK hP hN (List.Perm.refl _) 0 rfl rfl) rfl rfl hl.1 rfl (lv_room (Nat.le_of_ble_eq_true rfl)) dL_sums_105 ⟨Nat.le_of_ble_eq_true rfl, Nat.le_of_ble_eq_true rfl⟩) ?_
                      refine lv_topi (fun v_14 ev_14 => ?_)
                      rw [fk_8] at ev_14
                      refine z_Ri (va_runS (As := [.int v_14]) (rest := []) ⟨hx, hb, hml, hown, hts⟩ (c_L_size l D cA (v_14)  ) (va_cwS 1 hts gL_sums_L_size rfl rfl rfl (by decide +kernel) ⟨Nat.le_of_ble_eq_true rfl, Nat.le_of_ble_eq_true rfl⟩) (zqSR0 hK hN) rfl rfl hl.1 rfl (lv_room (Nat.le_of_ble_eq_true rfl)) dL_sums_108 ⟨Nat.le_of_ble_eq_true rfl, Nat.le_of_ble_eq_true rfl⟩) ?_
                      refine lv_topi (fun v_15 ev_15 => ?_)
                      refine lv_ldc hx hb hown (hts (.constant RL 150 (70000000)) (List.mem_of_getElem? (i := 1) rfl)) dL_sums_111 ?_
                      refine lv_icmp_gt (tgt := 120) hx hb dL_sums_113 (by decide) (fun c_16 => ?_) (fun c_16 => ?_)
                      · skip
                        -- bad leaf 4
                        rw [ev_15, ev_14] at c_16
                        exact (su_4 hR c_16).elim
                      · skip
                        refine lv_iconst (v := 1) hx hb dL_sums_116 (by decide) ?_
                        refine lv_goto (tgt := 121) hx hb dL_sums_117 (by decide) ?_
                        subst hQ
                        exact W.zret (ty := .boolean) (v := 1) hx hb hr rfl (fun t ht hW => ⟨_, rfl, rfl, ht⟩) (fun q h => by cases h) dL_sums_121
            · skip
              refine lv_iload_n hx hb dL_sums_39 rfl (lv_at hl 1 rfl) ?_
              refine lv_aload_n hx hb dL_sums_40 rfl (lv_at hl 3 rfl) ?_
              refine lv_iload_n hx hb dL_sums_41 rfl (lv_at hl 0 rfl) ?_
              refine z_Ri (va_runV (As := [.int (nI (8 + j9))]) (rest := [.int (fl_ms w.1 j9)]) ⟨hx, hb, hml, hown, hts⟩ (d_X9_state l D cA g (nI (8 + j9)) hR) (cwV 1 hts gL_sums_X9_state rfl rfl rfl (by decide +kernel) ⟨Nat.le_of_ble_eq_true rfl, Nat.le_of_ble_eq_true rfl⟩) (zqVR (wr := []) (wc := zTr cA g t) hK hP hN (List.Perm.refl _) 0 rfl rfl) rfl rfl hl.1 rfl (lv_room (Nat.le_of_ble_eq_true rfl)) dL_sums_42 ⟨Nat.le_of_ble_eq_true rfl, Nat.le_of_ble_eq_true rfl⟩) ?_
              refine lv_topi (fun v_17 ev_17 => ?_)
              refine lv_iadd hx hb dL_sums_45 ?_
              refine lv_topi (fun y_18 ey_18 => ?_)
              refine lv_istore_n (lv' := [(2, .int y_18), (3, .int (nI (8 + j9))), (1, .int (fm_csum w.1 (nT (w.1 15)))), (0, .ref (g 0))]) hx hb dL_sums_46 rfl hl (by decide) rfl (fun ls hl => ?_)
              refine lv_iinc (v := (nI ((8 + j9) + 1))) (lv' := [(3, .int (nI ((8 + j9) + 1))), (2, .int y_18), (1, .int (fm_csum w.1 (nT (w.1 15)))), (0, .ref (g 0))]) hx hb dL_sums_47 hl (k := 1) rfl (nI_1 (8 + j9)) (by decide) rfl (fun ls hl => ?_)
              refine lv_goto (tgt := 33) hx hb dL_sums_50 (by decide) ?_
              have hm5 : j9 < 5 := su_m hm9 c_3
              have ek9 : y_18 = fl_ms w.1 (j9 + 1) := by rw [ey_18, ev_17, fs_lv hm5]; rfl
              rw [ek9] at hl
              exact ih (j9 + 1) (by omega) hm5 ls (lv_sub hl [0, 1, 2, 3] rfl)
        exact L33 (5 + 1) (0) (by omega) (Nat.zero_le _) ls (lv_sub hl [0, 1, 2, 3] rfl)
      · skip
        refine lv_iload_n hx hb dL_sums_16 rfl (lv_at hl 2 rfl) ?_
        refine lv_aload_n hx hb dL_sums_17 rfl (lv_at hl 3 rfl) ?_
        refine lv_iload_n hx hb dL_sums_18 rfl (lv_at hl 0 rfl) ?_
        refine z_Ri (va_runV (As := [.int (nI k)]) (rest := [.int (fm_csum w.1 k)]) ⟨hx, hb, hml, hown, hts⟩ (d_X9_check l D cA g (nI k) hR) (cwV 1 hts gL_sums_X9_check rfl rfl rfl (by decide +kernel) ⟨Nat.le_of_ble_eq_true rfl, Nat.le_of_ble_eq_true rfl⟩) (zqVR (wr := []) (wc := zTr cA g t) hK hP hN (List.Perm.refl _) 0 rfl rfl) rfl rfl hl.1 rfl (lv_room (Nat.le_of_ble_eq_true rfl)) dL_sums_19 ⟨Nat.le_of_ble_eq_true rfl, Nat.le_of_ble_eq_true rfl⟩) ?_
        refine lv_topi (fun v_19 ev_19 => ?_)
        refine lv_iadd hx hb dL_sums_22 ?_
        refine lv_topi (fun y_20 ey_20 => ?_)
        refine lv_istore_n (lv' := [(1, .int y_20), (3, .int (nI k)), (2, .int (0 : Int32)), (0, .ref (g 0))]) hx hb dL_sums_23 rfl hl (by decide) rfl (fun ls hl => ?_)
        refine lv_iinc (v := (nI (k + 1))) (lv' := [(3, .int (nI (k + 1))), (1, .int y_20), (2, .int (0 : Int32)), (0, .ref (g 0))]) hx hb dL_sums_24 hl (k := 1) rfl (nI_1 k) (by decide) rfl (fun ls hl => ?_)
        refine lv_goto (tgt := 6) hx hb dL_sums_27 (by decide) ?_
        have hkn : k < nT (w.1 15) := su_lt hR hk (by rw [← ev_1]; exact c_2)
        have ek9 : y_20 = fm_csum w.1 (k + 1) := by rw [ey_20, ev_19, check_n (rel_chk hR).1 (rel_chk hR).2 hkn]; rfl
        rw [ek9] at hl
        exact ih (k + 1) (by have := (rel_chk hR).2; omega) hkn ls (lv_sub hl [0, 2, 1, 3] rfl)
  exact L6 (5 + 1) (0) (by omega) (Nat.zero_le _) ls (lv_sub hl [0, 1, 2, 3] rfl)
