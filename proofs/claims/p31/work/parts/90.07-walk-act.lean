set_option maxHeartbeats 4000000 in
set_option maxRecDepth 100000 in
theorem c_L_act (l : Launch) (D : va_G) (cA : Nat → ClassId) (g : Nat → Nat) (sz : Nat) {t : vTv} {w : vX10} (x1 : Int32) (x2 : Int32) (x3 : Int32) (n : Nat) (hR : Rel t w) (hI : IV n w) (hn : n < 80000) : Met l yL_act wsL_act ({ frames := 8, cells := 160, slots := 920, locals := 200 }) (va_Pc [.ref (g 0), .int x1, .int x2, .int x3] (zPre D (zty cA) (zTr cA g t) sz)) (va_Qi (fun (x : Int32) (u : vTv) => x = 1 ∧ ∃ w9, Rel u w9 ∧ IV (n + 8) w9) (fun u => zPost D (zty cA) (va_A (zTr cA g t) sz) (zTr cA g u)) (va_A (zTr cA g t) sz)) 160 920 (va_A (zTr cA g t) sz) := by
  refine Met.ofW (cc := cL_act) (maxL := 7) (ret := (some .boolean)) (by decide) rfl ?_
  intro p e s m args below meth c s₁ B hml hv
  obtain ⟨rfl, hsz, hP, hK, hD0, hE⟩ := hv
  have hx := B.exec
  have hb := B.bytes
  have hr := B.returns
  have hts := atoms_spec (ws := wsL_act) B.pre
  have hown : s.vm.findClass RL = some m.cls := findClass_of_methodNamed B.named
  subst hsz
  have hD := hD0.self (sz := s.heap.size)
  generalize hAe : va_A (zTr cA g t) s.heap.size = A at hD hE ⊢
  have hA : ∀ q : Nat, s.heap.size ≤ q → A q := fun q h => by rw [← hAe]; exact Or.inr h
  have hS : va_S A s.heap s.heap [] := va_S.rf
  have hN : zN s := hE.1
  have hP : va_P D vwCl (zTr cA g t) s.heap := hP
  have hD : va_D A (zTr cA g t) := hD
  have hl := lv_entry ([.ref (g 0), .int x1, .int x2, .int x3]) (n := 7) (Nat.le_of_ble_eq_true rfl)
  rw [lg_entry_eq]
  generalize (lg_sl ([.ref (g 0), .int x1, .int x2, .int x3]) ++ List.replicate (7 - (lg_sl ([.ref (g 0), .int x1, .int x2, .int x3])).length) Slot.unset).toArray = ls at hl ⊢
  have hl : lv_has ls 7 [(0, .ref (g 0)), (1, .int x1), (2, .int x2), (3, .int x3)] := hl
  refine z_genQ (fun Q hQ => ?_)
  refine lv_iload_n hx hb dL_act_0 rfl (lv_at hl 1 rfl) ?_
  refine lv_bipush (v := 10) hx hb dL_act_1 (by decide) ?_
  refine z_Ri (va_runS (As := [.int x1, .int (10 : Int32)]) (rest := []) ⟨hx, hb, hml, hown, hts⟩ (c_L_up l D cA (x1) (10 : Int32)  (by decide)) (va_cwS 2 hts gL_act_L_up rfl rfl rfl (by decide +kernel) ⟨Nat.le_of_ble_eq_true rfl, Nat.le_of_ble_eq_true rfl⟩) (zqSR0 hK hN) rfl rfl hl.1 rfl (lv_room (Nat.le_of_ble_eq_true rfl)) dL_act_3 ⟨Nat.le_of_ble_eq_true rfl, Nat.le_of_ble_eq_true rfl⟩) ?_
  rcases z_sw (fl_up (x1) (10 : Int32)) 0 6 with c_1 | ⟨j, hj, c_1⟩
  · skip
    refine lv_tableOut (tgt := 642) hx hb dL_act_6 c_1 (by decide) ?_
    refine lv_iconst (v := 1) hx hb dL_act_642 (by decide) ?_
    refine lv_iload_n hx hb dL_act_643 rfl (lv_at hl 2 rfl) ?_
    refine lv_bipush (v := 8) hx hb dL_act_644 (by decide) ?_
    refine z_Ri (va_runS (As := [.int x2, .int (8 : Int32)]) (rest := [.int (1 : Int32)]) ⟨hx, hb, hml, hown, hts⟩ (c_L_up l D cA (x2) (8 : Int32)  (by decide)) (va_cwS 2 hts gL_act_L_up rfl rfl rfl (by decide +kernel) ⟨Nat.le_of_ble_eq_true rfl, Nat.le_of_ble_eq_true rfl⟩) (zqSR0 hK hN) rfl rfl hl.1 rfl (lv_room (Nat.le_of_ble_eq_true rfl)) dL_act_646 ⟨Nat.le_of_ble_eq_true rfl, Nat.le_of_ble_eq_true rfl⟩) ?_
    refine lv_iadd hx hb dL_act_649 ?_
    refine lv_topi (fun y_2 ey_2 => ?_)
    refine lv_istore (lv' := [(4, .int y_2), (0, .ref (g 0)), (1, .int x1), (2, .int x2), (3, .int x3)]) hx hb dL_act_650 hl (by decide) rfl (fun ls hl => ?_)
    refine lv_iconst (v := 0) hx hb dL_act_652 (by decide) ?_
    refine lv_istore (lv' := [(5, .int (0 : Int32)), (4, .int y_2), (0, .ref (g 0)), (1, .int x1), (2, .int x2), (3, .int x3)]) hx hb dL_act_653 hl (by decide) rfl (fun ls hl => ?_)
    have L655 : ∀ (zn : Nat) (k : Nat) (t1 : vTv) (w1 : vX10), 8 - k < zn → (k ≤ 8) → (Rel t1 w1) → (IV (n + k) w1) → ∀ (H : Heap) (locs : List Loc), va_P D vwCl (zTr cA g t1) H → va_D A (zTr cA g t1) → va_S A s.heap H locs → ∀ (ls : Array Slot), lv_has ls 7 [(5, .int (nI k)), (4, .int y_2), (0, .ref (g 0)), (1, .int x1), (2, .int x2), (3, .int x3)] → W p l e (headSpec wsL_act ({ frames := 8, cells := 160, slots := 920, locals := 200 })).room s m (([.ref (g 0), .int x1, .int x2, .int x3] : List Value).toArray) below meth c H locs (20 * k) (115 * k) Q (F0 m 655 ls []) := by
      intro zn
      induction zn with
      | zero =>
        intro k t1 w1 hm
        exact absurd hm (Nat.not_lt_zero _)
      | succ zn ih =>
        intro k t1 w1 hm hk hR1 hI1 H locs hP hD hS ls hl
        refine lv_iload hx hb dL_act_655 (lv_at hl 0 rfl) ?_
        refine lv_iload hx hb dL_act_657 (lv_at hl 1 rfl) ?_
        refine lv_icmp_ge (tgt := 677) hx hb dL_act_659 (by decide) (fun c_3 => ?_) (fun c_3 => ?_)
        · skip
          refine lv_iconst (v := 1) hx hb dL_act_677 (by decide) ?_
          have hP9 : va_P D vwCl (zTr cA g t1) H := hP
          have hD9 : va_D A (zTr cA g t1) := hD
          have hI9 : IV (n + 8) w1 := IV_le hI1 (by omega)
          subst hQ
          refine W.widen (k := 160) (n := 920) (by omega) (by omega) ?_
          exact W.zret (ty := .boolean) (v := 1) hx hb hr rfl (fun t ht hW => ⟨⟨1, t1, rfl, ⟨rfl, w1, hR1, hI9⟩, ⟨by rw [ht]; exact hP9, va_K.moved hW.alike hK, hD9⟩⟩, hS.F ht⟩) hS.2.2 dL_act_678
        · skip
          have hk8 : k < 8 := ac_k hk (up_1b x2) (by rw [ey_2] at c_3; exact c_3)
          refine lv_aload_n hx hb dL_act_662 rfl (lv_at hl 2 rfl) ?_
          refine z_Hp (wr := []) (wt := fun u => zTr cA g u) (va_runS (As := [.ref (g 0)]) (rest := []) ⟨hx, hb, hml, hown, hts⟩ (c_L_minute l D cA g H.size  (n + k) hR1 hI1 (by omega)) (va_cwS 1 hts gL_act_L_minute rfl rfl rfl (by decide +kernel) ⟨Nat.le_of_ble_eq_true rfl, Nat.le_of_ble_eq_true rfl⟩) (zqS (wr := []) (wc := zTr cA g t1) hK hP hD hS hA hE (List.Perm.refl _)) rfl rfl hl.1 rfl (lv_room (Nat.le_of_ble_eq_true rfl)) dL_act_663 ⟨show (20 * k) + 20 ≤ 160 from by omega, show (115 * k) + 115 ≤ 920 from by omega⟩) hP hD hS hA (List.Perm.refl _) (fun u => List.Perm.refl _) (fun r_4 t_4 H locs hp_4 hP hD hS => ?_)
          obtain ⟨er_4, w_4, hR_4, hI_4⟩ := hp_4
          subst er_4
          have hP : va_P D vwCl (zTr cA g t_4) H := hP
          have hD : va_D A (zTr cA g t_4) := hD
          refine W.widen (k := ((20 * k) + 20)) (n := ((115 * k) + 115)) (by omega) (by omega) ?_
          refine lv_if_ne (tgt := 671) hx hb dL_act_666 (by decide) (fun c_5 => ?_) (fun c_5 => ?_)
          · skip
            refine lv_iinc (v := (nI (k + 1))) (lv' := [(5, .int (nI (k + 1))), (4, .int y_2), (0, .ref (g 0)), (1, .int x1), (2, .int x2), (3, .int x3)]) hx hb dL_act_671 hl (k := 0) rfl (nI_1 k) (by decide) rfl (fun ls hl => ?_)
            refine lv_goto (tgt := 655) hx hb dL_act_674 (by decide) ?_
            refine W.widen (k := 20 * (k + 1)) (n := 115 * (k + 1)) (by omega) (by omega) ?_
            exact ih (k + 1) (t_4) (w_4) (by omega) (by omega) hR_4 hI_4 _ _ hP hD hS ls (lv_sub hl [0, 1, 2, 3, 4, 5] rfl)
          · skip
            exact absurd c_5 (by decide)
    refine W.widen (k := 20 * 0) (n := 115 * 0) (by omega) (by omega) ?_
    exact L655 (8 + 1) (0) (t) (w) (by omega) (by omega) hR hI _ _ hP hD hS ls (lv_sub hl [0, 1, 2, 3, 4, 5] rfl)
  · skip
    have hj2 : j = 0 ∨ j = 1 ∨ j = 2 ∨ j = 3 ∨ j = 4 ∨ j = 5 ∨ j = 6 := by omega
    rcases hj2 with rfl | rfl | rfl | rfl | rfl | rfl | rfl
    · skip
      have c_1 : (fl_up (x1) (10 : Int32)) = 0 := c_1.trans (by decide)
      refine lv_tableIn (tgt := 48) (off := 42) hx hb dL_act_6 (by rw [c_1]; decide) (by rw [c_1]; decide) (by rw [c_1]; decide) (by decide) ?_
      refine lv_aload_n hx hb dL_act_48 rfl (lv_at hl 0 rfl) ?_
      refine lv_iconst (v := 0) hx hb dL_act_49 (by decide) ?_
      refine z_Ri (va_runV (As := [.int (0 : Int32)]) (rest := []) ⟨hx, hb, hml, hown, hts⟩ (d_X9_compass l D cA g (0 : Int32) hR) (cwV 1 hts gL_act_X9_compass rfl rfl rfl (by decide +kernel) ⟨Nat.le_of_ble_eq_true rfl, Nat.le_of_ble_eq_true rfl⟩) (zqVR (wr := []) (wc := zTr cA g t) hK hP hN (List.Perm.refl _) 0 rfl rfl) rfl rfl hl.1 rfl (lv_room (Nat.le_of_ble_eq_true rfl)) dL_act_50 ⟨Nat.le_of_ble_eq_true rfl, Nat.le_of_ble_eq_true rfl⟩) ?_
      refine lv_topi (fun v_6 ev_6 => ?_)
      rw [fk_0] at ev_6
      refine lv_istore (lv' := [(4, .int v_6), (0, .ref (g 0)), (1, .int x1), (2, .int x2), (3, .int x3)]) hx hb dL_act_53 hl (by decide) rfl (fun ls hl => ?_)
      refine lv_aload_n hx hb dL_act_55 rfl (lv_at hl 1 rfl) ?_
      refine lv_bipush (v := 13) hx hb dL_act_56 (by decide) ?_
      refine z_Ri (va_runV (As := [.int (13 : Int32)]) (rest := []) ⟨hx, hb, hml, hown, hts⟩ (d_X9_state l D cA g (13 : Int32) hR) (cwV 1 hts gL_act_X9_state rfl rfl rfl (by decide +kernel) ⟨Nat.le_of_ble_eq_true rfl, Nat.le_of_ble_eq_true rfl⟩) (zqVR (wr := []) (wc := zTr cA g t) hK hP hN (List.Perm.refl _) 0 rfl rfl) rfl rfl hl.1 rfl (lv_room (Nat.le_of_ble_eq_true rfl)) dL_act_58 ⟨Nat.le_of_ble_eq_true rfl, Nat.le_of_ble_eq_true rfl⟩) ?_
      refine lv_topi (fun v_7 ev_7 => ?_)
      rw [fs_13] at ev_7
      refine lv_istore (lv' := [(5, .int v_7), (4, .int v_6), (0, .ref (g 0)), (1, .int x1), (2, .int x2), (3, .int x3)]) hx hb dL_act_61 hl (by decide) rfl (fun ls hl => ?_)
      refine lv_aload_n hx hb dL_act_63 rfl (lv_at hl 2 rfl) ?_
      refine lv_iload_n hx hb dL_act_64 rfl (lv_at hl 4 rfl) ?_
      refine lv_ldc hx hb hown (hts (.constant RL 79 (60001)) (List.mem_of_getElem? (i := 1) rfl)) dL_act_65 ?_
      refine z_Ri (va_runS (As := [.int x2, .int (60001 : Int32)]) (rest := [.ref (g 0)]) ⟨hx, hb, hml, hown, hts⟩ (c_L_up l D cA (x2) (60001 : Int32)  (by decide)) (va_cwS 2 hts gL_act_L_up rfl rfl rfl (by decide +kernel) ⟨Nat.le_of_ble_eq_true rfl, Nat.le_of_ble_eq_true rfl⟩) (zqSR0 hK hN) rfl rfl hl.1 rfl (lv_room (Nat.le_of_ble_eq_true rfl)) dL_act_67 ⟨Nat.le_of_ble_eq_true rfl, Nat.le_of_ble_eq_true rfl⟩) ?_
      refine lv_sipush (v := 30000) hx hb dL_act_70 (by decide) ?_
      refine lv_isub hx hb dL_act_73 ?_
      refine lv_iload_n hx hb dL_act_74 rfl (lv_at hl 5 rfl) ?_
      refine lv_sipush (v := 2001) hx hb dL_act_75 (by decide) ?_
      refine z_Ri (va_runS (As := [.int x3, .int (2001 : Int32)]) (rest := [.int ((fl_up (x2) (60001 : Int32)) - (30000 : Int32)), .ref (g 0)]) ⟨hx, hb, hml, hown, hts⟩ (c_L_up l D cA (x3) (2001 : Int32)  (by decide)) (va_cwS 2 hts gL_act_L_up rfl rfl rfl (by decide +kernel) ⟨Nat.le_of_ble_eq_true rfl, Nat.le_of_ble_eq_true rfl⟩) (zqSR0 hK hN) rfl rfl hl.1 rfl (lv_room (Nat.le_of_ble_eq_true rfl)) dL_act_78 ⟨Nat.le_of_ble_eq_true rfl, Nat.le_of_ble_eq_true rfl⟩) ?_
      refine lv_sipush (v := 1000) hx hb dL_act_81 (by decide) ?_
      refine lv_isub hx hb dL_act_84 ?_
      refine z_Hp (wr := []) (wt := fun u => zTr cA g u) (va_runV (As := [.int ((fl_up (x2) (60001 : Int32)) - (30000 : Int32)), .int ((fl_up (x3) (2001 : Int32)) - (1000 : Int32))]) (rest := []) ⟨hx, hb, hml, hown, hts⟩ (d_X9_start l D cA g s.heap.size ((fl_up (x2) (60001 : Int32)) - (30000 : Int32)) ((fl_up (x3) (2001 : Int32)) - (1000 : Int32)) hR) (cwV 2 hts gL_act_X9_start rfl rfl rfl (by decide +kernel) ⟨Nat.le_of_ble_eq_true rfl, Nat.le_of_ble_eq_true rfl⟩) (zqV (wr := []) (wc := zTr cA g t) hK hP hD hS hA hE (List.Perm.refl _) 0 rfl rfl) rfl rfl hl.1 rfl (lv_room (Nat.le_of_ble_eq_true rfl)) dL_act_85 ⟨Nat.le_of_ble_eq_true rfl, Nat.le_of_ble_eq_true rfl⟩) hP hD hS hA (List.Perm.refl _) (fun u => List.Perm.refl _) (fun r_8 t_8 H locs hp_8 hP hD hS => ?_)
      obtain ⟨er_8, hR_8⟩ := hp_8
      obtain ⟨w_8, ew_8⟩ : ∃ z : vX10, z = ((fm_start (pmN w) w ((fl_up (x2) (60001 : Int32)) - (30000 : Int32)) ((fl_up (x3) (2001 : Int32)) - (1000 : Int32)))).2 := ⟨_, rfl⟩
      rw [← ew_8] at hR_8
      have hP : va_P D vwCl (zTr cA g t_8) H := hP
      have hD : va_D A (zTr cA g t_8) := hD
      refine W.widen (k := 20) (n := 115) (by omega) (by omega) ?_
      obtain ⟨hr9, hw⟩ := ac_start (up_b (m := 60001) (c := 30000) x2 (by decide) (by decide) (by decide)) (up_b (m := 2001) (c := 1000) x3 (by decide) (by decide) (by decide)) er_8 ew_8
      refine lv_iload hx hb dL_act_88 (lv_at hl 1 rfl) ?_
      refine lv_icmp_ne (tgt := 145) hx hb dL_act_90 (by decide) (fun c_9 => ?_) (fun c_9 => ?_)
      · skip
        -- bad leaf 0
        rw [ev_6] at c_9
        exact (c_9 (hr9)).elim
      · skip
        refine lv_aload_n hx hb dL_act_93 rfl (lv_at hl 2 rfl) ?_
        refine lv_iconst (v := 0) hx hb dL_act_94 (by decide) ?_
        refine z_Ri (va_runV (As := [.int (0 : Int32)]) (rest := []) ⟨hx, hb, hml, hown, hts⟩ (d_X9_compass l D cA g (0 : Int32) hR_8) (cwV 1 hts gL_act_X9_compass rfl rfl rfl (by decide +kernel) ⟨Nat.le_of_ble_eq_true rfl, Nat.le_of_ble_eq_true rfl⟩) (zqVR (wr := []) (wc := zTr cA g t_8) hK hP hN (List.Perm.refl _) 0 rfl rfl) rfl rfl hl.1 rfl (lv_room (Nat.le_of_ble_eq_true rfl)) dL_act_95 ⟨Nat.le_of_ble_eq_true rfl, Nat.le_of_ble_eq_true rfl⟩) ?_
        refine lv_topi (fun v_10 ev_10 => ?_)
        rw [fk_0] at ev_10
        refine lv_iload_n hx hb dL_act_98 rfl (lv_at hl 4 rfl) ?_
        refine lv_ldc hx hb hown (hts (.constant RL 79 (60001)) (List.mem_of_getElem? (i := 1) rfl)) dL_act_99 ?_
        refine z_Ri (va_runS (As := [.int x2, .int (60001 : Int32)]) (rest := [.int v_10]) ⟨hx, hb, hml, hown, hts⟩ (c_L_up l D cA (x2) (60001 : Int32)  (by decide)) (va_cwS 2 hts gL_act_L_up rfl rfl rfl (by decide +kernel) ⟨Nat.le_of_ble_eq_true rfl, Nat.le_of_ble_eq_true rfl⟩) (zqSR0 hK hN) rfl rfl hl.1 rfl (lv_room (Nat.le_of_ble_eq_true rfl)) dL_act_101 ⟨Nat.le_of_ble_eq_true rfl, Nat.le_of_ble_eq_true rfl⟩) ?_
        refine lv_sipush (v := 30000) hx hb dL_act_104 (by decide) ?_
        refine lv_isub hx hb dL_act_107 ?_
        refine lv_icmp_ne (tgt := 145) hx hb dL_act_108 (by decide) (fun c_11 => ?_) (fun c_11 => ?_)
        · skip
          -- bad leaf 1
          rw [ev_10] at c_11
          exact (c_11 ((by rw [hw]; rfl))).elim
        · skip
          refine lv_aload_n hx hb dL_act_111 rfl (lv_at hl 2 rfl) ?_
          refine lv_iconst (v := 1) hx hb dL_act_112 (by decide) ?_
          refine z_Ri (va_runV (As := [.int (1 : Int32)]) (rest := []) ⟨hx, hb, hml, hown, hts⟩ (d_X9_compass l D cA g (1 : Int32) hR_8) (cwV 1 hts gL_act_X9_compass rfl rfl rfl (by decide +kernel) ⟨Nat.le_of_ble_eq_true rfl, Nat.le_of_ble_eq_true rfl⟩) (zqVR (wr := []) (wc := zTr cA g t_8) hK hP hN (List.Perm.refl _) 0 rfl rfl) rfl rfl hl.1 rfl (lv_room (Nat.le_of_ble_eq_true rfl)) dL_act_113 ⟨Nat.le_of_ble_eq_true rfl, Nat.le_of_ble_eq_true rfl⟩) ?_
          refine lv_topi (fun v_12 ev_12 => ?_)
          rw [fk_1] at ev_12
          refine lv_iload_n hx hb dL_act_116 rfl (lv_at hl 5 rfl) ?_
          refine lv_sipush (v := 2001) hx hb dL_act_117 (by decide) ?_
          refine z_Ri (va_runS (As := [.int x3, .int (2001 : Int32)]) (rest := [.int v_12]) ⟨hx, hb, hml, hown, hts⟩ (c_L_up l D cA (x3) (2001 : Int32)  (by decide)) (va_cwS 2 hts gL_act_L_up rfl rfl rfl (by decide +kernel) ⟨Nat.le_of_ble_eq_true rfl, Nat.le_of_ble_eq_true rfl⟩) (zqSR0 hK hN) rfl rfl hl.1 rfl (lv_room (Nat.le_of_ble_eq_true rfl)) dL_act_120 ⟨Nat.le_of_ble_eq_true rfl, Nat.le_of_ble_eq_true rfl⟩) ?_
          refine lv_sipush (v := 1000) hx hb dL_act_123 (by decide) ?_
          refine lv_isub hx hb dL_act_126 ?_
          refine lv_icmp_ne (tgt := 145) hx hb dL_act_127 (by decide) (fun c_13 => ?_) (fun c_13 => ?_)
          · skip
            -- bad leaf 2
            rw [ev_12] at c_13
            exact (c_13 ((by rw [hw]; rfl))).elim
          · skip
            refine lv_aload_n hx hb dL_act_130 rfl (lv_at hl 2 rfl) ?_
            refine lv_bipush (v := 13) hx hb dL_act_131 (by decide) ?_
            refine z_Ri (va_runV (As := [.int (13 : Int32)]) (rest := []) ⟨hx, hb, hml, hown, hts⟩ (d_X9_state l D cA g (13 : Int32) hR_8) (cwV 1 hts gL_act_X9_state rfl rfl rfl (by decide +kernel) ⟨Nat.le_of_ble_eq_true rfl, Nat.le_of_ble_eq_true rfl⟩) (zqVR (wr := []) (wc := zTr cA g t_8) hK hP hN (List.Perm.refl _) 0 rfl rfl) rfl rfl hl.1 rfl (lv_room (Nat.le_of_ble_eq_true rfl)) dL_act_133 ⟨Nat.le_of_ble_eq_true rfl, Nat.le_of_ble_eq_true rfl⟩) ?_
            refine lv_topi (fun v_14 ev_14 => ?_)
            rw [fs_13] at ev_14
            refine lv_iload hx hb dL_act_136 (lv_at hl 0 rfl) ?_
            refine lv_icmp_ne (tgt := 145) hx hb dL_act_138 (by decide) (fun c_15 => ?_) (fun c_15 => ?_)
            · skip
              -- bad leaf 3
              rw [ev_14, ev_7] at c_15
              exact (c_15 ((by rw [hw]; rfl))).elim
            · skip
              refine lv_iconst (v := 1) hx hb dL_act_141 (by decide) ?_
              refine lv_goto (tgt := 146) hx hb dL_act_142 (by decide) ?_
              have hP9 : va_P D vwCl (zTr cA g t_8) H := hP
              have hD9 : va_D A (zTr cA g t_8) := hD
              have hI9 : IV (n + 8) w_8 := IV_le (IV_c hI (ac_i1 hw)) (by omega)
              subst hQ
              refine W.widen (k := 160) (n := 920) (by omega) (by omega) ?_
              exact W.zret (ty := .boolean) (v := 1) hx hb hr rfl (fun t ht hW => ⟨⟨1, t_8, rfl, ⟨rfl, w_8, hR_8, hI9⟩, ⟨by rw [ht]; exact hP9, va_K.moved hW.alike hK, hD9⟩⟩, hS.F ht⟩) hS.2.2 dL_act_146
    · skip
      have c_1 : (fl_up (x1) (10 : Int32)) = 1 := c_1.trans (by decide)
      refine lv_tableIn (tgt := 147) (off := 141) hx hb dL_act_6 (by rw [c_1]; decide) (by rw [c_1]; decide) (by rw [c_1]; decide) (by decide) ?_
      refine lv_aload_n hx hb dL_act_147 rfl (lv_at hl 0 rfl) ?_
      refine lv_iconst (v := 3) hx hb dL_act_148 (by decide) ?_
      refine z_Ri (va_runV (As := [.int (3 : Int32)]) (rest := []) ⟨hx, hb, hml, hown, hts⟩ (d_X9_state l D cA g (3 : Int32) hR) (cwV 1 hts gL_act_X9_state rfl rfl rfl (by decide +kernel) ⟨Nat.le_of_ble_eq_true rfl, Nat.le_of_ble_eq_true rfl⟩) (zqVR (wr := []) (wc := zTr cA g t) hK hP hN (List.Perm.refl _) 0 rfl rfl) rfl rfl hl.1 rfl (lv_room (Nat.le_of_ble_eq_true rfl)) dL_act_149 ⟨Nat.le_of_ble_eq_true rfl, Nat.le_of_ble_eq_true rfl⟩) ?_
      refine lv_topi (fun v_16 ev_16 => ?_)
      rw [fs_3] at ev_16
      refine lv_istore (lv' := [(4, .int v_16), (0, .ref (g 0)), (1, .int x1), (2, .int x2), (3, .int x3)]) hx hb dL_act_152 hl (by decide) rfl (fun ls hl => ?_)
      refine lv_aload_n hx hb dL_act_154 rfl (lv_at hl 1 rfl) ?_
      refine lv_iload_n hx hb dL_act_155 rfl (lv_at hl 3 rfl) ?_
      refine lv_ldc hx hb hown (hts (.constant RL 64 (36000)) (List.mem_of_getElem? (i := 2) rfl)) dL_act_156 ?_
      refine z_Ri (va_runS (As := [.int x2, .int (36000 : Int32)]) (rest := [.ref (g 0)]) ⟨hx, hb, hml, hown, hts⟩ (c_L_up l D cA (x2) (36000 : Int32)  (by decide)) (va_cwS 2 hts gL_act_L_up rfl rfl rfl (by decide +kernel) ⟨Nat.le_of_ble_eq_true rfl, Nat.le_of_ble_eq_true rfl⟩) (zqSR0 hK hN) rfl rfl hl.1 rfl (lv_room (Nat.le_of_ble_eq_true rfl)) dL_act_158 ⟨Nat.le_of_ble_eq_true rfl, Nat.le_of_ble_eq_true rfl⟩) ?_
      refine lv_iload_n hx hb dL_act_161 rfl (lv_at hl 4 rfl) ?_
      refine lv_sipush (v := 401) hx hb dL_act_162 (by decide) ?_
      refine z_Ri (va_runS (As := [.int x3, .int (401 : Int32)]) (rest := [.int (fl_up (x2) (36000 : Int32)), .ref (g 0)]) ⟨hx, hb, hml, hown, hts⟩ (c_L_up l D cA (x3) (401 : Int32)  (by decide)) (va_cwS 2 hts gL_act_L_up rfl rfl rfl (by decide +kernel) ⟨Nat.le_of_ble_eq_true rfl, Nat.le_of_ble_eq_true rfl⟩) (zqSR0 hK hN) rfl rfl hl.1 rfl (lv_room (Nat.le_of_ble_eq_true rfl)) dL_act_165 ⟨Nat.le_of_ble_eq_true rfl, Nat.le_of_ble_eq_true rfl⟩) ?_
      refine lv_iconst (v := 1) hx hb dL_act_168 (by decide) ?_
      refine lv_iload_n hx hb dL_act_169 rfl (lv_at hl 4 rfl) ?_
      refine lv_bipush (v := 9) hx hb dL_act_170 (by decide) ?_
      refine lv_ishr hx hb dL_act_172 ?_
      refine lv_bipush (v := 9) hx hb dL_act_173 (by decide) ?_
      refine z_Ri (va_runS (As := [.int (x3 >>> ((9 : Int32) &&& 31)), .int (9 : Int32)]) (rest := [.int (1 : Int32), .int (fl_up (x3) (401 : Int32)), .int (fl_up (x2) (36000 : Int32)), .ref (g 0)]) ⟨hx, hb, hml, hown, hts⟩ (c_L_up l D cA (x3 >>> ((9 : Int32) &&& 31)) (9 : Int32)  (by decide)) (va_cwS 2 hts gL_act_L_up rfl rfl rfl (by decide +kernel) ⟨Nat.le_of_ble_eq_true rfl, Nat.le_of_ble_eq_true rfl⟩) (zqSR0 hK hN) rfl rfl hl.1 rfl (lv_room (Nat.le_of_ble_eq_true rfl)) dL_act_175 ⟨Nat.le_of_ble_eq_true rfl, Nat.le_of_ble_eq_true rfl⟩) ?_
      refine lv_iadd hx hb dL_act_178 ?_
      refine z_Hp (wr := []) (wt := fun u => zTr cA g u) (va_runV (As := [.int (fl_up (x2) (36000 : Int32)), .int (fl_up (x3) (401 : Int32)), .int ((1 : Int32) + (fl_up (x3 >>> ((9 : Int32) &&& 31)) (9 : Int32)))]) (rest := []) ⟨hx, hb, hml, hown, hts⟩ (d_X9_leg l D cA g s.heap.size (fl_up (x2) (36000 : Int32)) (fl_up (x3) (401 : Int32)) ((1 : Int32) + (fl_up (x3 >>> ((9 : Int32) &&& 31)) (9 : Int32))) hR) (cwV 3 hts gL_act_X9_leg rfl rfl rfl (by decide +kernel) ⟨Nat.le_of_ble_eq_true rfl, Nat.le_of_ble_eq_true rfl⟩) (zqV (wr := []) (wc := zTr cA g t) hK hP hD hS hA hE (List.Perm.refl _) 0 rfl rfl) rfl rfl hl.1 rfl (lv_room (Nat.le_of_ble_eq_true rfl)) dL_act_179 ⟨Nat.le_of_ble_eq_true rfl, Nat.le_of_ble_eq_true rfl⟩) hP hD hS hA (List.Perm.refl _) (fun u => List.Perm.refl _) (fun r_17 t_17 H locs hp_17 hP hD hS => ?_)
      obtain ⟨er_17, hR_17⟩ := hp_17
      obtain ⟨w_17, ew_17⟩ : ∃ z : vX10, z = ((fm_leg (pmN w) (nT (w.1 3)) w (fl_up (x2) (36000 : Int32)) (fl_up (x3) (401 : Int32)) ((1 : Int32) + (fl_up (x3 >>> ((9 : Int32) &&& 31)) (9 : Int32))))).2 := ⟨_, rfl⟩
      rw [← ew_17] at hR_17
      have hP : va_P D vwCl (zTr cA g t_17) H := hP
      have hD : va_D A (zTr cA g t_17) := hD
      refine W.widen (k := 20) (n := 115) (by omega) (by omega) ?_
      have hg := ac_leg hR (up_c x2) (up_s x3) (up_1 (x3 >>> ((9 : Int32) &&& 31))) er_17 ew_17
      refine lv_istore (lv' := [(5, .int r_17), (4, .int v_16), (0, .ref (g 0)), (1, .int x1), (2, .int x2), (3, .int x3)]) hx hb dL_act_182 hl (by decide) rfl (fun ls hl => ?_)
      refine lv_iload hx hb dL_act_184 (lv_at hl 1 rfl) ?_
      refine lv_bipush (v := 8) hx hb dL_act_186 (by decide) ?_
      refine lv_icmp_ne (tgt := 206) hx hb dL_act_188 (by decide) (fun c_18 => ?_) (fun c_18 => ?_)
      · skip
        refine lv_iload hx hb dL_act_206 (lv_at hl 0 rfl) ?_
        refine lv_iload hx hb dL_act_208 (lv_at hl 1 rfl) ?_
        refine lv_iconst (v := 1) hx hb dL_act_210 (by decide) ?_
        refine lv_iadd hx hb dL_act_211 ?_
        refine lv_icmp_ne (tgt := 272) hx hb dL_act_212 (by decide) (fun c_19 => ?_) (fun c_19 => ?_)
        · skip
          -- bad leaf 4
          rw [ev_16] at c_18
          rw [ev_16] at c_19
          exact (c_19 (ac_l4 hg c_18)).elim
        · skip
          refine lv_iload hx hb dL_act_215 (lv_at hl 1 rfl) ?_
          refine lv_if_gt (tgt := 268) hx hb dL_act_217 (by decide) (fun c_20 => ?_) (fun c_20 => ?_)
          · skip
            refine lv_iconst (v := 1) hx hb dL_act_268 (by decide) ?_
            refine lv_goto (tgt := 273) hx hb dL_act_269 (by decide) ?_
            have hP9 : va_P D vwCl (zTr cA g t_17) H := hP
            have hD9 : va_D A (zTr cA g t_17) := hD
            have hI9 : IV (n + 8) w_17 := IV_le (ac_i2 hR hI hg) (by omega)
            subst hQ
            refine W.widen (k := 160) (n := 920) (by omega) (by omega) ?_
            exact W.zret (ty := .boolean) (v := 1) hx hb hr rfl (fun t ht hW => ⟨⟨1, t_17, rfl, ⟨rfl, w_17, hR_17, hI9⟩, ⟨by rw [ht]; exact hP9, va_K.moved hW.alike hK, hD9⟩⟩, hS.F ht⟩) hS.2.2 dL_act_273
          · skip
            refine lv_aload_n hx hb dL_act_220 rfl (lv_at hl 2 rfl) ?_
            refine lv_iconst (v := 1) hx hb dL_act_221 (by decide) ?_
            refine z_Ri (va_runV (As := [.int (1 : Int32)]) (rest := []) ⟨hx, hb, hml, hown, hts⟩ (d_X9_state l D cA g (1 : Int32) hR_17) (cwV 1 hts gL_act_X9_state rfl rfl rfl (by decide +kernel) ⟨Nat.le_of_ble_eq_true rfl, Nat.le_of_ble_eq_true rfl⟩) (zqVR (wr := []) (wc := zTr cA g t_17) hK hP hN (List.Perm.refl _) 0 rfl rfl) rfl rfl hl.1 rfl (lv_room (Nat.le_of_ble_eq_true rfl)) dL_act_222 ⟨Nat.le_of_ble_eq_true rfl, Nat.le_of_ble_eq_true rfl⟩) ?_
            refine lv_topi (fun v_21 ev_21 => ?_)
            rw [fs_1] at ev_21
            refine lv_iload_n hx hb dL_act_225 rfl (lv_at hl 4 rfl) ?_
            refine lv_ldc hx hb hown (hts (.constant RL 64 (36000)) (List.mem_of_getElem? (i := 2) rfl)) dL_act_226 ?_
            refine z_Ri (va_runS (As := [.int x2, .int (36000 : Int32)]) (rest := [.int v_21]) ⟨hx, hb, hml, hown, hts⟩ (c_L_up l D cA (x2) (36000 : Int32)  (by decide)) (va_cwS 2 hts gL_act_L_up rfl rfl rfl (by decide +kernel) ⟨Nat.le_of_ble_eq_true rfl, Nat.le_of_ble_eq_true rfl⟩) (zqSR0 hK hN) rfl rfl hl.1 rfl (lv_room (Nat.le_of_ble_eq_true rfl)) dL_act_228 ⟨Nat.le_of_ble_eq_true rfl, Nat.le_of_ble_eq_true rfl⟩) ?_
            refine lv_icmp_ne (tgt := 272) hx hb dL_act_231 (by decide) (fun c_22 => ?_) (fun c_22 => ?_)
            · skip
              -- bad leaf 5
              rw [ev_16] at c_20
              rw [ev_21] at c_22
              exact (c_22 ((ac_l0 hR hg c_20).1)).elim
            · skip
              refine lv_aload_n hx hb dL_act_234 rfl (lv_at hl 2 rfl) ?_
              refine lv_iconst (v := 2) hx hb dL_act_235 (by decide) ?_
              refine z_Ri (va_runV (As := [.int (2 : Int32)]) (rest := []) ⟨hx, hb, hml, hown, hts⟩ (d_X9_state l D cA g (2 : Int32) hR_17) (cwV 1 hts gL_act_X9_state rfl rfl rfl (by decide +kernel) ⟨Nat.le_of_ble_eq_true rfl, Nat.le_of_ble_eq_true rfl⟩) (zqVR (wr := []) (wc := zTr cA g t_17) hK hP hN (List.Perm.refl _) 0 rfl rfl) rfl rfl hl.1 rfl (lv_room (Nat.le_of_ble_eq_true rfl)) dL_act_236 ⟨Nat.le_of_ble_eq_true rfl, Nat.le_of_ble_eq_true rfl⟩) ?_
              refine lv_topi (fun v_23 ev_23 => ?_)
              rw [fs_2] at ev_23
              refine lv_iload_n hx hb dL_act_239 rfl (lv_at hl 5 rfl) ?_
              refine lv_sipush (v := 401) hx hb dL_act_240 (by decide) ?_
              refine z_Ri (va_runS (As := [.int x3, .int (401 : Int32)]) (rest := [.int v_23]) ⟨hx, hb, hml, hown, hts⟩ (c_L_up l D cA (x3) (401 : Int32)  (by decide)) (va_cwS 2 hts gL_act_L_up rfl rfl rfl (by decide +kernel) ⟨Nat.le_of_ble_eq_true rfl, Nat.le_of_ble_eq_true rfl⟩) (zqSR0 hK hN) rfl rfl hl.1 rfl (lv_room (Nat.le_of_ble_eq_true rfl)) dL_act_243 ⟨Nat.le_of_ble_eq_true rfl, Nat.le_of_ble_eq_true rfl⟩) ?_
              refine lv_icmp_ne (tgt := 272) hx hb dL_act_246 (by decide) (fun c_24 => ?_) (fun c_24 => ?_)
              · skip
                -- bad leaf 6
                rw [ev_16] at c_20
                rw [ev_21] at c_22
                rw [ev_23] at c_24
                exact (c_24 ((ac_l0 hR hg c_20).2.1)).elim
              · skip
                refine lv_aload_n hx hb dL_act_249 rfl (lv_at hl 2 rfl) ?_
                refine lv_iconst (v := 4) hx hb dL_act_250 (by decide) ?_
                refine z_Ri (va_runV (As := [.int (4 : Int32)]) (rest := []) ⟨hx, hb, hml, hown, hts⟩ (d_X9_state l D cA g (4 : Int32) hR_17) (cwV 1 hts gL_act_X9_state rfl rfl rfl (by decide +kernel) ⟨Nat.le_of_ble_eq_true rfl, Nat.le_of_ble_eq_true rfl⟩) (zqVR (wr := []) (wc := zTr cA g t_17) hK hP hN (List.Perm.refl _) 0 rfl rfl) rfl rfl hl.1 rfl (lv_room (Nat.le_of_ble_eq_true rfl)) dL_act_251 ⟨Nat.le_of_ble_eq_true rfl, Nat.le_of_ble_eq_true rfl⟩) ?_
                refine lv_topi (fun v_25 ev_25 => ?_)
                rw [fs_4] at ev_25
                refine lv_iconst (v := 1) hx hb dL_act_254 (by decide) ?_
                refine lv_iload_n hx hb dL_act_255 rfl (lv_at hl 5 rfl) ?_
                refine lv_bipush (v := 9) hx hb dL_act_256 (by decide) ?_
                refine lv_ishr hx hb dL_act_258 ?_
                refine lv_bipush (v := 9) hx hb dL_act_259 (by decide) ?_
                refine z_Ri (va_runS (As := [.int (x3 >>> ((9 : Int32) &&& 31)), .int (9 : Int32)]) (rest := [.int (1 : Int32), .int v_25]) ⟨hx, hb, hml, hown, hts⟩ (c_L_up l D cA (x3 >>> ((9 : Int32) &&& 31)) (9 : Int32)  (by decide)) (va_cwS 2 hts gL_act_L_up rfl rfl rfl (by decide +kernel) ⟨Nat.le_of_ble_eq_true rfl, Nat.le_of_ble_eq_true rfl⟩) (zqSR0 hK hN) rfl rfl hl.1 rfl (lv_room (Nat.le_of_ble_eq_true rfl)) dL_act_261 ⟨Nat.le_of_ble_eq_true rfl, Nat.le_of_ble_eq_true rfl⟩) ?_
                refine lv_iadd hx hb dL_act_264 ?_
                refine lv_icmp_ne (tgt := 272) hx hb dL_act_265 (by decide) (fun c_26 => ?_) (fun c_26 => ?_)
                · skip
                  -- bad leaf 7
                  rw [ev_16] at c_20
                  rw [ev_21] at c_22
                  rw [ev_23] at c_24
                  rw [ev_25] at c_26
                  exact (c_26 ((ac_l0 hR hg c_20).2.2)).elim
                · skip
                  refine lv_iconst (v := 1) hx hb dL_act_268 (by decide) ?_
                  refine lv_goto (tgt := 273) hx hb dL_act_269 (by decide) ?_
                  have hP9 : va_P D vwCl (zTr cA g t_17) H := hP
                  have hD9 : va_D A (zTr cA g t_17) := hD
                  have hI9 : IV (n + 8) w_17 := IV_le (ac_i2 hR hI hg) (by omega)
                  subst hQ
                  refine W.widen (k := 160) (n := 920) (by omega) (by omega) ?_
                  exact W.zret (ty := .boolean) (v := 1) hx hb hr rfl (fun t ht hW => ⟨⟨1, t_17, rfl, ⟨rfl, w_17, hR_17, hI9⟩, ⟨by rw [ht]; exact hP9, va_K.moved hW.alike hK, hD9⟩⟩, hS.F ht⟩) hS.2.2 dL_act_273
      · skip
        refine lv_iload hx hb dL_act_191 (lv_at hl 0 rfl) ?_
        refine lv_bipush (v := -4) hx hb dL_act_193 (by decide) ?_
        refine lv_icmp_ne (tgt := 202) hx hb dL_act_195 (by decide) (fun c_27 => ?_) (fun c_27 => ?_)
        · skip
          -- bad leaf 8
          rw [ev_16] at c_18
          exact (c_27 (ac_l8 hg c_18)).elim
        · skip
          refine lv_iconst (v := 1) hx hb dL_act_198 (by decide) ?_
          refine lv_goto (tgt := 273) hx hb dL_act_199 (by decide) ?_
          have hP9 : va_P D vwCl (zTr cA g t_17) H := hP
          have hD9 : va_D A (zTr cA g t_17) := hD
          have hI9 : IV (n + 8) w_17 := IV_le (ac_i2 hR hI hg) (by omega)
          subst hQ
          refine W.widen (k := 160) (n := 920) (by omega) (by omega) ?_
          exact W.zret (ty := .boolean) (v := 1) hx hb hr rfl (fun t ht hW => ⟨⟨1, t_17, rfl, ⟨rfl, w_17, hR_17, hI9⟩, ⟨by rw [ht]; exact hP9, va_K.moved hW.alike hK, hD9⟩⟩, hS.F ht⟩) hS.2.2 dL_act_273
    · skip
      have c_1 : (fl_up (x1) (10 : Int32)) = 2 := c_1.trans (by decide)
      refine lv_tableIn (tgt := 274) (off := 268) hx hb dL_act_6 (by rw [c_1]; decide) (by rw [c_1]; decide) (by rw [c_1]; decide) (by decide) ?_
      refine lv_aload_n hx hb dL_act_274 rfl (lv_at hl 0 rfl) ?_
      refine lv_iconst (v := 3) hx hb dL_act_275 (by decide) ?_
      refine z_Ri (va_runV (As := [.int (3 : Int32)]) (rest := []) ⟨hx, hb, hml, hown, hts⟩ (d_X9_state l D cA g (3 : Int32) hR) (cwV 1 hts gL_act_X9_state rfl rfl rfl (by decide +kernel) ⟨Nat.le_of_ble_eq_true rfl, Nat.le_of_ble_eq_true rfl⟩) (zqVR (wr := []) (wc := zTr cA g t) hK hP hN (List.Perm.refl _) 0 rfl rfl) rfl rfl hl.1 rfl (lv_room (Nat.le_of_ble_eq_true rfl)) dL_act_276 ⟨Nat.le_of_ble_eq_true rfl, Nat.le_of_ble_eq_true rfl⟩) ?_
      refine lv_topi (fun v_28 ev_28 => ?_)
      rw [fs_3] at ev_28
      refine lv_istore (lv' := [(4, .int v_28), (0, .ref (g 0)), (1, .int x1), (2, .int x2), (3, .int x3)]) hx hb dL_act_279 hl (by decide) rfl (fun ls hl => ?_)
      refine lv_aload_n hx hb dL_act_281 rfl (lv_at hl 1 rfl) ?_
      refine lv_iload_n hx hb dL_act_282 rfl (lv_at hl 3 rfl) ?_
      refine lv_ldc hx hb hown (hts (.constant RL 64 (36000)) (List.mem_of_getElem? (i := 2) rfl)) dL_act_283 ?_
      refine z_Ri (va_runS (As := [.int x2, .int (36000 : Int32)]) (rest := [.ref (g 0)]) ⟨hx, hb, hml, hown, hts⟩ (c_L_up l D cA (x2) (36000 : Int32)  (by decide)) (va_cwS 2 hts gL_act_L_up rfl rfl rfl (by decide +kernel) ⟨Nat.le_of_ble_eq_true rfl, Nat.le_of_ble_eq_true rfl⟩) (zqSR0 hK hN) rfl rfl hl.1 rfl (lv_room (Nat.le_of_ble_eq_true rfl)) dL_act_285 ⟨Nat.le_of_ble_eq_true rfl, Nat.le_of_ble_eq_true rfl⟩) ?_
      refine lv_iload_n hx hb dL_act_288 rfl (lv_at hl 4 rfl) ?_
      refine lv_sipush (v := 401) hx hb dL_act_289 (by decide) ?_
      refine z_Ri (va_runS (As := [.int x3, .int (401 : Int32)]) (rest := [.int (fl_up (x2) (36000 : Int32)), .ref (g 0)]) ⟨hx, hb, hml, hown, hts⟩ (c_L_up l D cA (x3) (401 : Int32)  (by decide)) (va_cwS 2 hts gL_act_L_up rfl rfl rfl (by decide +kernel) ⟨Nat.le_of_ble_eq_true rfl, Nat.le_of_ble_eq_true rfl⟩) (zqSR0 hK hN) rfl rfl hl.1 rfl (lv_room (Nat.le_of_ble_eq_true rfl)) dL_act_292 ⟨Nat.le_of_ble_eq_true rfl, Nat.le_of_ble_eq_true rfl⟩) ?_
      refine z_Hp (wr := []) (wt := fun u => zTr cA g u) (va_runV (As := [.int (fl_up (x2) (36000 : Int32)), .int (fl_up (x3) (401 : Int32))]) (rest := []) ⟨hx, hb, hml, hown, hts⟩ (d_X9_steer l D cA g s.heap.size (fl_up (x2) (36000 : Int32)) (fl_up (x3) (401 : Int32)) hR) (cwV 2 hts gL_act_X9_steer rfl rfl rfl (by decide +kernel) ⟨Nat.le_of_ble_eq_true rfl, Nat.le_of_ble_eq_true rfl⟩) (zqV (wr := []) (wc := zTr cA g t) hK hP hD hS hA hE (List.Perm.refl _) 0 rfl rfl) rfl rfl hl.1 rfl (lv_room (Nat.le_of_ble_eq_true rfl)) dL_act_295 ⟨Nat.le_of_ble_eq_true rfl, Nat.le_of_ble_eq_true rfl⟩) hP hD hS hA (List.Perm.refl _) (fun u => List.Perm.refl _) (fun r_29 t_29 H locs hp_29 hP hD hS => ?_)
      obtain ⟨er_29, hR_29⟩ := hp_29
      obtain ⟨w_29, ew_29⟩ : ∃ z : vX10, z = ((fm_steer (pmN w) w (fl_up (x2) (36000 : Int32)) (fl_up (x3) (401 : Int32)))).2 := ⟨_, rfl⟩
      rw [← ew_29] at hR_29
      have hP : va_P D vwCl (zTr cA g t_29) H := hP
      have hD : va_D A (zTr cA g t_29) := hD
      refine W.widen (k := 20) (n := 115) (by omega) (by omega) ?_
      obtain ⟨hr9, hw⟩ := ac_steer (up_c x2) (up_s x3) er_29 ew_29
      refine lv_iload hx hb dL_act_298 (lv_at hl 0 rfl) ?_
      refine lv_icmp_ne (tgt := 352) hx hb dL_act_300 (by decide) (fun c_30 => ?_) (fun c_30 => ?_)
      · skip
        -- bad leaf 9
        rw [ev_28] at c_30
        exact (c_30 (hr9)).elim
      · skip
        refine lv_aload_n hx hb dL_act_303 rfl (lv_at hl 1 rfl) ?_
        refine lv_iconst (v := 1) hx hb dL_act_304 (by decide) ?_
        refine z_Ri (va_runV (As := [.int (1 : Int32)]) (rest := []) ⟨hx, hb, hml, hown, hts⟩ (d_X9_state l D cA g (1 : Int32) hR_29) (cwV 1 hts gL_act_X9_state rfl rfl rfl (by decide +kernel) ⟨Nat.le_of_ble_eq_true rfl, Nat.le_of_ble_eq_true rfl⟩) (zqVR (wr := []) (wc := zTr cA g t_29) hK hP hN (List.Perm.refl _) 0 rfl rfl) rfl rfl hl.1 rfl (lv_room (Nat.le_of_ble_eq_true rfl)) dL_act_305 ⟨Nat.le_of_ble_eq_true rfl, Nat.le_of_ble_eq_true rfl⟩) ?_
        refine lv_topi (fun v_31 ev_31 => ?_)
        rw [fs_1] at ev_31
        refine lv_iload_n hx hb dL_act_308 rfl (lv_at hl 3 rfl) ?_
        refine lv_ldc hx hb hown (hts (.constant RL 64 (36000)) (List.mem_of_getElem? (i := 2) rfl)) dL_act_309 ?_
        refine z_Ri (va_runS (As := [.int x2, .int (36000 : Int32)]) (rest := [.int v_31]) ⟨hx, hb, hml, hown, hts⟩ (c_L_up l D cA (x2) (36000 : Int32)  (by decide)) (va_cwS 2 hts gL_act_L_up rfl rfl rfl (by decide +kernel) ⟨Nat.le_of_ble_eq_true rfl, Nat.le_of_ble_eq_true rfl⟩) (zqSR0 hK hN) rfl rfl hl.1 rfl (lv_room (Nat.le_of_ble_eq_true rfl)) dL_act_311 ⟨Nat.le_of_ble_eq_true rfl, Nat.le_of_ble_eq_true rfl⟩) ?_
        refine lv_icmp_ne (tgt := 352) hx hb dL_act_314 (by decide) (fun c_32 => ?_) (fun c_32 => ?_)
        · skip
          -- bad leaf 10
          rw [ev_31] at c_32
          exact (c_32 ((ac_s hw).1)).elim
        · skip
          refine lv_aload_n hx hb dL_act_317 rfl (lv_at hl 1 rfl) ?_
          refine lv_iconst (v := 2) hx hb dL_act_318 (by decide) ?_
          refine z_Ri (va_runV (As := [.int (2 : Int32)]) (rest := []) ⟨hx, hb, hml, hown, hts⟩ (d_X9_state l D cA g (2 : Int32) hR_29) (cwV 1 hts gL_act_X9_state rfl rfl rfl (by decide +kernel) ⟨Nat.le_of_ble_eq_true rfl, Nat.le_of_ble_eq_true rfl⟩) (zqVR (wr := []) (wc := zTr cA g t_29) hK hP hN (List.Perm.refl _) 0 rfl rfl) rfl rfl hl.1 rfl (lv_room (Nat.le_of_ble_eq_true rfl)) dL_act_319 ⟨Nat.le_of_ble_eq_true rfl, Nat.le_of_ble_eq_true rfl⟩) ?_
          refine lv_topi (fun v_33 ev_33 => ?_)
          rw [fs_2] at ev_33
          refine lv_iload_n hx hb dL_act_322 rfl (lv_at hl 4 rfl) ?_
          refine lv_sipush (v := 401) hx hb dL_act_323 (by decide) ?_
          refine z_Ri (va_runS (As := [.int x3, .int (401 : Int32)]) (rest := [.int v_33]) ⟨hx, hb, hml, hown, hts⟩ (c_L_up l D cA (x3) (401 : Int32)  (by decide)) (va_cwS 2 hts gL_act_L_up rfl rfl rfl (by decide +kernel) ⟨Nat.le_of_ble_eq_true rfl, Nat.le_of_ble_eq_true rfl⟩) (zqSR0 hK hN) rfl rfl hl.1 rfl (lv_room (Nat.le_of_ble_eq_true rfl)) dL_act_326 ⟨Nat.le_of_ble_eq_true rfl, Nat.le_of_ble_eq_true rfl⟩) ?_
          refine lv_icmp_ne (tgt := 352) hx hb dL_act_329 (by decide) (fun c_34 => ?_) (fun c_34 => ?_)
          · skip
            -- bad leaf 11
            rw [ev_33] at c_34
            exact (c_34 ((ac_s hw).2.1)).elim
          · skip
            refine lv_aload_n hx hb dL_act_332 rfl (lv_at hl 1 rfl) ?_
            refine lv_iconst (v := 3) hx hb dL_act_333 (by decide) ?_
            refine z_Ri (va_runV (As := [.int (3 : Int32)]) (rest := []) ⟨hx, hb, hml, hown, hts⟩ (d_X9_state l D cA g (3 : Int32) hR_29) (cwV 1 hts gL_act_X9_state rfl rfl rfl (by decide +kernel) ⟨Nat.le_of_ble_eq_true rfl, Nat.le_of_ble_eq_true rfl⟩) (zqVR (wr := []) (wc := zTr cA g t_29) hK hP hN (List.Perm.refl _) 0 rfl rfl) rfl rfl hl.1 rfl (lv_room (Nat.le_of_ble_eq_true rfl)) dL_act_334 ⟨Nat.le_of_ble_eq_true rfl, Nat.le_of_ble_eq_true rfl⟩) ?_
            refine lv_topi (fun v_35 ev_35 => ?_)
            rw [fs_3] at ev_35
            refine lv_if_ne (tgt := 352) hx hb dL_act_337 (by decide) (fun c_36 => ?_) (fun c_36 => ?_)
            · skip
              -- bad leaf 12
              rw [ev_35] at c_36
              exact (c_36 ((ac_s hw).2.2)).elim
            · skip
              refine lv_aload_n hx hb dL_act_340 rfl (lv_at hl 1 rfl) ?_
              refine lv_iconst (v := 4) hx hb dL_act_341 (by decide) ?_
              refine z_Ri (va_runV (As := [.int (4 : Int32)]) (rest := []) ⟨hx, hb, hml, hown, hts⟩ (d_X9_state l D cA g (4 : Int32) hR_29) (cwV 1 hts gL_act_X9_state rfl rfl rfl (by decide +kernel) ⟨Nat.le_of_ble_eq_true rfl, Nat.le_of_ble_eq_true rfl⟩) (zqVR (wr := []) (wc := zTr cA g t_29) hK hP hN (List.Perm.refl _) 0 rfl rfl) rfl rfl hl.1 rfl (lv_room (Nat.le_of_ble_eq_true rfl)) dL_act_342 ⟨Nat.le_of_ble_eq_true rfl, Nat.le_of_ble_eq_true rfl⟩) ?_
              refine lv_topi (fun v_37 ev_37 => ?_)
              rw [fs_4] at ev_37
              refine lv_if_ne (tgt := 352) hx hb dL_act_345 (by decide) (fun c_38 => ?_) (fun c_38 => ?_)
              · skip
                -- bad leaf 13
                rw [ev_37] at c_38
                exact (c_38 (if_pos (ac_s hw).2.2)).elim
              · skip
                refine lv_iconst (v := 1) hx hb dL_act_348 (by decide) ?_
                refine lv_goto (tgt := 353) hx hb dL_act_349 (by decide) ?_
                have hP9 : va_P D vwCl (zTr cA g t_29) H := hP
                have hD9 : va_D A (zTr cA g t_29) := hD
                have hI9 : IV (n + 8) w_29 := IV_le (IV_c hI (ac_i3 hw)) (by omega)
                subst hQ
                refine W.widen (k := 160) (n := 920) (by omega) (by omega) ?_
                exact W.zret (ty := .boolean) (v := 1) hx hb hr rfl (fun t ht hW => ⟨⟨1, t_29, rfl, ⟨rfl, w_29, hR_29, hI9⟩, ⟨by rw [ht]; exact hP9, va_K.moved hW.alike hK, hD9⟩⟩, hS.F ht⟩) hS.2.2 dL_act_353
    · skip
      have c_1 : (fl_up (x1) (10 : Int32)) = 3 := c_1.trans (by decide)
      refine lv_tableIn (tgt := 354) (off := 348) hx hb dL_act_6 (by rw [c_1]; decide) (by rw [c_1]; decide) (by rw [c_1]; decide) (by decide) ?_
      refine lv_aload_n hx hb dL_act_354 rfl (lv_at hl 0 rfl) ?_
      refine lv_bipush (v := 7) hx hb dL_act_355 (by decide) ?_
      refine z_Ri (va_runV (As := [.int (7 : Int32)]) (rest := []) ⟨hx, hb, hml, hown, hts⟩ (d_X9_state l D cA g (7 : Int32) hR) (cwV 1 hts gL_act_X9_state rfl rfl rfl (by decide +kernel) ⟨Nat.le_of_ble_eq_true rfl, Nat.le_of_ble_eq_true rfl⟩) (zqVR (wr := []) (wc := zTr cA g t) hK hP hN (List.Perm.refl _) 0 rfl rfl) rfl rfl hl.1 rfl (lv_room (Nat.le_of_ble_eq_true rfl)) dL_act_357 ⟨Nat.le_of_ble_eq_true rfl, Nat.le_of_ble_eq_true rfl⟩) ?_
      refine lv_topi (fun v_39 ev_39 => ?_)
      rw [fs_7] at ev_39
      refine lv_istore (lv' := [(4, .int v_39), (0, .ref (g 0)), (1, .int x1), (2, .int x2), (3, .int x3)]) hx hb dL_act_360 hl (by decide) rfl (fun ls hl => ?_)
      refine lv_aload_n hx hb dL_act_362 rfl (lv_at hl 1 rfl) ?_
      refine lv_bipush (v := 6) hx hb dL_act_363 (by decide) ?_
      refine z_Ri (va_runV (As := [.int (6 : Int32)]) (rest := []) ⟨hx, hb, hml, hown, hts⟩ (d_X9_state l D cA g (6 : Int32) hR) (cwV 1 hts gL_act_X9_state rfl rfl rfl (by decide +kernel) ⟨Nat.le_of_ble_eq_true rfl, Nat.le_of_ble_eq_true rfl⟩) (zqVR (wr := []) (wc := zTr cA g t) hK hP hN (List.Perm.refl _) 0 rfl rfl) rfl rfl hl.1 rfl (lv_room (Nat.le_of_ble_eq_true rfl)) dL_act_365 ⟨Nat.le_of_ble_eq_true rfl, Nat.le_of_ble_eq_true rfl⟩) ?_
      refine lv_topi (fun v_40 ev_40 => ?_)
      rw [fs_6] at ev_40
      refine lv_istore (lv' := [(5, .int v_40), (4, .int v_39), (0, .ref (g 0)), (1, .int x1), (2, .int x2), (3, .int x3)]) hx hb dL_act_368 hl (by decide) rfl (fun ls hl => ?_)
      refine lv_aload_n hx hb dL_act_370 rfl (lv_at hl 2 rfl) ?_
      refine lv_iload_n hx hb dL_act_371 rfl (lv_at hl 4 rfl) ?_
      refine lv_iconst (v := 5) hx hb dL_act_372 (by decide) ?_
      refine z_Ri (va_runS (As := [.int x2, .int (5 : Int32)]) (rest := [.ref (g 0)]) ⟨hx, hb, hml, hown, hts⟩ (c_L_up l D cA (x2) (5 : Int32)  (by decide)) (va_cwS 2 hts gL_act_L_up rfl rfl rfl (by decide +kernel) ⟨Nat.le_of_ble_eq_true rfl, Nat.le_of_ble_eq_true rfl⟩) (zqSR0 hK hN) rfl rfl hl.1 rfl (lv_room (Nat.le_of_ble_eq_true rfl)) dL_act_373 ⟨Nat.le_of_ble_eq_true rfl, Nat.le_of_ble_eq_true rfl⟩) ?_
      refine z_Hp (wr := []) (wt := fun u => zTr cA g u) (va_runV (As := [.int (fl_up (x2) (5 : Int32))]) (rest := []) ⟨hx, hb, hml, hown, hts⟩ (d_X9_damp l D cA g s.heap.size (fl_up (x2) (5 : Int32)) hR) (cwV 1 hts gL_act_X9_damp rfl rfl rfl (by decide +kernel) ⟨Nat.le_of_ble_eq_true rfl, Nat.le_of_ble_eq_true rfl⟩) (zqV (wr := []) (wc := zTr cA g t) hK hP hD hS hA hE (List.Perm.refl _) 0 rfl rfl) rfl rfl hl.1 rfl (lv_room (Nat.le_of_ble_eq_true rfl)) dL_act_376 ⟨Nat.le_of_ble_eq_true rfl, Nat.le_of_ble_eq_true rfl⟩) hP hD hS hA (List.Perm.refl _) (fun u => List.Perm.refl _) (fun r_41 t_41 H locs hp_41 hP hD hS => ?_)
      obtain ⟨er_41, hR_41⟩ := hp_41
      obtain ⟨w_41, ew_41⟩ : ∃ z : vX10, z = ((fm_damp (pmN w) w (fl_up (x2) (5 : Int32)))).2 := ⟨_, rfl⟩
      rw [← ew_41] at hR_41
      have hP : va_P D vwCl (zTr cA g t_41) H := hP
      have hD : va_D A (zTr cA g t_41) := hD
      refine W.widen (k := 20) (n := 115) (by omega) (by omega) ?_
      have hg := ac_damp hR hI (by omega) (up_4 x2) er_41 ew_41
      refine lv_istore (lv' := [(6, .int r_41), (5, .int v_40), (4, .int v_39), (0, .ref (g 0)), (1, .int x1), (2, .int x2), (3, .int x3)]) hx hb dL_act_379 hl (by decide) rfl (fun ls hl => ?_)
      refine lv_iload hx hb dL_act_381 (lv_at hl 2 rfl) ?_
      refine lv_if_lt (tgt := 434) hx hb dL_act_383 (by decide) (fun c_42 => ?_) (fun c_42 => ?_)
      · skip
        have hc2 := c_42
        rw [ev_39] at hc2
        obtain ⟨hr9, hw⟩ := ac_dB hg hc2
        refine lv_iload hx hb dL_act_434 (lv_at hl 0 rfl) ?_
        refine lv_iload hx hb dL_act_436 (lv_at hl 1 rfl) ?_
        refine lv_icmp_ne (tgt := 468) hx hb dL_act_438 (by decide) (fun c_43 => ?_) (fun c_43 => ?_)
        · skip
          -- bad leaf 14
          rw [ev_40] at c_43
          exact (c_43 (hr9)).elim
        · skip
          refine lv_aload_n hx hb dL_act_441 rfl (lv_at hl 3 rfl) ?_
          refine lv_bipush (v := 6) hx hb dL_act_442 (by decide) ?_
          refine z_Ri (va_runV (As := [.int (6 : Int32)]) (rest := []) ⟨hx, hb, hml, hown, hts⟩ (d_X9_state l D cA g (6 : Int32) hR_41) (cwV 1 hts gL_act_X9_state rfl rfl rfl (by decide +kernel) ⟨Nat.le_of_ble_eq_true rfl, Nat.le_of_ble_eq_true rfl⟩) (zqVR (wr := []) (wc := zTr cA g t_41) hK hP hN (List.Perm.refl _) 0 rfl rfl) rfl rfl hl.1 rfl (lv_room (Nat.le_of_ble_eq_true rfl)) dL_act_444 ⟨Nat.le_of_ble_eq_true rfl, Nat.le_of_ble_eq_true rfl⟩) ?_
          refine lv_topi (fun v_44 ev_44 => ?_)
          rw [fs_6] at ev_44
          refine lv_iload_n hx hb dL_act_447 rfl (lv_at hl 5 rfl) ?_
          refine lv_iconst (v := 5) hx hb dL_act_448 (by decide) ?_
          refine z_Ri (va_runS (As := [.int x2, .int (5 : Int32)]) (rest := [.int v_44]) ⟨hx, hb, hml, hown, hts⟩ (c_L_up l D cA (x2) (5 : Int32)  (by decide)) (va_cwS 2 hts gL_act_L_up rfl rfl rfl (by decide +kernel) ⟨Nat.le_of_ble_eq_true rfl, Nat.le_of_ble_eq_true rfl⟩) (zqSR0 hK hN) rfl rfl hl.1 rfl (lv_room (Nat.le_of_ble_eq_true rfl)) dL_act_449 ⟨Nat.le_of_ble_eq_true rfl, Nat.le_of_ble_eq_true rfl⟩) ?_
          refine lv_icmp_ne (tgt := 468) hx hb dL_act_452 (by decide) (fun c_45 => ?_) (fun c_45 => ?_)
          · skip
            -- bad leaf 15
            rw [ev_44] at c_45
            exact (c_45 ((by rw [hw]; rfl))).elim
          · skip
            refine lv_aload_n hx hb dL_act_455 rfl (lv_at hl 3 rfl) ?_
            refine lv_bipush (v := 7) hx hb dL_act_456 (by decide) ?_
            refine z_Ri (va_runV (As := [.int (7 : Int32)]) (rest := []) ⟨hx, hb, hml, hown, hts⟩ (d_X9_state l D cA g (7 : Int32) hR_41) (cwV 1 hts gL_act_X9_state rfl rfl rfl (by decide +kernel) ⟨Nat.le_of_ble_eq_true rfl, Nat.le_of_ble_eq_true rfl⟩) (zqVR (wr := []) (wc := zTr cA g t_41) hK hP hN (List.Perm.refl _) 0 rfl rfl) rfl rfl hl.1 rfl (lv_room (Nat.le_of_ble_eq_true rfl)) dL_act_458 ⟨Nat.le_of_ble_eq_true rfl, Nat.le_of_ble_eq_true rfl⟩) ?_
            refine lv_topi (fun v_46 ev_46 => ?_)
            rw [fs_7] at ev_46
            refine lv_if_ne (tgt := 468) hx hb dL_act_461 (by decide) (fun c_47 => ?_) (fun c_47 => ?_)
            · skip
              -- bad leaf 16
              rw [ev_46] at c_47
              exact (c_47 (ac_d7 hR hw)).elim
            · skip
              refine lv_iconst (v := 1) hx hb dL_act_464 (by decide) ?_
              refine lv_goto (tgt := 469) hx hb dL_act_465 (by decide) ?_
              have hP9 : va_P D vwCl (zTr cA g t_41) H := hP
              have hD9 : va_D A (zTr cA g t_41) := hD
              have hI9 : IV (n + 8) w_41 := IV_le (ac_i4 hI hg) (by omega)
              subst hQ
              refine W.widen (k := 160) (n := 920) (by omega) (by omega) ?_
              exact W.zret (ty := .boolean) (v := 1) hx hb hr rfl (fun t ht hW => ⟨⟨1, t_41, rfl, ⟨rfl, w_41, hR_41, hI9⟩, ⟨by rw [ht]; exact hP9, va_K.moved hW.alike hK, hD9⟩⟩, hS.F ht⟩) hS.2.2 dL_act_469
      · skip
        refine lv_iload hx hb dL_act_386 (lv_at hl 2 rfl) ?_
        refine lv_aload_n hx hb dL_act_388 rfl (lv_at hl 3 rfl) ?_
        refine lv_bipush (v := 30) hx hb dL_act_389 (by decide) ?_
        refine z_Ri (va_runV (As := [.int (30 : Int32)]) (rest := [.int v_39]) ⟨hx, hb, hml, hown, hts⟩ (d_X9_state l D cA g (30 : Int32) hR_41) (cwV 1 hts gL_act_X9_state rfl rfl rfl (by decide +kernel) ⟨Nat.le_of_ble_eq_true rfl, Nat.le_of_ble_eq_true rfl⟩) (zqVR (wr := []) (wc := zTr cA g t_41) hK hP hN (List.Perm.refl _) 0 rfl rfl) rfl rfl hl.1 rfl (lv_room (Nat.le_of_ble_eq_true rfl)) dL_act_391 ⟨Nat.le_of_ble_eq_true rfl, Nat.le_of_ble_eq_true rfl⟩) ?_
        refine lv_topi (fun v_48 ev_48 => ?_)
        rw [fs_30] at ev_48
        refine lv_icmp_ge (tgt := 434) hx hb dL_act_394 (by decide) (fun c_49 => ?_) (fun c_49 => ?_)
        · skip
          have hc2 := c_49
          rw [ev_48, ev_39] at hc2
          obtain ⟨hr9, hw⟩ := ac_dC hg hc2
          refine lv_iload hx hb dL_act_434 (lv_at hl 0 rfl) ?_
          refine lv_iload hx hb dL_act_436 (lv_at hl 1 rfl) ?_
          refine lv_icmp_ne (tgt := 468) hx hb dL_act_438 (by decide) (fun c_50 => ?_) (fun c_50 => ?_)
          · skip
            -- bad leaf 17
            rw [ev_40] at c_50
            exact (c_50 (hr9)).elim
          · skip
            refine lv_aload_n hx hb dL_act_441 rfl (lv_at hl 3 rfl) ?_
            refine lv_bipush (v := 6) hx hb dL_act_442 (by decide) ?_
            refine z_Ri (va_runV (As := [.int (6 : Int32)]) (rest := []) ⟨hx, hb, hml, hown, hts⟩ (d_X9_state l D cA g (6 : Int32) hR_41) (cwV 1 hts gL_act_X9_state rfl rfl rfl (by decide +kernel) ⟨Nat.le_of_ble_eq_true rfl, Nat.le_of_ble_eq_true rfl⟩) (zqVR (wr := []) (wc := zTr cA g t_41) hK hP hN (List.Perm.refl _) 0 rfl rfl) rfl rfl hl.1 rfl (lv_room (Nat.le_of_ble_eq_true rfl)) dL_act_444 ⟨Nat.le_of_ble_eq_true rfl, Nat.le_of_ble_eq_true rfl⟩) ?_
            refine lv_topi (fun v_51 ev_51 => ?_)
            rw [fs_6] at ev_51
            refine lv_iload_n hx hb dL_act_447 rfl (lv_at hl 5 rfl) ?_
            refine lv_iconst (v := 5) hx hb dL_act_448 (by decide) ?_
            refine z_Ri (va_runS (As := [.int x2, .int (5 : Int32)]) (rest := [.int v_51]) ⟨hx, hb, hml, hown, hts⟩ (c_L_up l D cA (x2) (5 : Int32)  (by decide)) (va_cwS 2 hts gL_act_L_up rfl rfl rfl (by decide +kernel) ⟨Nat.le_of_ble_eq_true rfl, Nat.le_of_ble_eq_true rfl⟩) (zqSR0 hK hN) rfl rfl hl.1 rfl (lv_room (Nat.le_of_ble_eq_true rfl)) dL_act_449 ⟨Nat.le_of_ble_eq_true rfl, Nat.le_of_ble_eq_true rfl⟩) ?_
            refine lv_icmp_ne (tgt := 468) hx hb dL_act_452 (by decide) (fun c_52 => ?_) (fun c_52 => ?_)
            · skip
              -- bad leaf 18
              rw [ev_51] at c_52
              exact (c_52 ((by rw [hw]; rfl))).elim
            · skip
              refine lv_aload_n hx hb dL_act_455 rfl (lv_at hl 3 rfl) ?_
              refine lv_bipush (v := 7) hx hb dL_act_456 (by decide) ?_
              refine z_Ri (va_runV (As := [.int (7 : Int32)]) (rest := []) ⟨hx, hb, hml, hown, hts⟩ (d_X9_state l D cA g (7 : Int32) hR_41) (cwV 1 hts gL_act_X9_state rfl rfl rfl (by decide +kernel) ⟨Nat.le_of_ble_eq_true rfl, Nat.le_of_ble_eq_true rfl⟩) (zqVR (wr := []) (wc := zTr cA g t_41) hK hP hN (List.Perm.refl _) 0 rfl rfl) rfl rfl hl.1 rfl (lv_room (Nat.le_of_ble_eq_true rfl)) dL_act_458 ⟨Nat.le_of_ble_eq_true rfl, Nat.le_of_ble_eq_true rfl⟩) ?_
              refine lv_topi (fun v_53 ev_53 => ?_)
              rw [fs_7] at ev_53
              refine lv_if_ne (tgt := 468) hx hb dL_act_461 (by decide) (fun c_54 => ?_) (fun c_54 => ?_)
              · skip
                -- bad leaf 19
                rw [ev_53] at c_54
                exact (c_54 (ac_d7 hR hw)).elim
              · skip
                refine lv_iconst (v := 1) hx hb dL_act_464 (by decide) ?_
                refine lv_goto (tgt := 469) hx hb dL_act_465 (by decide) ?_
                have hP9 : va_P D vwCl (zTr cA g t_41) H := hP
                have hD9 : va_D A (zTr cA g t_41) := hD
                have hI9 : IV (n + 8) w_41 := IV_le (ac_i4 hI hg) (by omega)
                subst hQ
                refine W.widen (k := 160) (n := 920) (by omega) (by omega) ?_
                exact W.zret (ty := .boolean) (v := 1) hx hb hr rfl (fun t ht hW => ⟨⟨1, t_41, rfl, ⟨rfl, w_41, hR_41, hI9⟩, ⟨by rw [ht]; exact hP9, va_K.moved hW.alike hK, hD9⟩⟩, hS.F ht⟩) hS.2.2 dL_act_469
        · skip
          have hc1 := c_42
          rw [ev_39] at hc1
          have hc2 := c_49
          rw [ev_48, ev_39] at hc2
          obtain ⟨hr9, hw⟩ := ac_dA hg hc1 hc2
          refine lv_iload hx hb dL_act_397 (lv_at hl 0 rfl) ?_
          refine lv_bipush (v := -5) hx hb dL_act_399 (by decide) ?_
          refine lv_icmp_ne (tgt := 430) hx hb dL_act_401 (by decide) (fun c_55 => ?_) (fun c_55 => ?_)
          · skip
            -- bad leaf 20
            exact (c_55 (hr9)).elim
          · skip
            refine lv_aload_n hx hb dL_act_404 rfl (lv_at hl 3 rfl) ?_
            refine lv_bipush (v := 6) hx hb dL_act_405 (by decide) ?_
            refine z_Ri (va_runV (As := [.int (6 : Int32)]) (rest := []) ⟨hx, hb, hml, hown, hts⟩ (d_X9_state l D cA g (6 : Int32) hR_41) (cwV 1 hts gL_act_X9_state rfl rfl rfl (by decide +kernel) ⟨Nat.le_of_ble_eq_true rfl, Nat.le_of_ble_eq_true rfl⟩) (zqVR (wr := []) (wc := zTr cA g t_41) hK hP hN (List.Perm.refl _) 0 rfl rfl) rfl rfl hl.1 rfl (lv_room (Nat.le_of_ble_eq_true rfl)) dL_act_407 ⟨Nat.le_of_ble_eq_true rfl, Nat.le_of_ble_eq_true rfl⟩) ?_
            refine lv_topi (fun v_56 ev_56 => ?_)
            rw [fs_6] at ev_56
            refine lv_iload hx hb dL_act_410 (lv_at hl 1 rfl) ?_
            refine lv_icmp_ne (tgt := 430) hx hb dL_act_412 (by decide) (fun c_57 => ?_) (fun c_57 => ?_)
            · skip
              -- bad leaf 21
              rw [ev_56, ev_40] at c_57
              exact (c_57 ((by rw [hw]))).elim
            · skip
              refine lv_aload_n hx hb dL_act_415 rfl (lv_at hl 3 rfl) ?_
              refine lv_bipush (v := 7) hx hb dL_act_416 (by decide) ?_
              refine z_Ri (va_runV (As := [.int (7 : Int32)]) (rest := []) ⟨hx, hb, hml, hown, hts⟩ (d_X9_state l D cA g (7 : Int32) hR_41) (cwV 1 hts gL_act_X9_state rfl rfl rfl (by decide +kernel) ⟨Nat.le_of_ble_eq_true rfl, Nat.le_of_ble_eq_true rfl⟩) (zqVR (wr := []) (wc := zTr cA g t_41) hK hP hN (List.Perm.refl _) 0 rfl rfl) rfl rfl hl.1 rfl (lv_room (Nat.le_of_ble_eq_true rfl)) dL_act_418 ⟨Nat.le_of_ble_eq_true rfl, Nat.le_of_ble_eq_true rfl⟩) ?_
              refine lv_topi (fun v_58 ev_58 => ?_)
              rw [fs_7] at ev_58
              refine lv_iload hx hb dL_act_421 (lv_at hl 2 rfl) ?_
              refine lv_icmp_ne (tgt := 430) hx hb dL_act_423 (by decide) (fun c_59 => ?_) (fun c_59 => ?_)
              · skip
                -- bad leaf 22
                rw [ev_58, ev_39] at c_59
                exact (c_59 ((by rw [hw]))).elim
              · skip
                refine lv_iconst (v := 1) hx hb dL_act_426 (by decide) ?_
                refine lv_goto (tgt := 469) hx hb dL_act_427 (by decide) ?_
                have hP9 : va_P D vwCl (zTr cA g t_41) H := hP
                have hD9 : va_D A (zTr cA g t_41) := hD
                have hI9 : IV (n + 8) w_41 := IV_le (ac_i4 hI hg) (by omega)
                subst hQ
                refine W.widen (k := 160) (n := 920) (by omega) (by omega) ?_
                exact W.zret (ty := .boolean) (v := 1) hx hb hr rfl (fun t ht hW => ⟨⟨1, t_41, rfl, ⟨rfl, w_41, hR_41, hI9⟩, ⟨by rw [ht]; exact hP9, va_K.moved hW.alike hK, hD9⟩⟩, hS.F ht⟩) hS.2.2 dL_act_469
    · skip
      have c_1 : (fl_up (x1) (10 : Int32)) = 4 := c_1.trans (by decide)
      refine lv_tableIn (tgt := 470) (off := 464) hx hb dL_act_6 (by rw [c_1]; decide) (by rw [c_1]; decide) (by rw [c_1]; decide) (by decide) ?_
      refine lv_aload_n hx hb dL_act_470 rfl (lv_at hl 0 rfl) ?_
      refine lv_iconst (v := 2) hx hb dL_act_471 (by decide) ?_
      refine z_Ri (va_runV (As := [.int (2 : Int32)]) (rest := []) ⟨hx, hb, hml, hown, hts⟩ (d_X9_compass l D cA g (2 : Int32) hR) (cwV 1 hts gL_act_X9_compass rfl rfl rfl (by decide +kernel) ⟨Nat.le_of_ble_eq_true rfl, Nat.le_of_ble_eq_true rfl⟩) (zqVR (wr := []) (wc := zTr cA g t) hK hP hN (List.Perm.refl _) 0 rfl rfl) rfl rfl hl.1 rfl (lv_room (Nat.le_of_ble_eq_true rfl)) dL_act_472 ⟨Nat.le_of_ble_eq_true rfl, Nat.le_of_ble_eq_true rfl⟩) ?_
      refine lv_topi (fun v_60 ev_60 => ?_)
      rw [fk_2] at ev_60
      refine lv_istore (lv' := [(4, .int v_60), (0, .ref (g 0)), (1, .int x1), (2, .int x2), (3, .int x3)]) hx hb dL_act_475 hl (by decide) rfl (fun ls hl => ?_)
      refine lv_aload_n hx hb dL_act_477 rfl (lv_at hl 1 rfl) ?_
      refine lv_iload_n hx hb dL_act_478 rfl (lv_at hl 3 rfl) ?_
      refine lv_sipush (v := 141) hx hb dL_act_479 (by decide) ?_
      refine z_Ri (va_runS (As := [.int x2, .int (141 : Int32)]) (rest := [.ref (g 0)]) ⟨hx, hb, hml, hown, hts⟩ (c_L_up l D cA (x2) (141 : Int32)  (by decide)) (va_cwS 2 hts gL_act_L_up rfl rfl rfl (by decide +kernel) ⟨Nat.le_of_ble_eq_true rfl, Nat.le_of_ble_eq_true rfl⟩) (zqSR0 hK hN) rfl rfl hl.1 rfl (lv_room (Nat.le_of_ble_eq_true rfl)) dL_act_482 ⟨Nat.le_of_ble_eq_true rfl, Nat.le_of_ble_eq_true rfl⟩) ?_
      refine lv_bipush (v := 70) hx hb dL_act_485 (by decide) ?_
      refine lv_isub hx hb dL_act_487 ?_
      refine lv_iload_n hx hb dL_act_488 rfl (lv_at hl 4 rfl) ?_
      refine lv_sipush (v := 401) hx hb dL_act_489 (by decide) ?_
      refine z_Ri (va_runS (As := [.int x3, .int (401 : Int32)]) (rest := [.int ((fl_up (x2) (141 : Int32)) - (70 : Int32)), .ref (g 0)]) ⟨hx, hb, hml, hown, hts⟩ (c_L_up l D cA (x3) (401 : Int32)  (by decide)) (va_cwS 2 hts gL_act_L_up rfl rfl rfl (by decide +kernel) ⟨Nat.le_of_ble_eq_true rfl, Nat.le_of_ble_eq_true rfl⟩) (zqSR0 hK hN) rfl rfl hl.1 rfl (lv_room (Nat.le_of_ble_eq_true rfl)) dL_act_492 ⟨Nat.le_of_ble_eq_true rfl, Nat.le_of_ble_eq_true rfl⟩) ?_
      refine z_Hp (wr := []) (wt := fun u => zTr cA g u) (va_runV (As := [.int ((fl_up (x2) (141 : Int32)) - (70 : Int32)), .int (fl_up (x3) (401 : Int32))]) (rest := []) ⟨hx, hb, hml, hown, hts⟩ (d_X9_correct l D cA g s.heap.size ((fl_up (x2) (141 : Int32)) - (70 : Int32)) (fl_up (x3) (401 : Int32)) hR) (cwV 2 hts gL_act_X9_correct rfl rfl rfl (by decide +kernel) ⟨Nat.le_of_ble_eq_true rfl, Nat.le_of_ble_eq_true rfl⟩) (zqV (wr := []) (wc := zTr cA g t) hK hP hD hS hA hE (List.Perm.refl _) 0 rfl rfl) rfl rfl hl.1 rfl (lv_room (Nat.le_of_ble_eq_true rfl)) dL_act_495 ⟨Nat.le_of_ble_eq_true rfl, Nat.le_of_ble_eq_true rfl⟩) hP hD hS hA (List.Perm.refl _) (fun u => List.Perm.refl _) (fun r_61 t_61 H locs hp_61 hP hD hS => ?_)
      obtain ⟨er_61, hR_61⟩ := hp_61
      obtain ⟨w_61, ew_61⟩ : ∃ z : vX10, z = ((fm_correct (pmN w) w ((fl_up (x2) (141 : Int32)) - (70 : Int32)) (fl_up (x3) (401 : Int32)))).2 := ⟨_, rfl⟩
      rw [← ew_61] at hR_61
      have hP : va_P D vwCl (zTr cA g t_61) H := hP
      have hD : va_D A (zTr cA g t_61) := hD
      refine W.widen (k := 20) (n := 115) (by omega) (by omega) ?_
      obtain ⟨hr9, hw⟩ := ac_corr (up_d x2) (up_s x3) er_61 ew_61
      refine lv_istore (lv' := [(5, .int r_61), (4, .int v_60), (0, .ref (g 0)), (1, .int x1), (2, .int x2), (3, .int x3)]) hx hb dL_act_498 hl (by decide) rfl (fun ls hl => ?_)
      refine lv_aload_n hx hb dL_act_500 rfl (lv_at hl 2 rfl) ?_
      refine lv_bipush (v := 9) hx hb dL_act_501 (by decide) ?_
      refine z_Ri (va_runV (As := [.int (9 : Int32)]) (rest := []) ⟨hx, hb, hml, hown, hts⟩ (d_X9_compass l D cA g (9 : Int32) hR_61) (cwV 1 hts gL_act_X9_compass rfl rfl rfl (by decide +kernel) ⟨Nat.le_of_ble_eq_true rfl, Nat.le_of_ble_eq_true rfl⟩) (zqVR (wr := []) (wc := zTr cA g t_61) hK hP hN (List.Perm.refl _) 0 rfl rfl) rfl rfl hl.1 rfl (lv_room (Nat.le_of_ble_eq_true rfl)) dL_act_503 ⟨Nat.le_of_ble_eq_true rfl, Nat.le_of_ble_eq_true rfl⟩) ?_
      refine lv_topi (fun v_62 ev_62 => ?_)
      rw [fk_9] at ev_62
      refine lv_iload_n hx hb dL_act_506 rfl (lv_at hl 4 rfl) ?_
      refine lv_sipush (v := 141) hx hb dL_act_507 (by decide) ?_
      refine z_Ri (va_runS (As := [.int x2, .int (141 : Int32)]) (rest := [.int v_62]) ⟨hx, hb, hml, hown, hts⟩ (c_L_up l D cA (x2) (141 : Int32)  (by decide)) (va_cwS 2 hts gL_act_L_up rfl rfl rfl (by decide +kernel) ⟨Nat.le_of_ble_eq_true rfl, Nat.le_of_ble_eq_true rfl⟩) (zqSR0 hK hN) rfl rfl hl.1 rfl (lv_room (Nat.le_of_ble_eq_true rfl)) dL_act_510 ⟨Nat.le_of_ble_eq_true rfl, Nat.le_of_ble_eq_true rfl⟩) ?_
      refine lv_bipush (v := 70) hx hb dL_act_513 (by decide) ?_
      refine lv_isub hx hb dL_act_515 ?_
      refine lv_icmp_ne (tgt := 559) hx hb dL_act_516 (by decide) (fun c_63 => ?_) (fun c_63 => ?_)
      · skip
        -- bad leaf 23
        rw [ev_62] at c_63
        exact (c_63 ((by rw [hw]; rfl))).elim
      · skip
        refine lv_aload_n hx hb dL_act_519 rfl (lv_at hl 2 rfl) ?_
        refine lv_bipush (v := 18) hx hb dL_act_520 (by decide) ?_
        refine z_Ri (va_runV (As := [.int (18 : Int32)]) (rest := []) ⟨hx, hb, hml, hown, hts⟩ (d_X9_state l D cA g (18 : Int32) hR_61) (cwV 1 hts gL_act_X9_state rfl rfl rfl (by decide +kernel) ⟨Nat.le_of_ble_eq_true rfl, Nat.le_of_ble_eq_true rfl⟩) (zqVR (wr := []) (wc := zTr cA g t_61) hK hP hN (List.Perm.refl _) 0 rfl rfl) rfl rfl hl.1 rfl (lv_room (Nat.le_of_ble_eq_true rfl)) dL_act_522 ⟨Nat.le_of_ble_eq_true rfl, Nat.le_of_ble_eq_true rfl⟩) ?_
        refine lv_topi (fun v_64 ev_64 => ?_)
        rw [fs_18] at ev_64
        refine lv_iload_n hx hb dL_act_525 rfl (lv_at hl 5 rfl) ?_
        refine lv_sipush (v := 401) hx hb dL_act_526 (by decide) ?_
        refine z_Ri (va_runS (As := [.int x3, .int (401 : Int32)]) (rest := [.int v_64]) ⟨hx, hb, hml, hown, hts⟩ (c_L_up l D cA (x3) (401 : Int32)  (by decide)) (va_cwS 2 hts gL_act_L_up rfl rfl rfl (by decide +kernel) ⟨Nat.le_of_ble_eq_true rfl, Nat.le_of_ble_eq_true rfl⟩) (zqSR0 hK hN) rfl rfl hl.1 rfl (lv_room (Nat.le_of_ble_eq_true rfl)) dL_act_529 ⟨Nat.le_of_ble_eq_true rfl, Nat.le_of_ble_eq_true rfl⟩) ?_
        refine lv_icmp_ne (tgt := 559) hx hb dL_act_532 (by decide) (fun c_65 => ?_) (fun c_65 => ?_)
        · skip
          -- bad leaf 24
          rw [ev_64] at c_65
          exact (c_65 ((by rw [hw]; rfl))).elim
        · skip
          refine lv_iload hx hb dL_act_535 (lv_at hl 0 rfl) ?_
          refine lv_aload_n hx hb dL_act_537 rfl (lv_at hl 2 rfl) ?_
          refine lv_iconst (v := 2) hx hb dL_act_538 (by decide) ?_
          refine z_Ri (va_runV (As := [.int (2 : Int32)]) (rest := [.int r_61]) ⟨hx, hb, hml, hown, hts⟩ (d_X9_compass l D cA g (2 : Int32) hR_61) (cwV 1 hts gL_act_X9_compass rfl rfl rfl (by decide +kernel) ⟨Nat.le_of_ble_eq_true rfl, Nat.le_of_ble_eq_true rfl⟩) (zqVR (wr := []) (wc := zTr cA g t_61) hK hP hN (List.Perm.refl _) 0 rfl rfl) rfl rfl hl.1 rfl (lv_room (Nat.le_of_ble_eq_true rfl)) dL_act_539 ⟨Nat.le_of_ble_eq_true rfl, Nat.le_of_ble_eq_true rfl⟩) ?_
          refine lv_topi (fun v_66 ev_66 => ?_)
          rw [fk_2] at ev_66
          refine lv_iload hx hb dL_act_542 (lv_at hl 1 rfl) ?_
          have J552 : ∀ (j552_s1 : Int32) (ej552 : ((¬ (v_66 = v_60)) ∧ j552_s1 = (1 : Int32)) ∨ ((v_66 = v_60) ∧ j552_s1 = (0 : Int32))), ∀ (ls : Array Slot), lv_has ls 7 [(5, .int r_61), (4, .int v_60), (0, .ref (g 0)), (1, .int x1), (2, .int x2), (3, .int x3)] → W p l e (headSpec wsL_act ({ frames := 8, cells := 160, slots := 920, locals := 200 })).room s m (([.ref (g 0), .int x1, .int x2, .int x3] : List Value).toArray) below meth c H locs 20 115 Q (F0 m 552 ls [.int j552_s1, .int r_61]) := by
            intro j552_s1 ej552 ls hl
            rw [ev_66, ev_60] at ej552
            refine lv_icmp_ne (tgt := 559) hx hb dL_act_552 (by decide) (fun c_67 => ?_) (fun c_67 => ?_)
            · skip
              -- bad leaf 25
              exact (c_67 (ac_c5 hr9 hw ej552)).elim
            · skip
              refine lv_iconst (v := 1) hx hb dL_act_555 (by decide) ?_
              refine lv_goto (tgt := 560) hx hb dL_act_556 (by decide) ?_
              have hP9 : va_P D vwCl (zTr cA g t_61) H := hP
              have hD9 : va_D A (zTr cA g t_61) := hD
              have hI9 : IV (n + 8) w_61 := IV_le (IV_c hI (ac_i5 hw)) (by omega)
              subst hQ
              refine W.widen (k := 160) (n := 920) (by omega) (by omega) ?_
              exact W.zret (ty := .boolean) (v := 1) hx hb hr rfl (fun t ht hW => ⟨⟨1, t_61, rfl, ⟨rfl, w_61, hR_61, hI9⟩, ⟨by rw [ht]; exact hP9, va_K.moved hW.alike hK, hD9⟩⟩, hS.F ht⟩) hS.2.2 dL_act_560
          refine lv_icmp_ne (tgt := 551) hx hb dL_act_544 (by decide) (fun c_68 => ?_) (fun c_68 => ?_)
          · skip
            refine lv_iconst (v := 1) hx hb dL_act_551 (by decide) ?_
            exact J552 _ (Or.inl ⟨c_68, rfl⟩) ls (lv_sub hl [0, 1, 2, 3, 4, 5] rfl)
          · skip
            refine lv_iconst (v := 0) hx hb dL_act_547 (by decide) ?_
            refine lv_goto (tgt := 552) hx hb dL_act_548 (by decide) ?_
            exact J552 _ (Or.inr ⟨c_68, rfl⟩) ls (lv_sub hl [0, 1, 2, 3, 4, 5] rfl)
    · skip
      have c_1 : (fl_up (x1) (10 : Int32)) = 5 := c_1.trans (by decide)
      refine lv_tableIn (tgt := 561) (off := 555) hx hb dL_act_6 (by rw [c_1]; decide) (by rw [c_1]; decide) (by rw [c_1]; decide) (by decide) ?_
      refine lv_aload_n hx hb dL_act_561 rfl (lv_at hl 0 rfl) ?_
      refine lv_iload_n hx hb dL_act_562 rfl (lv_at hl 2 rfl) ?_
      refine lv_ldc hx hb hown (hts (.constant RL 64 (36000)) (List.mem_of_getElem? (i := 2) rfl)) dL_act_563 ?_
      refine z_Ri (va_runS (As := [.int x2, .int (36000 : Int32)]) (rest := [.ref (g 0)]) ⟨hx, hb, hml, hown, hts⟩ (c_L_up l D cA (x2) (36000 : Int32)  (by decide)) (va_cwS 2 hts gL_act_L_up rfl rfl rfl (by decide +kernel) ⟨Nat.le_of_ble_eq_true rfl, Nat.le_of_ble_eq_true rfl⟩) (zqSR0 hK hN) rfl rfl hl.1 rfl (lv_room (Nat.le_of_ble_eq_true rfl)) dL_act_565 ⟨Nat.le_of_ble_eq_true rfl, Nat.le_of_ble_eq_true rfl⟩) ?_
      refine z_Hp (wr := []) (wt := fun u => zTr cA g u) (va_runS (As := [.ref (g 0), .int (fl_up (x2) (36000 : Int32))]) (rest := []) ⟨hx, hb, hml, hown, hts⟩ (c_L_observes l D cA g s.heap.size (fl_up (x2) (36000 : Int32)) n hR hI (up_c x2) (by omega)) (va_cwS 2 hts gL_act_L_observes rfl rfl rfl (by decide +kernel) ⟨Nat.le_of_ble_eq_true rfl, Nat.le_of_ble_eq_true rfl⟩) (zqS (wr := []) (wc := zTr cA g t) hK hP hD hS hA hE (List.Perm.refl _)) rfl rfl hl.1 rfl (lv_room (Nat.le_of_ble_eq_true rfl)) dL_act_568 ⟨Nat.le_of_ble_eq_true rfl, Nat.le_of_ble_eq_true rfl⟩) hP hD hS hA (List.Perm.refl _) (fun u => List.Perm.refl _) (fun r_69 t_69 H locs hp_69 hP hD hS => ?_)
      obtain ⟨er_69, w_69, hR_69, hI_69⟩ := hp_69
      subst er_69
      have hP : va_P D vwCl (zTr cA g t_69) H := hP
      have hD : va_D A (zTr cA g t_69) := hD
      refine W.widen (k := 40) (n := 230) (by omega) (by omega) ?_
      have hP9 : va_P D vwCl (zTr cA g t_69) H := hP
      have hD9 : va_D A (zTr cA g t_69) := hD
      have hI9 : IV (n + 8) w_69 := IV_le hI_69 (by omega)
      subst hQ
      refine W.widen (k := 160) (n := 920) (by omega) (by omega) ?_
      exact W.zret (ty := .boolean) (v := 1) hx hb hr rfl (fun t ht hW => ⟨⟨1, t_69, rfl, ⟨rfl, w_69, hR_69, hI9⟩, ⟨by rw [ht]; exact hP9, va_K.moved hW.alike hK, hD9⟩⟩, hS.F ht⟩) hS.2.2 dL_act_571
    · skip
      have c_1 : (fl_up (x1) (10 : Int32)) = 6 := c_1.trans (by decide)
      refine lv_tableIn (tgt := 572) (off := 566) hx hb dL_act_6 (by rw [c_1]; decide) (by rw [c_1]; decide) (by rw [c_1]; decide) (by decide) ?_
      refine lv_aload_n hx hb dL_act_572 rfl (lv_at hl 0 rfl) ?_
      refine lv_bipush (v := 10) hx hb dL_act_573 (by decide) ?_
      refine z_Ri (va_runV (As := [.int (10 : Int32)]) (rest := []) ⟨hx, hb, hml, hown, hts⟩ (d_X9_compass l D cA g (10 : Int32) hR) (cwV 1 hts gL_act_X9_compass rfl rfl rfl (by decide +kernel) ⟨Nat.le_of_ble_eq_true rfl, Nat.le_of_ble_eq_true rfl⟩) (zqVR (wr := []) (wc := zTr cA g t) hK hP hN (List.Perm.refl _) 0 rfl rfl) rfl rfl hl.1 rfl (lv_room (Nat.le_of_ble_eq_true rfl)) dL_act_575 ⟨Nat.le_of_ble_eq_true rfl, Nat.le_of_ble_eq_true rfl⟩) ?_
      refine lv_topi (fun v_70 ev_70 => ?_)
      rw [fk_10] at ev_70
      refine lv_istore (lv' := [(4, .int v_70), (0, .ref (g 0)), (1, .int x1), (2, .int x2), (3, .int x3)]) hx hb dL_act_578 hl (by decide) rfl (fun ls hl => ?_)
      refine lv_iload_n hx hb dL_act_580 rfl (lv_at hl 3 rfl) ?_
      refine lv_ldc hx hb hown (hts (.constant RL 33 (40001)) (List.mem_of_getElem? (i := 3) rfl)) dL_act_581 ?_
      refine z_Ri (va_runS (As := [.int x2, .int (40001 : Int32)]) (rest := []) ⟨hx, hb, hml, hown, hts⟩ (c_L_up l D cA (x2) (40001 : Int32)  (by decide)) (va_cwS 2 hts gL_act_L_up rfl rfl rfl (by decide +kernel) ⟨Nat.le_of_ble_eq_true rfl, Nat.le_of_ble_eq_true rfl⟩) (zqSR0 hK hN) rfl rfl hl.1 rfl (lv_room (Nat.le_of_ble_eq_true rfl)) dL_act_583 ⟨Nat.le_of_ble_eq_true rfl, Nat.le_of_ble_eq_true rfl⟩) ?_
      refine lv_sipush (v := 20000) hx hb dL_act_586 (by decide) ?_
      refine lv_isub hx hb dL_act_589 ?_
      refine lv_istore (lv' := [(5, .int ((fl_up (x2) (40001 : Int32)) - (20000 : Int32))), (4, .int v_70), (0, .ref (g 0)), (1, .int x1), (2, .int x2), (3, .int x3)]) hx hb dL_act_590 hl (by decide) rfl (fun ls hl => ?_)
      refine lv_aload_n hx hb dL_act_592 rfl (lv_at hl 2 rfl) ?_
      refine lv_iconst (v := 2) hx hb dL_act_593 (by decide) ?_
      refine z_Ri (va_runV (As := [.int (2 : Int32)]) (rest := []) ⟨hx, hb, hml, hown, hts⟩ (d_X9_compass l D cA g (2 : Int32) hR) (cwV 1 hts gL_act_X9_compass rfl rfl rfl (by decide +kernel) ⟨Nat.le_of_ble_eq_true rfl, Nat.le_of_ble_eq_true rfl⟩) (zqVR (wr := []) (wc := zTr cA g t) hK hP hN (List.Perm.refl _) 0 rfl rfl) rfl rfl hl.1 rfl (lv_room (Nat.le_of_ble_eq_true rfl)) dL_act_594 ⟨Nat.le_of_ble_eq_true rfl, Nat.le_of_ble_eq_true rfl⟩) ?_
      refine lv_topi (fun v_71 ev_71 => ?_)
      rw [fk_2] at ev_71
      refine lv_istore (lv' := [(6, .int v_71), (5, .int ((fl_up (x2) (40001 : Int32)) - (20000 : Int32))), (4, .int v_70), (0, .ref (g 0)), (1, .int x1), (2, .int x2), (3, .int x3)]) hx hb dL_act_597 hl (by decide) rfl (fun ls hl => ?_)
      refine lv_aload_n hx hb dL_act_599 rfl (lv_at hl 3 rfl) ?_
      refine lv_iload hx hb dL_act_600 (lv_at hl 1 rfl) ?_
      refine z_Hp (wr := []) (wt := fun u => zTr cA g u) (va_runV (As := [.int ((fl_up (x2) (40001 : Int32)) - (20000 : Int32))]) (rest := []) ⟨hx, hb, hml, hown, hts⟩ (d_X9_guess l D cA g s.heap.size ((fl_up (x2) (40001 : Int32)) - (20000 : Int32)) hR) (cwV 1 hts gL_act_X9_guess rfl rfl rfl (by decide +kernel) ⟨Nat.le_of_ble_eq_true rfl, Nat.le_of_ble_eq_true rfl⟩) (zqV (wr := []) (wc := zTr cA g t) hK hP hD hS hA hE (List.Perm.refl _) 0 rfl rfl) rfl rfl hl.1 rfl (lv_room (Nat.le_of_ble_eq_true rfl)) dL_act_602 ⟨Nat.le_of_ble_eq_true rfl, Nat.le_of_ble_eq_true rfl⟩) hP hD hS hA (List.Perm.refl _) (fun u => List.Perm.refl _) (fun r_72 t_72 H locs hp_72 hP hD hS => ?_)
      obtain ⟨er_72, hR_72⟩ := hp_72
      obtain ⟨w_72, ew_72⟩ : ∃ z : vX10, z = ((fm_guess (pmN w) w ((fl_up (x2) (40001 : Int32)) - (20000 : Int32)))).2 := ⟨_, rfl⟩
      rw [← ew_72] at hR_72
      have hP : va_P D vwCl (zTr cA g t_72) H := hP
      have hD : va_D A (zTr cA g t_72) := hD
      refine W.widen (k := 20) (n := 115) (by omega) (by omega) ?_
      obtain ⟨hr9, hw⟩ := ac_guess (up_g x2) er_72 ew_72
      refine lv_iload hx hb dL_act_605 (lv_at hl 1 rfl) ?_
      refine lv_iload hx hb dL_act_607 (lv_at hl 0 rfl) ?_
      refine lv_isub hx hb dL_act_609 ?_
      refine z_Ri (va_runS (As := [.int (((fl_up (x2) (40001 : Int32)) - (20000 : Int32)) - v_71)]) (rest := [.int r_72]) ⟨hx, hb, hml, hown, hts⟩ (c_L_size l D cA (((fl_up (x2) (40001 : Int32)) - (20000 : Int32)) - v_71)  ) (va_cwS 1 hts gL_act_L_size rfl rfl rfl (by decide +kernel) ⟨Nat.le_of_ble_eq_true rfl, Nat.le_of_ble_eq_true rfl⟩) (zqSR0 hK hN) rfl rfl hl.1 rfl (lv_room (Nat.le_of_ble_eq_true rfl)) dL_act_610 ⟨Nat.le_of_ble_eq_true rfl, Nat.le_of_ble_eq_true rfl⟩) ?_
      refine lv_topi (fun v_73 ev_73 => ?_)
      refine lv_icmp_ne (tgt := 640) hx hb dL_act_613 (by decide) (fun c_74 => ?_) (fun c_74 => ?_)
      · skip
        -- bad leaf 26
        rw [ev_73, ev_71] at c_74
        exact (c_74 (hr9)).elim
      · skip
        refine lv_aload_n hx hb dL_act_616 rfl (lv_at hl 3 rfl) ?_
        refine lv_bipush (v := 10) hx hb dL_act_617 (by decide) ?_
        refine z_Ri (va_runV (As := [.int (10 : Int32)]) (rest := []) ⟨hx, hb, hml, hown, hts⟩ (d_X9_compass l D cA g (10 : Int32) hR_72) (cwV 1 hts gL_act_X9_compass rfl rfl rfl (by decide +kernel) ⟨Nat.le_of_ble_eq_true rfl, Nat.le_of_ble_eq_true rfl⟩) (zqVR (wr := []) (wc := zTr cA g t_72) hK hP hN (List.Perm.refl _) 0 rfl rfl) rfl rfl hl.1 rfl (lv_room (Nat.le_of_ble_eq_true rfl)) dL_act_619 ⟨Nat.le_of_ble_eq_true rfl, Nat.le_of_ble_eq_true rfl⟩) ?_
        refine lv_topi (fun v_75 ev_75 => ?_)
        rw [fk_10] at ev_75
        refine lv_iload hx hb dL_act_622 (lv_at hl 2 rfl) ?_
        refine lv_iload hx hb dL_act_624 (lv_at hl 1 rfl) ?_
        refine lv_iload hx hb dL_act_626 (lv_at hl 0 rfl) ?_
        refine lv_isub hx hb dL_act_628 ?_
        refine z_Ri (va_runS (As := [.int (((fl_up (x2) (40001 : Int32)) - (20000 : Int32)) - v_71)]) (rest := [.int v_70, .int v_75]) ⟨hx, hb, hml, hown, hts⟩ (c_L_size l D cA (((fl_up (x2) (40001 : Int32)) - (20000 : Int32)) - v_71)  ) (va_cwS 1 hts gL_act_L_size rfl rfl rfl (by decide +kernel) ⟨Nat.le_of_ble_eq_true rfl, Nat.le_of_ble_eq_true rfl⟩) (zqSR0 hK hN) rfl rfl hl.1 rfl (lv_room (Nat.le_of_ble_eq_true rfl)) dL_act_629 ⟨Nat.le_of_ble_eq_true rfl, Nat.le_of_ble_eq_true rfl⟩) ?_
        refine lv_topi (fun v_76 ev_76 => ?_)
        refine lv_iadd hx hb dL_act_632 ?_
        refine lv_icmp_ne (tgt := 640) hx hb dL_act_633 (by decide) (fun c_77 => ?_) (fun c_77 => ?_)
        · skip
          -- bad leaf 27
          rw [ev_76, ev_75, ev_71, ev_70] at c_77
          exact (c_77 ((by rw [hw]; rfl))).elim
        · skip
          refine lv_iconst (v := 1) hx hb dL_act_636 (by decide) ?_
          refine lv_goto (tgt := 641) hx hb dL_act_637 (by decide) ?_
          have hP9 : va_P D vwCl (zTr cA g t_72) H := hP
          have hD9 : va_D A (zTr cA g t_72) := hD
          have hI9 : IV (n + 8) w_72 := IV_le (IV_c hI (ac_i6 hw)) (by omega)
          subst hQ
          refine W.widen (k := 160) (n := 920) (by omega) (by omega) ?_
          exact W.zret (ty := .boolean) (v := 1) hx hb hr rfl (fun t ht hW => ⟨⟨1, t_72, rfl, ⟨rfl, w_72, hR_72, hI9⟩, ⟨by rw [ht]; exact hP9, va_K.moved hW.alike hK, hD9⟩⟩, hS.F ht⟩) hS.2.2 dL_act_641
