set_option maxHeartbeats 4000000 in
set_option maxRecDepth 100000 in
theorem c_L_comes (l : Launch) (D : va_G) (cA : Nat → ClassId) (g : Nat → Nat) (sz : Nat) {t : vTv} {w : vX10} (x1 : Int32) (n : Nat) (hR : Rel t w) (hI : IV n w) (hn : n < 80000) : Met l yL_comes wsL_comes ({ frames := 7, cells := 1600, slots := 8600, locals := 179 }) (va_Pc [.ref (g 0), .int x1] (zPre D (zty cA) (zTr cA g t) sz)) (va_Qi (fun (x : Int32) (u : vTv) => x = 1 ∧ ∃ w9, Rel u w9 ∧ IV n w9) (fun u => zPost D (zty cA) (va_A (zTr cA g t) sz) (zTr cA g u)) (va_A (zTr cA g t) sz)) 1600 8600 (va_A (zTr cA g t) sz) := by
  refine Met.ofW (cc := cL_comes) (maxL := 15) (ret := (some .boolean)) (by decide) rfl ?_
  intro p e s m args below meth c s₁ B hml hv
  obtain ⟨rfl, hsz, hP, hK, hD0, hE⟩ := hv
  have hx := B.exec
  have hb := B.bytes
  have hr := B.returns
  have hts := atoms_spec (ws := wsL_comes) B.pre
  have hown : s.vm.findClass RL = some m.cls := findClass_of_methodNamed B.named
  subst hsz
  have hD := hD0.self (sz := s.heap.size)
  generalize hAe : va_A (zTr cA g t) s.heap.size = A at hD hE ⊢
  have hA : ∀ q : Nat, s.heap.size ≤ q → A q := fun q h => by rw [← hAe]; exact Or.inr h
  have hS : va_S A s.heap s.heap [] := va_S.rf
  have hN : zN s := hE.1
  have hP : va_P D vwCl (zTr cA g t) s.heap := hP
  have hD : va_D A (zTr cA g t) := hD
  have hl := lv_entry ([.ref (g 0), .int x1]) (n := 15) (Nat.le_of_ble_eq_true rfl)
  rw [lg_entry_eq]
  generalize (lg_sl ([.ref (g 0), .int x1]) ++ List.replicate (15 - (lg_sl ([.ref (g 0), .int x1])).length) Slot.unset).toArray = ls at hl ⊢
  have hl : lv_has ls 15 [(0, .ref (g 0)), (1, .int x1)] := hl
  refine z_genQ (fun Q hQ => ?_)
  refine lv_iload_n hx hb dL_comes_0 rfl (lv_at hl 1 rfl) ?_
  refine lv_sipush (v := 8000) hx hb dL_comes_1 (by decide) ?_
  refine z_Ri (va_runS (As := [.int x1, .int (8000 : Int32)]) (rest := []) ⟨hx, hb, hml, hown, hts⟩ (c_L_up l D cA (x1) (8000 : Int32)  (by decide)) (va_cwS 2 hts gL_comes_L_up rfl rfl rfl (by decide +kernel) ⟨Nat.le_of_ble_eq_true rfl, Nat.le_of_ble_eq_true rfl⟩) (zqSR0 hK hN) rfl rfl hl.1 rfl (lv_room (Nat.le_of_ble_eq_true rfl)) dL_comes_4 ⟨Nat.le_of_ble_eq_true rfl, Nat.le_of_ble_eq_true rfl⟩) ?_
  refine lv_topi (fun y_1 ey_1 => ?_)
  refine lv_istore_n (lv' := [(2, .int y_1), (0, .ref (g 0)), (1, .int x1)]) hx hb dL_comes_7 rfl hl (by decide) rfl (fun ls hl => ?_)
  refine lv_iconst (v := 1) hx hb dL_comes_8 (by decide) ?_
  refine lv_iload_n hx hb dL_comes_9 rfl (lv_at hl 2 rfl) ?_
  refine lv_iconst (v := 5) hx hb dL_comes_10 (by decide) ?_
  refine lv_ishr hx hb dL_comes_11 ?_
  refine lv_bipush (v := 60) hx hb dL_comes_12 (by decide) ?_
  refine z_Ri (va_runS (As := [.int (x1 >>> ((5 : Int32) &&& 31)), .int (60 : Int32)]) (rest := [.int (1 : Int32)]) ⟨hx, hb, hml, hown, hts⟩ (c_L_up l D cA (x1 >>> ((5 : Int32) &&& 31)) (60 : Int32)  (by decide)) (va_cwS 2 hts gL_comes_L_up rfl rfl rfl (by decide +kernel) ⟨Nat.le_of_ble_eq_true rfl, Nat.le_of_ble_eq_true rfl⟩) (zqSR0 hK hN) rfl rfl hl.1 rfl (lv_room (Nat.le_of_ble_eq_true rfl)) dL_comes_14 ⟨Nat.le_of_ble_eq_true rfl, Nat.le_of_ble_eq_true rfl⟩) ?_
  refine lv_iadd hx hb dL_comes_17 ?_
  refine lv_topi (fun y_2 ey_2 => ?_)
  refine lv_istore_n (lv' := [(3, .int y_2), (2, .int y_1), (0, .ref (g 0)), (1, .int x1)]) hx hb dL_comes_18 rfl hl (by decide) rfl (fun ls hl => ?_)
  obtain ⟨M, hM1, hM2, eM⟩ := cm_m (x1 >>> ((5 : Int32) &&& 31))
  have ey_2 : y_2 = nI M := ey_2.trans eM
  clear eM
  subst ey_2
  have hb9 : ¬ fm_in y_1 0 100000 = 0 := by rw [ey_1]; exact cm_b x1
  refine lv_aload_n hx hb dL_comes_19 rfl (lv_at hl 2 rfl) ?_
  refine lv_iload_n hx hb dL_comes_20 rfl (lv_at hl 1 rfl) ?_
  refine lv_iload_n hx hb dL_comes_21 rfl (lv_at hl 0 rfl) ?_
  refine z_Hp (wr := []) (wt := fun u => zTr cA g u) (va_runV (As := [.int y_1, .int (nI M)]) (rest := []) ⟨hx, hb, hml, hown, hts⟩ (d_X9_calmIn l D cA g s.heap.size (y_1) (nI M) hR) (cwV 2 hts gL_comes_X9_calmIn rfl rfl rfl (by decide +kernel) ⟨Nat.le_of_ble_eq_true rfl, Nat.le_of_ble_eq_true rfl⟩) (zqV (wr := []) (wc := zTr cA g t) hK hP hD hS hA hE (List.Perm.refl _) 0 rfl rfl) rfl rfl hl.1 rfl (lv_room (Nat.le_of_ble_eq_true rfl)) dL_comes_22 ⟨Nat.le_of_ble_eq_true rfl, Nat.le_of_ble_eq_true rfl⟩) hP hD hS hA (List.Perm.refl _) (fun u => List.Perm.refl _) (fun r_3 t_3 H locs hp_3 hP hD hS => ?_)
  obtain ⟨er_3, hR_3⟩ := hp_3
  obtain ⟨w_3, ew_3⟩ : ∃ z : vX10, z = ((fm_calmIn w (y_1) (nI M))).2 := ⟨_, rfl⟩
  rw [← ew_3] at hR_3
  have hP : va_P D vwCl (zTr cA g t_3) H := hP
  have hD : va_D A (zTr cA g t_3) := hD
  refine W.widen (k := 0) (n := 0) (by omega) (by omega) ?_
  obtain ⟨cr1, cs1, ct1⟩ := cm_calm hb9 ⟨hM1, hM2⟩ er_3 ew_3
  rw [cm_c0] at cr1
  refine lv_istore (lv' := [(4, .int r_3), (3, .int (nI M)), (2, .int y_1), (0, .ref (g 0)), (1, .int x1)]) hx hb dL_comes_25 hl (by decide) rfl (fun ls hl => ?_)
  refine lv_aload_n hx hb dL_comes_27 rfl (lv_at hl 3 rfl) ?_
  refine lv_iload_n hx hb dL_comes_28 rfl (lv_at hl 2 rfl) ?_
  refine lv_iload_n hx hb dL_comes_29 rfl (lv_at hl 1 rfl) ?_
  refine z_Hp (wr := []) (wt := fun u => zTr cA g u) (va_runV (As := [.int y_1, .int (nI M)]) (rest := []) ⟨hx, hb, hml, hown, hts⟩ (d_X9_bestLevel l D cA g H.size (y_1) (nI M) hR_3) (cwV 2 hts gL_comes_X9_bestLevel rfl rfl rfl (by decide +kernel) ⟨Nat.le_of_ble_eq_true rfl, Nat.le_of_ble_eq_true rfl⟩) (zqV (wr := []) (wc := zTr cA g t_3) hK hP hD hS hA hE (List.Perm.refl _) 0 rfl rfl) rfl rfl hl.1 rfl (lv_room (Nat.le_of_ble_eq_true rfl)) dL_comes_30 ⟨Nat.le_of_ble_eq_true rfl, Nat.le_of_ble_eq_true rfl⟩) hP hD hS hA (List.Perm.refl _) (fun u => List.Perm.refl _) (fun r_4 t_4 H locs hp_4 hP hD hS => ?_)
  obtain ⟨er_4, hR_4⟩ := hp_4
  obtain ⟨w_4, ew_4⟩ : ∃ z : vX10, z = ((fm_best w_3 (y_1) (nI M))).2 := ⟨_, rfl⟩
  rw [← ew_4] at hR_4
  have hP : va_P D vwCl (zTr cA g t_4) H := hP
  have hD : va_D A (zTr cA g t_4) := hD
  refine W.widen (k := 0) (n := 0) (by omega) (by omega) ?_
  obtain ⟨cr2, cs2, ct2⟩ := cm_best hb9 ⟨hM1, hM2⟩ cs1 er_4 ew_4
  refine lv_istore (lv' := [(5, .int r_4), (4, .int r_3), (3, .int (nI M)), (2, .int y_1), (0, .ref (g 0)), (1, .int x1)]) hx hb dL_comes_33 hl (by decide) rfl (fun ls hl => ?_)
  refine lv_aload_n hx hb dL_comes_35 rfl (lv_at hl 4 rfl) ?_
  refine lv_iconst (v := 0) hx hb dL_comes_36 (by decide) ?_
  refine z_Hp (wr := []) (wt := fun u => zTr cA g u) (va_runV (As := [.int (0 : Int32)]) (rest := []) ⟨hx, hb, hml, hown, hts⟩ (d_X9_save l D cA g H.size (0 : Int32) hR_4) (cwV 1 hts gL_comes_X9_save rfl rfl rfl (by decide +kernel) ⟨Nat.le_of_ble_eq_true rfl, Nat.le_of_ble_eq_true rfl⟩) (zqV (wr := []) (wc := zTr cA g t_4) hK hP hD hS hA hE (List.Perm.refl _) 0 rfl rfl) rfl rfl hl.1 rfl (lv_room (Nat.le_of_ble_eq_true rfl)) dL_comes_37 ⟨Nat.le_of_ble_eq_true rfl, Nat.le_of_ble_eq_true rfl⟩) hP hD hS hA (List.Perm.refl _) (fun u => List.Perm.refl _) (fun r_5 t_5 H locs hp_5 hP hD hS => ?_)
  obtain ⟨er_5, hR_5⟩ := hp_5
  obtain ⟨w_5, ew_5⟩ : ∃ z : vX10, z = ((fm_saveX w_4 (0 : Int32))).2 := ⟨_, rfl⟩
  rw [← ew_5] at hR_5
  have hP : va_P D vwCl (zTr cA g t_5) H := hP
  have hD : va_D A (zTr cA g t_5) := hD
  refine W.widen (k := 20) (n := 115) (by omega) (by omega) ?_
  obtain ⟨cr3, cs3, cv3⟩ := cm_save cs2 er_5 ew_5
  refine lv_istore (lv' := [(6, .int r_5), (5, .int r_4), (4, .int r_3), (3, .int (nI M)), (2, .int y_1), (0, .ref (g 0)), (1, .int x1)]) hx hb dL_comes_40 hl (by decide) rfl (fun ls hl => ?_)
  refine lv_bipush (v := -6) hx hb dL_comes_42 (by decide) ?_
  refine lv_istore (lv' := [(7, .int (-6 : Int32)), (6, .int r_5), (5, .int r_4), (4, .int r_3), (3, .int (nI M)), (2, .int y_1), (0, .ref (g 0)), (1, .int x1)]) hx hb dL_comes_44 hl (by decide) rfl (fun ls hl => ?_)
  refine lv_aload_n hx hb dL_comes_46 rfl (lv_at hl 6 rfl) ?_
  refine z_Hp (wr := []) (wt := fun u => zTr cA g u) (va_runV (As := []) (rest := []) ⟨hx, hb, hml, hown, hts⟩ (d_X9_forgetSwings l D cA g H.size  hR_5) (cwV 0 hts gL_comes_X9_forgetSwings rfl rfl rfl (by decide +kernel) ⟨Nat.le_of_ble_eq_true rfl, Nat.le_of_ble_eq_true rfl⟩) (zqV (wr := []) (wc := zTr cA g t_5) hK hP hD hS hA hE (List.Perm.refl _) 0 rfl rfl) rfl rfl hl.1 rfl (lv_room (Nat.le_of_ble_eq_true rfl)) dL_comes_47 ⟨Nat.le_of_ble_eq_true rfl, Nat.le_of_ble_eq_true rfl⟩) hP hD hS hA (List.Perm.refl _) (fun u => List.Perm.refl _) (fun r_6 t_6 H locs hp_6 hP hD hS => ?_)
  obtain ⟨er_6, hR_6⟩ := hp_6
  obtain ⟨w_6, ew_6⟩ : ∃ z : vX10, z = ((fm_forget (pmN w_5) w_5)).2 := ⟨_, rfl⟩
  rw [← ew_6] at hR_6
  have hP : va_P D vwCl (zTr cA g t_6) H := hP
  have hD : va_D A (zTr cA g t_6) := hD
  refine W.widen (k := 40) (n := 230) (by omega) (by omega) ?_
  obtain ⟨cf1, cf2, cv4⟩ := cm_forget cs3 cv3 ew_6
  refine lv_pop hx hb dL_comes_50 rfl ?_
  refine lv_lconst (v := 0) hx hb dL_comes_51 (by decide) ?_
  refine lv_lstore (lv' := [(8, .long (0 : Int64)), (7, .int (-6 : Int32)), (6, .int r_5), (5, .int r_4), (4, .int r_3), (3, .int (nI M)), (2, .int y_1), (0, .ref (g 0)), (1, .int x1)]) hx hb dL_comes_52 hl (by decide) rfl (fun ls hl => ?_)
  refine lv_iconst (v := 3) hx hb dL_comes_54 (by decide) ?_
  refine z_newa (atype := .long) (N' := 3) (a0 := (3, .inr (.inl (fun _ => 0)))) hx hb (hts (.arrayClass .long) (List.mem_of_getElem? (i := 1) rfl)) rfl hK hP hD hS hA 0 rfl (fun _ h => h) (fun _ => rfl) (by decide) (by decide) (by decide) (Nat.le_of_ble_eq_true rfl) (Nat.le_of_ble_eq_true rfl) dL_comes_55 (fun q_7 H hP hD hS => ?_)
  have hP := zP_perm hP List.perm_append_comm
  have hD := zD_perm hD List.perm_append_comm
  have hP : va_P D vwCl ([(q_7, .inl ((cA 0), 3, .inr (.inl (fun _ => 0))))] ++ (zTr cA g t_6)) H := hP
  have hD : va_D A ([(q_7, .inl ((cA 0), 3, .inr (.inl (fun _ => 0))))] ++ (zTr cA g t_6)) := hD
  refine W.widen (k := 41) (n := 233) (by omega) (by omega) ?_
  refine lv_astore (lv' := [(10, .ref q_7), (8, .long (0 : Int64)), (7, .int (-6 : Int32)), (6, .int r_5), (5, .int r_4), (4, .int r_3), (3, .int (nI M)), (2, .int y_1), (0, .ref (g 0)), (1, .int x1)]) hx hb dL_comes_57 hl (by decide) rfl (fun ls hl => ?_)
  refine lv_iconst (v := 0) hx hb dL_comes_59 (by decide) ?_
  refine lv_istore (lv' := [(11, .int (0 : Int32)), (10, .ref q_7), (8, .long (0 : Int64)), (7, .int (-6 : Int32)), (6, .int r_5), (5, .int r_4), (4, .int r_3), (3, .int (nI M)), (2, .int y_1), (0, .ref (g 0)), (1, .int x1)]) hx hb dL_comes_60 hl (by decide) rfl (fun ls hl => ?_)
  have L62 : ∀ (zn : Nat) (k : Nat) (F : Int32) (zs : Int64) (fa : Nat → Int64) (t1 : vTv) (w1 : vX10), M + 1 - k < zn → (k ≤ M + 1) → (Rel t1 w1) → (IV (n + k) w1) → (sameC (fm_it k (w.1, w.2.1)).1 w1.1) → (FI y_1 M k w F) → (SI w w1 zs fa) → (SV w w1) → ∀ (H : Heap) (locs : List Loc), va_P D vwCl ([(q_7, .inl ((cA 0), 3, .inr (.inl fa)))] ++ (zTr cA g t1)) H → va_D A ([(q_7, .inl ((cA 0), 3, .inr (.inl fa)))] ++ (zTr cA g t1)) → va_S A s.heap H locs → ∀ (ls : Array Slot), lv_has ls 15 [(11, .int (nI k)), (10, .ref q_7), (8, .long zs), (7, .int F), (6, .int r_5), (5, .int r_4), (4, .int r_3), (3, .int (nI M)), (2, .int y_1), (0, .ref (g 0)), (1, .int x1)] → W p l e (headSpec wsL_comes ({ frames := 7, cells := 1600, slots := 8600, locals := 179 })).room s m (([.ref (g 0), .int x1] : List Value).toArray) below meth c H locs (41 + 20 * k) (233 + 115 * k) Q (F0 m 62 ls []) := by
    intro zn
    induction zn with
    | zero =>
      intro k F zs fa t1 w1 hm
      exact absurd hm (Nat.not_lt_zero _)
    | succ zn ih =>
      intro k F zs fa t1 w1 hm hk hR1 hI1 hs1 hF hS1 hV H locs hP hD hS ls hl
      refine lv_iload hx hb dL_comes_62 (lv_at hl 0 rfl) ?_
      refine lv_iload_n hx hb dL_comes_64 rfl (lv_at hl 7 rfl) ?_
      refine lv_icmp_gt (tgt := 210) hx hb dL_comes_65 (by decide) (fun c_8 => ?_) (fun c_8 => ?_)
      · skip
        have hMk : M < k := (nI_ltI (by omega) (by omega)).mp c_8
        refine lv_iload hx hb dL_comes_210 (lv_at hl 3 rfl) ?_
        refine lv_iload hx hb dL_comes_212 (lv_at hl 6 rfl) ?_
        refine lv_icmp_ne (tgt := 237) hx hb dL_comes_214 (by decide) (fun c_9 => ?_) (fun c_9 => ?_)
        · skip
          -- bad leaf 0
          exact (c_9 ((FI_e hF hMk).trans cr1.symm)).elim
        · skip
          refine lv_aload_n hx hb dL_comes_217 rfl (lv_at hl 9 rfl) ?_
          refine lv_iconst (v := 0) hx hb dL_comes_218 (by decide) ?_
          refine z_Hp (wr := [(q_7, .inl ((cA 0), 3, .inr (.inl fa)))]) (wt := fun u => [(q_7, .inl ((cA 0), 3, .inr (.inl fa)))] ++ zTr cA g u) (va_runV (As := [.int (0 : Int32)]) (rest := []) ⟨hx, hb, hml, hown, hts⟩ (d_X9_restore l D cA g H.size (0 : Int32) hR1) (cwV 1 hts gL_comes_X9_restore rfl rfl rfl (by decide +kernel) ⟨Nat.le_of_ble_eq_true rfl, Nat.le_of_ble_eq_true rfl⟩) (zqV (wr := [(q_7, .inl ((cA 0), 3, .inr (.inl fa)))]) (wc := zTr cA g t1) hK hP hD hS hA hE (List.Perm.refl _) 0 rfl rfl) rfl rfl hl.1 rfl (lv_room (Nat.le_of_ble_eq_true rfl)) dL_comes_219 ⟨show (41 + 20 * k) + 20 ≤ 1600 from by omega, show (233 + 115 * k) + 115 ≤ 8600 from by omega⟩) hP hD hS hA (List.Perm.refl _) (fun u => List.Perm.refl _) (fun r_10 t_10 H locs hp_10 hP hD hS => ?_)
          obtain ⟨er_10, hR_10⟩ := hp_10
          obtain ⟨w_10, ew_10⟩ : ∃ z : vX10, z = ((fm_restX (pmN w1) w1 (0 : Int32))).2 := ⟨_, rfl⟩
          rw [← ew_10] at hR_10
          have hP : va_P D vwCl ([(q_7, .inl ((cA 0), 3, .inr (.inl fa)))] ++ (zTr cA g t_10)) H := hP
          have hD : va_D A ([(q_7, .inl ((cA 0), 3, .inr (.inl fa)))] ++ (zTr cA g t_10)) := hD
          refine W.widen (k := ((41 + 20 * k) + 20)) (n := ((233 + 115 * k) + 115)) (by omega) (by omega) ?_
          obtain ⟨cr6, ca6, cb6, cv6⟩ := cm_rest hV er_10 ew_10
          refine lv_iload hx hb dL_comes_222 (lv_at hl 4 rfl) ?_
          refine lv_icmp_ne (tgt := 237) hx hb dL_comes_224 (by decide) (fun c_11 => ?_) (fun c_11 => ?_)
          · skip
            -- bad leaf 1
            exact (c_11 (cr6.trans cr3.symm)).elim
          · skip
            refine lv_aload_n hx hb dL_comes_227 rfl (lv_at hl 9 rfl) ?_
            refine lv_iconst (v := 0) hx hb dL_comes_228 (by decide) ?_
            refine z_Ri (va_runV (As := [.int (0 : Int32)]) (rest := []) ⟨hx, hb, hml, hown, hts⟩ (d_X9_state l D cA g (0 : Int32) hR_10) (cwV 1 hts gL_comes_X9_state rfl rfl rfl (by decide +kernel) ⟨Nat.le_of_ble_eq_true rfl, Nat.le_of_ble_eq_true rfl⟩) (zqVR (wr := [(q_7, .inl ((cA 0), 3, .inr (.inl fa)))]) (wc := zTr cA g t_10) hK hP hN (List.Perm.refl _) 0 rfl rfl) rfl rfl hl.1 rfl (lv_room (Nat.le_of_ble_eq_true rfl)) dL_comes_229 ⟨show ((41 + 20 * k) + 20) + 0 ≤ 1600 from by omega, show ((233 + 115 * k) + 115) + 0 ≤ 8600 from by omega⟩) ?_
            refine lv_topi (fun v_12 ev_12 => ?_)
            rw [fs_0] at ev_12
            refine lv_iload hx hb dL_comes_232 (lv_at hl 4 rfl) ?_
            refine lv_icmp_eq (tgt := 239) hx hb dL_comes_234 (by decide) (fun c_13 => ?_) (fun c_13 => ?_)
            · skip
              refine lv_iload_n hx hb dL_comes_239 rfl (lv_at hl 7 rfl) ?_
              refine lv_iconst (v := 1) hx hb dL_comes_240 (by decide) ?_
              refine lv_iadd hx hb dL_comes_241 ?_
              refine lv_topi (fun y_14 ey_14 => ?_)
              refine lv_istore (lv' := [(11, .int y_14), (10, .ref q_7), (8, .long zs), (7, .int F), (6, .int r_5), (5, .int r_4), (4, .int r_3), (3, .int (nI M)), (2, .int y_1), (0, .ref (g 0)), (1, .int x1)]) hx hb dL_comes_242 hl (by decide) rfl (fun ls hl => ?_)
              refine lv_bipush (v := -6) hx hb dL_comes_244 (by decide) ?_
              refine lv_istore (lv' := [(12, .int (-6 : Int32)), (11, .int y_14), (10, .ref q_7), (8, .long zs), (7, .int F), (6, .int r_5), (5, .int r_4), (4, .int r_3), (3, .int (nI M)), (2, .int y_1), (0, .ref (g 0)), (1, .int x1)]) hx hb dL_comes_246 hl (by decide) rfl (fun ls hl => ?_)
              refine lv_aload_n hx hb dL_comes_248 rfl (lv_at hl 10 rfl) ?_
              refine lv_bipush (v := 8) hx hb dL_comes_249 (by decide) ?_
              refine lv_iconst (v := 0) hx hb dL_comes_251 (by decide) ?_
              refine z_Hp (wr := [(q_7, .inl ((cA 0), 3, .inr (.inl fa)))]) (wt := fun u => [(q_7, .inl ((cA 0), 3, .inr (.inl fa)))] ++ zTr cA g u) (va_runV (As := [.int (8 : Int32), .int (0 : Int32)]) (rest := []) ⟨hx, hb, hml, hown, hts⟩ (d_X9_set l D cA g H.size (8 : Int32) (0 : Int32) hR_10) (cwV 2 hts gL_comes_X9_set rfl rfl rfl (by decide +kernel) ⟨Nat.le_of_ble_eq_true rfl, Nat.le_of_ble_eq_true rfl⟩) (zqV (wr := [(q_7, .inl ((cA 0), 3, .inr (.inl fa)))]) (wc := zTr cA g t_10) hK hP hD hS hA hE (List.Perm.refl _) 0 rfl rfl) rfl rfl hl.1 rfl (lv_room (Nat.le_of_ble_eq_true rfl)) dL_comes_252 ⟨show ((41 + 20 * k) + 20) + 20 ≤ 1600 from by omega, show ((233 + 115 * k) + 115) + 115 ≤ 8600 from by omega⟩) hP hD hS hA (List.Perm.refl _) (fun u => List.Perm.refl _) (fun r_15 t_15 H locs hp_15 hP hD hS => ?_)
              obtain ⟨er_15, hR_15⟩ := hp_15
              obtain ⟨w_15, ew_15⟩ : ∃ z : vX10, z = ((fm_set (pmN w_10) w_10 (8 : Int32) (0 : Int32))).2 := ⟨_, rfl⟩
              rw [← ew_15] at hR_15
              have hP : va_P D vwCl ([(q_7, .inl ((cA 0), 3, .inr (.inl fa)))] ++ (zTr cA g t_15)) H := hP
              have hD : va_D A ([(q_7, .inl ((cA 0), 3, .inr (.inl fa)))] ++ (zTr cA g t_15)) := hD
              refine W.widen (k := ((41 + 20 * k) + 40)) (n := ((233 + 115 * k) + 230)) (by omega) (by omega) ?_
              have hQ7 := cm_set ca6 cb6 cv6 ew_15
              refine lv_pop hx hb dL_comes_255 rfl ?_
              refine lv_iconst (v := 0) hx hb dL_comes_256 (by decide) ?_
              refine lv_istore (lv' := [(13, .int (0 : Int32)), (12, .int (-6 : Int32)), (11, .int y_14), (10, .ref q_7), (8, .long zs), (7, .int F), (6, .int r_5), (5, .int r_4), (4, .int r_3), (3, .int (nI M)), (2, .int y_1), (0, .ref (g 0)), (1, .int x1)]) hx hb dL_comes_257 hl (by decide) rfl (fun ls hl => ?_)
              have L259 : ∀ (zn : Nat) (k2 : Nat) (s2 : Int32) (l2 : Int32) (t2 : vTv) (w2 : vX10), 5 - k2 < zn → (k2 ≤ 5) → (Rel t2 w2) → (PI w w2) → ((l2, s2) = fm_bl M w y_1 k2) → ∀ (H : Heap) (locs : List Loc), va_P D vwCl ([(q_7, .inl ((cA 0), 3, .inr (.inl fa)))] ++ (zTr cA g t2)) H → va_D A ([(q_7, .inl ((cA 0), 3, .inr (.inl fa)))] ++ (zTr cA g t2)) → va_S A s.heap H locs → ∀ (ls : Array Slot), lv_has ls 15 [(13, .int (nI k2)), (12, .int l2), (11, .int s2), (10, .ref q_7), (8, .long zs), (7, .int F), (6, .int r_5), (5, .int r_4), (4, .int r_3), (3, .int (nI M)), (2, .int y_1), (0, .ref (g 0)), (1, .int x1)] → W p l e (headSpec wsL_comes ({ frames := 7, cells := 1600, slots := 8600, locals := 179 })).room s m (([.ref (g 0), .int x1] : List Value).toArray) below meth c H locs (1400 + 20 * k2) (7600 + 115 * k2) Q (F0 m 259 ls []) := by
                intro zn
                induction zn with
                | zero =>
                  intro k2 s2 l2 t2 w2 hm
                  exact absurd hm (Nat.not_lt_zero _)
                | succ zn ih =>
                  intro k2 s2 l2 t2 w2 hm hk2 hR2 hQ2 hL2 H locs hP hD hS ls hl
                  refine lv_iload hx hb dL_comes_259 (lv_at hl 0 rfl) ?_
                  refine lv_iconst (v := 5) hx hb dL_comes_261 (by decide) ?_
                  refine lv_icmp_ge (tgt := 306) hx hb dL_comes_262 (by decide) (fun c_16 => ?_) (fun c_16 => ?_)
                  · skip
                    obtain rfl : k2 = 5 := Nat.le_antisymm hk2 ((nI_leI (a := 5) (by decide) (by omega)).mp c_16)
                    refine lv_iload hx hb dL_comes_306 (lv_at hl 7 rfl) ?_
                    refine lv_iload hx hb dL_comes_308 (lv_at hl 1 rfl) ?_
                    refine lv_icmp_ne (tgt := 327) hx hb dL_comes_310 (by decide) (fun c_17 => ?_) (fun c_17 => ?_)
                    · skip
                      -- bad leaf 2
                      exact (c_17 (cr2.trans (congrArg Prod.fst hL2).symm)).elim
                    · skip
                      refine lv_aload_n hx hb dL_comes_313 rfl (lv_at hl 11 rfl) ?_
                      refine lv_iconst (v := 0) hx hb dL_comes_314 (by decide) ?_
                      refine z_Hp (wr := [(q_7, .inl ((cA 0), 3, .inr (.inl fa)))]) (wt := fun u => [(q_7, .inl ((cA 0), 3, .inr (.inl fa)))] ++ zTr cA g u) (va_runV (As := [.int (0 : Int32)]) (rest := []) ⟨hx, hb, hml, hown, hts⟩ (d_X9_restore l D cA g H.size (0 : Int32) hR2) (cwV 1 hts gL_comes_X9_restore rfl rfl rfl (by decide +kernel) ⟨Nat.le_of_ble_eq_true rfl, Nat.le_of_ble_eq_true rfl⟩) (zqV (wr := [(q_7, .inl ((cA 0), 3, .inr (.inl fa)))]) (wc := zTr cA g t2) hK hP hD hS hA hE (List.Perm.refl _) 0 rfl rfl) rfl rfl hl.1 rfl (lv_room (Nat.le_of_ble_eq_true rfl)) dL_comes_315 ⟨show (1400 + 20 * 5) + 20 ≤ 1600 from by omega, show (7600 + 115 * 5) + 115 ≤ 8600 from by omega⟩) hP hD hS hA (List.Perm.refl _) (fun u => List.Perm.refl _) (fun r_18 t_18 H locs hp_18 hP hD hS => ?_)
                      obtain ⟨er_18, hR_18⟩ := hp_18
                      obtain ⟨w_18, ew_18⟩ : ∃ z : vX10, z = ((fm_restX (pmN w2) w2 (0 : Int32))).2 := ⟨_, rfl⟩
                      rw [← ew_18] at hR_18
                      have hP : va_P D vwCl ([(q_7, .inl ((cA 0), 3, .inr (.inl fa)))] ++ (zTr cA g t_18)) H := hP
                      have hD : va_D A ([(q_7, .inl ((cA 0), 3, .inr (.inl fa)))] ++ (zTr cA g t_18)) := hD
                      refine W.widen (k := ((1400 + 20 * 5) + 20)) (n := ((7600 + 115 * 5) + 115)) (by omega) (by omega) ?_
                      obtain ⟨cr10, ca10, cb10, cv10⟩ := cm_rest hQ2.2.2.2 er_18 ew_18
                      refine lv_iload hx hb dL_comes_318 (lv_at hl 6 rfl) ?_
                      refine lv_icmp_ne (tgt := 327) hx hb dL_comes_320 (by decide) (fun c_19 => ?_) (fun c_19 => ?_)
                      · skip
                        -- bad leaf 3
                        exact (c_19 (cr10.trans cr3.symm)).elim
                      · skip
                        refine lv_iconst (v := 1) hx hb dL_comes_323 (by decide) ?_
                        refine lv_goto (tgt := 328) hx hb dL_comes_324 (by decide) ?_
                        have hP := zP_right hP
                        have hD := zD_right hD
                        have hP9 : va_P D vwCl (zTr cA g t_18) H := hP
                        have hD9 : va_D A (zTr cA g t_18) := hD
                        have hI9 : IV n w_18 := IV_c hI (fun i hi => ca10 i (by omega))
                        subst hQ
                        refine W.widen (k := 1600) (n := 8600) (by omega) (by omega) ?_
                        exact W.zret (ty := .boolean) (v := 1) hx hb hr rfl (fun t ht hW => ⟨⟨1, t_18, rfl, ⟨rfl, w_18, hR_18, hI9⟩, ⟨by rw [ht]; exact hP9, va_K.moved hW.alike hK, hD9⟩⟩, hS.F ht⟩) hS.2.2 dL_comes_328
                  · skip
                    have hk5 : k2 < 5 := Nat.lt_of_not_le (fun q => c_16 (nI_le q (by omega)))
                    refine lv_aload_n hx hb dL_comes_265 rfl (lv_at hl 11 rfl) ?_
                    refine lv_iload hx hb dL_comes_266 (lv_at hl 0 rfl) ?_
                    refine z_Hp (wr := [(q_7, .inl ((cA 0), 3, .inr (.inl fa)))]) (wt := fun u => [(q_7, .inl ((cA 0), 3, .inr (.inl fa)))] ++ zTr cA g u) (va_runV (As := [.int (nI k2)]) (rest := []) ⟨hx, hb, hml, hown, hts⟩ (d_X9_damp l D cA g H.size (nI k2) hR2) (cwV 1 hts gL_comes_X9_damp rfl rfl rfl (by decide +kernel) ⟨Nat.le_of_ble_eq_true rfl, Nat.le_of_ble_eq_true rfl⟩) (zqV (wr := [(q_7, .inl ((cA 0), 3, .inr (.inl fa)))]) (wc := zTr cA g t2) hK hP hD hS hA hE (List.Perm.refl _) 0 rfl rfl) rfl rfl hl.1 rfl (lv_room (Nat.le_of_ble_eq_true rfl)) dL_comes_268 ⟨show (1400 + 20 * k2) + 20 ≤ 1600 from by omega, show (7600 + 115 * k2) + 115 ≤ 8600 from by omega⟩) hP hD hS hA (List.Perm.refl _) (fun u => List.Perm.refl _) (fun r_20 t_20 H locs hp_20 hP hD hS => ?_)
                    obtain ⟨er_20, hR_20⟩ := hp_20
                    obtain ⟨w_20, ew_20⟩ : ∃ z : vX10, z = ((fm_damp (pmN w2) w2 (nI k2))).2 := ⟨_, rfl⟩
                    rw [← ew_20] at hR_20
                    have hP : va_P D vwCl ([(q_7, .inl ((cA 0), 3, .inr (.inl fa)))] ++ (zTr cA g t_20)) H := hP
                    have hD : va_D A ([(q_7, .inl ((cA 0), 3, .inr (.inl fa)))] ++ (zTr cA g t_20)) := hD
                    refine W.widen (k := ((1400 + 20 * k2) + 20)) (n := ((7600 + 115 * k2) + 115)) (by omega) (by omega) ?_
                    obtain ⟨hQ8, h88⟩ := cm_damp hR2 hQ2 hk5 ew_20
                    refine lv_pop hx hb dL_comes_271 rfl ?_
                    refine lv_aload_n hx hb dL_comes_272 rfl (lv_at hl 11 rfl) ?_
                    refine lv_iload_n hx hb dL_comes_273 rfl (lv_at hl 10 rfl) ?_
                    refine lv_iload_n hx hb dL_comes_274 rfl (lv_at hl 9 rfl) ?_
                    refine z_Hp (wr := [(q_7, .inl ((cA 0), 3, .inr (.inl fa)))]) (wt := fun u => [(q_7, .inl ((cA 0), 3, .inr (.inl fa)))] ++ zTr cA g u) (va_runV (As := [.int y_1, .int (nI M)]) (rest := []) ⟨hx, hb, hml, hown, hts⟩ (d_X9_calmIn l D cA g H.size (y_1) (nI M) hR_20) (cwV 2 hts gL_comes_X9_calmIn rfl rfl rfl (by decide +kernel) ⟨Nat.le_of_ble_eq_true rfl, Nat.le_of_ble_eq_true rfl⟩) (zqV (wr := [(q_7, .inl ((cA 0), 3, .inr (.inl fa)))]) (wc := zTr cA g t_20) hK hP hD hS hA hE (List.Perm.refl _) 0 rfl rfl) rfl rfl hl.1 rfl (lv_room (Nat.le_of_ble_eq_true rfl)) dL_comes_275 ⟨show ((1400 + 20 * k2) + 20) + 0 ≤ 1600 from by omega, show ((7600 + 115 * k2) + 115) + 0 ≤ 8600 from by omega⟩) hP hD hS hA (List.Perm.refl _) (fun u => List.Perm.refl _) (fun r_21 t_21 H locs hp_21 hP hD hS => ?_)
                    obtain ⟨er_21, hR_21⟩ := hp_21
                    obtain ⟨w_21, ew_21⟩ : ∃ z : vX10, z = ((fm_calmIn w_20 (y_1) (nI M))).2 := ⟨_, rfl⟩
                    rw [← ew_21] at hR_21
                    have hP : va_P D vwCl ([(q_7, .inl ((cA 0), 3, .inr (.inl fa)))] ++ (zTr cA g t_21)) H := hP
                    have hD : va_D A ([(q_7, .inl ((cA 0), 3, .inr (.inl fa)))] ++ (zTr cA g t_21)) := hD
                    refine W.widen (k := ((1400 + 20 * k2) + 20)) (n := ((7600 + 115 * k2) + 115)) (by omega) (by omega) ?_
                    obtain ⟨cr9, hQ9⟩ := cm_own hR hQ8 h88 hk5 hb9 ⟨hM1, hM2⟩ er_21 ew_21
                    refine lv_istore (lv' := [(14, .int r_21), (13, .int (nI k2)), (12, .int l2), (11, .int s2), (10, .ref q_7), (8, .long zs), (7, .int F), (6, .int r_5), (5, .int r_4), (4, .int r_3), (3, .int (nI M)), (2, .int y_1), (0, .ref (g 0)), (1, .int x1)]) hx hb dL_comes_278 hl (by decide) rfl (fun ls hl => ?_)
                    refine lv_iload hx hb dL_comes_280 (lv_at hl 0 rfl) ?_
                    have J300 : ∀ (j300_12 : Int32) (j300_11 : Int32) (ej300 : ((r_21 < 0) ∧ j300_12 = l2 ∧ j300_11 = s2) ∨ ((¬ (r_21 < 0)) ∧ (s2 ≤ r_21) ∧ j300_12 = l2 ∧ j300_11 = s2) ∨ ((¬ (r_21 < 0)) ∧ (¬ (s2 ≤ r_21)) ∧ j300_12 = (nI k2) ∧ j300_11 = r_21)), ∀ (ls : Array Slot), lv_has ls 15 [(14, .int r_21), (13, .int (nI k2)), (12, .int j300_12), (11, .int j300_11), (10, .ref q_7), (8, .long zs), (7, .int F), (6, .int r_5), (5, .int r_4), (4, .int r_3), (3, .int (nI M)), (2, .int y_1), (0, .ref (g 0)), (1, .int x1)] → W p l e (headSpec wsL_comes ({ frames := 7, cells := 1600, slots := 8600, locals := 179 })).room s m (([.ref (g 0), .int x1] : List Value).toArray) below meth c H locs ((1400 + 20 * k2) + 20) ((7600 + 115 * k2) + 115) Q (F0 m 300 ls []) := by
                      intro j300_12 j300_11 ej300 ls hl
                      refine lv_iinc (v := (nI (k2 + 1))) (lv' := [(13, .int (nI (k2 + 1))), (14, .int r_21), (12, .int j300_12), (11, .int j300_11), (10, .ref q_7), (8, .long zs), (7, .int F), (6, .int r_5), (5, .int r_4), (4, .int r_3), (3, .int (nI M)), (2, .int y_1), (0, .ref (g 0)), (1, .int x1)]) hx hb dL_comes_300 hl (k := 1) rfl (nI_1 k2) (by decide) rfl (fun ls hl => ?_)
                      refine lv_goto (tgt := 259) hx hb dL_comes_303 (by decide) ?_
                      refine W.widen (k := 1400 + 20 * (k2 + 1)) (n := 7600 + 115 * (k2 + 1)) (by omega) (by omega) ?_
                      exact ih (k2 + 1) (j300_11) (j300_12) (t_21) (w_21) (by omega) (by omega) hR_21 hQ9 (cm_bl hL2 cr9 ej300) _ _ hP hD hS ls (lv_sub hl [0, 2, 3, 4, 5, 6, 7, 8, 9, 10, 11, 12, 13] rfl)
                    refine lv_if_lt (tgt := 300) hx hb dL_comes_282 (by decide) (fun c_22 => ?_) (fun c_22 => ?_)
                    · skip
                      exact J300 _ _ (Or.inl ⟨c_22, rfl, rfl⟩) ls (lv_sub hl [0, 1, 2, 3, 4, 5, 6, 7, 8, 9, 10, 11, 12, 13] rfl)
                    · skip
                      refine lv_iload hx hb dL_comes_285 (lv_at hl 0 rfl) ?_
                      refine lv_iload hx hb dL_comes_287 (lv_at hl 3 rfl) ?_
                      refine lv_icmp_ge (tgt := 300) hx hb dL_comes_289 (by decide) (fun c_23 => ?_) (fun c_23 => ?_)
                      · skip
                        exact J300 _ _ (Or.inr (Or.inl ⟨c_22, c_23, rfl, rfl⟩)) ls (lv_sub hl [0, 1, 2, 3, 4, 5, 6, 7, 8, 9, 10, 11, 12, 13] rfl)
                      · skip
                        refine lv_iload hx hb dL_comes_292 (lv_at hl 0 rfl) ?_
                        refine lv_istore (lv' := [(11, .int r_21), (14, .int r_21), (13, .int (nI k2)), (12, .int l2), (10, .ref q_7), (8, .long zs), (7, .int F), (6, .int r_5), (5, .int r_4), (4, .int r_3), (3, .int (nI M)), (2, .int y_1), (0, .ref (g 0)), (1, .int x1)]) hx hb dL_comes_294 hl (by decide) rfl (fun ls hl => ?_)
                        refine lv_iload hx hb dL_comes_296 (lv_at hl 2 rfl) ?_
                        refine lv_istore (lv' := [(12, .int (nI k2)), (11, .int r_21), (14, .int r_21), (13, .int (nI k2)), (10, .ref q_7), (8, .long zs), (7, .int F), (6, .int r_5), (5, .int r_4), (4, .int r_3), (3, .int (nI M)), (2, .int y_1), (0, .ref (g 0)), (1, .int x1)]) hx hb dL_comes_298 hl (by decide) rfl (fun ls hl => ?_)
                        exact J300 _ _ (Or.inr (Or.inr ⟨c_22, c_23, rfl, rfl⟩)) ls (lv_sub hl [2, 3, 0, 1, 4, 5, 6, 7, 8, 9, 10, 11, 12, 13] rfl)
              refine W.widen (k := 1400 + 20 * 0) (n := 7600 + 115 * 0) (by omega) (by omega) ?_
              exact L259 (5 + 1) (0) (y_14) (-6) (t_15) (w_15) (by omega) (Nat.zero_le _) hR_15 hQ7 (by rw [ey_14]; rfl) _ _ hP hD hS ls (lv_sub hl [0, 1, 2, 3, 4, 5, 6, 7, 8, 9, 10, 11, 12] rfl)
            · skip
              -- bad leaf 4
              rw [ev_12] at c_13
              exact (c_13 ((ca6 10 (by decide)).trans cr3.symm)).elim
      · skip
        have hkM : k ≤ M := Nat.le_of_not_lt (fun q => c_8 (nI_lt q (by omega)))
        refine lv_iload hx hb dL_comes_68 (lv_at hl 3 rfl) ?_
        have J107 : ∀ (j107_7 : Int32) (ej107 : ((0 ≤ F) ∧ j107_7 = F) ∨ ((¬ (0 ≤ F)) ∧ (y_1 < (fm_size ((w1.1 4) - (fm_rest w1.1)))) ∧ j107_7 = F) ∨ ((¬ (0 ≤ F)) ∧ (¬ (y_1 < (fm_size ((w1.1 4) - (fm_rest w1.1))))) ∧ (y_1 < (fm_size ((w1.1 5)))) ∧ j107_7 = F) ∨ ((¬ (0 ≤ F)) ∧ (¬ (y_1 < (fm_size ((w1.1 4) - (fm_rest w1.1))))) ∧ (¬ (y_1 < (fm_size ((w1.1 5))))) ∧ j107_7 = (nI k))), ∀ (ls : Array Slot), lv_has ls 15 [(11, .int (nI k)), (10, .ref q_7), (8, .long zs), (7, .int j107_7), (6, .int r_5), (5, .int r_4), (4, .int r_3), (3, .int (nI M)), (2, .int y_1), (0, .ref (g 0)), (1, .int x1)] → W p l e (headSpec wsL_comes ({ frames := 7, cells := 1600, slots := 8600, locals := 179 })).room s m (([.ref (g 0), .int x1] : List Value).toArray) below meth c H locs (41 + 20 * k) (233 + 115 * k) Q (F0 m 107 ls []) := by
          intro j107_7 ej107 ls hl
          have hF2 := FI_s hF hkM hM2 hs1 ej107
          refine lv_aload_n hx hb dL_comes_107 rfl (lv_at hl 9 rfl) ?_
          refine lv_iconst (v := 1) hx hb dL_comes_108 (by decide) ?_
          refine z_Hp (wr := [(q_7, .inl ((cA 0), 3, .inr (.inl fa)))]) (wt := fun u => [(q_7, .inl ((cA 0), 3, .inr (.inl fa)))] ++ zTr cA g u) (va_runV (As := [.int (1 : Int32)]) (rest := []) ⟨hx, hb, hml, hown, hts⟩ (d_X9_pass l D cA g H.size (1 : Int32) hR1) (cwV 1 hts gL_comes_X9_pass rfl rfl rfl (by decide +kernel) ⟨Nat.le_of_ble_eq_true rfl, Nat.le_of_ble_eq_true rfl⟩) (zqV (wr := [(q_7, .inl ((cA 0), 3, .inr (.inl fa)))]) (wc := zTr cA g t1) hK hP hD hS hA hE (List.Perm.refl _) 0 rfl rfl) rfl rfl hl.1 rfl (lv_room (Nat.le_of_ble_eq_true rfl)) dL_comes_109 ⟨show (41 + 20 * k) + 20 ≤ 1600 from by omega, show (233 + 115 * k) + 115 ≤ 8600 from by omega⟩) hP hD hS hA (List.Perm.refl _) (fun u => List.Perm.refl _) (fun r_24 t_24 H locs hp_24 hP hD hS => ?_)
          obtain ⟨er_24, hR_24⟩ := hp_24
          obtain ⟨w_24, ew_24⟩ : ∃ z : vX10, z = ((fm_pass (pmN w1) w1 (1 : Int32))).2 := ⟨_, rfl⟩
          rw [← ew_24] at hR_24
          have hP : va_P D vwCl ([(q_7, .inl ((cA 0), 3, .inr (.inl fa)))] ++ (zTr cA g t_24)) H := hP
          have hD : va_D A ([(q_7, .inl ((cA 0), 3, .inr (.inl fa)))] ++ (zTr cA g t_24)) := hD
          refine W.widen (k := ((41 + 20 * k) + 20)) (n := ((233 + 115 * k) + 115)) (by omega) (by omega) ?_
          obtain ⟨ct5, cp0, cp1, hI5⟩ := cm_ps hR1 hI1 (by omega) ew_24 er_24
          have hB5 : w_24.1 = (fm_min (w1.1, w1.2.1)).1 := by rw [ew_24, mi_pass hR1 hI1 (by omega)]
          have hs5 := cm_sc hR hs1 hB5
          refine lv_istore (lv' := [(12, .int r_24), (11, .int (nI k)), (10, .ref q_7), (8, .long zs), (7, .int j107_7), (6, .int r_5), (5, .int r_4), (4, .int r_3), (3, .int (nI M)), (2, .int y_1), (0, .ref (g 0)), (1, .int x1)]) hx hb dL_comes_112 hl (by decide) rfl (fun ls hl => ?_)
          refine lv_iload hx hb dL_comes_114 (lv_at hl 0 rfl) ?_
          refine lv_iconst (v := 1) hx hb dL_comes_116 (by decide) ?_
          have J142 : ∀ (j142_a : (Nat → Int64)) (ej142 : ((¬ (r_24 = (1 : Int32))) ∧ j142_a = fa) ∨ ((r_24 = (1 : Int32)) ∧ j142_a = ((vp_updL ((vp_updL ((vp_updL fa 2 (fa 1))) 1 (((vp_updL fa 2 (fa 1))) 0))) 0 zs)))), ∀ (H : Heap) (locs : List Loc), va_P D vwCl ([(q_7, .inl ((cA 0), 3, .inr (.inl j142_a)))] ++ (zTr cA g t_24)) H → va_D A ([(q_7, .inl ((cA 0), 3, .inr (.inl j142_a)))] ++ (zTr cA g t_24)) → va_S A s.heap H locs → ∀ (ls : Array Slot), lv_has ls 15 [(12, .int r_24), (11, .int (nI k)), (10, .ref q_7), (8, .long zs), (7, .int j107_7), (6, .int r_5), (5, .int r_4), (4, .int r_3), (3, .int (nI M)), (2, .int y_1), (0, .ref (g 0)), (1, .int x1)] → W p l e (headSpec wsL_comes ({ frames := 7, cells := 1600, slots := 8600, locals := 179 })).room s m (([.ref (g 0), .int x1] : List Value).toArray) below meth c H locs ((41 + 20 * k) + 20) ((233 + 115 * k) + 115) Q (F0 m 142 ls []) := by
            intro j142_a ej142 H locs hP hD hS ls hl
            refine lv_lload hx hb dL_comes_142 (lv_at hl 3 rfl) ?_
            refine lv_aload_n hx hb dL_comes_144 rfl (lv_at hl 10 rfl) ?_
            refine lv_iconst (v := 0) hx hb dL_comes_145 (by decide) ?_
            refine z_Ri (va_runV (As := [.int (0 : Int32)]) (rest := [.long zs]) ⟨hx, hb, hml, hown, hts⟩ (d_X9_compass l D cA g (0 : Int32) hR_24) (cwV 1 hts gL_comes_X9_compass rfl rfl rfl (by decide +kernel) ⟨Nat.le_of_ble_eq_true rfl, Nat.le_of_ble_eq_true rfl⟩) (zqVR (wr := [(q_7, .inl ((cA 0), 3, .inr (.inl j142_a)))]) (wc := zTr cA g t_24) hK hP hN (List.Perm.refl _) 0 rfl rfl) rfl rfl hl.1 rfl (lv_room (Nat.le_of_ble_eq_true rfl)) dL_comes_146 ⟨show ((41 + 20 * k) + 20) + 0 ≤ 1600 from by omega, show ((233 + 115 * k) + 115) + 0 ≤ 8600 from by omega⟩) ?_
            refine lv_topi (fun v_25 ev_25 => ?_)
            rw [fk_0] at ev_25
            refine lv_i2l hx hb dL_comes_149 rfl ?_
            refine lv_ladd hx hb dL_comes_150 ?_
            refine lv_topl (fun y_26 ey_26 => ?_)
            refine lv_lstore (lv' := [(8, .long y_26), (12, .int r_24), (11, .int (nI k)), (10, .ref q_7), (7, .int j107_7), (6, .int r_5), (5, .int r_4), (4, .int r_3), (3, .int (nI M)), (2, .int y_1), (0, .ref (g 0)), (1, .int x1)]) hx hb dL_comes_151 hl (by decide) rfl (fun ls hl => ?_)
            have hS5 := SI_s hR1 hS1 ⟨cp0, cp1⟩ ej142
            rw [← ev_25, ← ey_26] at hS5
            refine lv_aload_n hx hb dL_comes_153 rfl (lv_at hl 10 rfl) ?_
            refine lv_bipush (v := 13) hx hb dL_comes_154 (by decide) ?_
            refine z_Ri (va_runV (As := [.int (13 : Int32)]) (rest := []) ⟨hx, hb, hml, hown, hts⟩ (d_X9_state l D cA g (13 : Int32) hR_24) (cwV 1 hts gL_comes_X9_state rfl rfl rfl (by decide +kernel) ⟨Nat.le_of_ble_eq_true rfl, Nat.le_of_ble_eq_true rfl⟩) (zqVR (wr := [(q_7, .inl ((cA 0), 3, .inr (.inl j142_a)))]) (wc := zTr cA g t_24) hK hP hN (List.Perm.refl _) 0 rfl rfl) rfl rfl hl.1 rfl (lv_room (Nat.le_of_ble_eq_true rfl)) dL_comes_156 ⟨show ((41 + 20 * k) + 20) + 0 ≤ 1600 from by omega, show ((233 + 115 * k) + 115) + 0 ≤ 8600 from by omega⟩) ?_
            refine lv_topi (fun v_27 ev_27 => ?_)
            rw [fs_13] at ev_27
            refine lv_iconst (v := 2) hx hb dL_comes_159 (by decide) ?_
            have J204 : ∀ (ej204 : ((v_27 ≤ (2 : Int32))) ∨ ((¬ (v_27 ≤ (2 : Int32))) ∧ (¬ (r_24 = (1 : Int32)))) ∨ ((¬ (v_27 ≤ (2 : Int32))) ∧ (r_24 = (1 : Int32)) ∧ (((if 3 ≤ w_24.1 13 then fm_mean w_24.1 w_24.2.1 else -1000000006)) = ((((j142_a 0) - (j142_a 2)) / ((((fm_turn w_24.1 (0 : Int32) (1 : Int32))) - ((fm_turn w_24.1 (2 : Int32) (1 : Int32)))).toInt64)).toInt32)))), ∀ (ls : Array Slot), lv_has ls 15 [(8, .long y_26), (12, .int r_24), (11, .int (nI k)), (10, .ref q_7), (7, .int j107_7), (6, .int r_5), (5, .int r_4), (4, .int r_3), (3, .int (nI M)), (2, .int y_1), (0, .ref (g 0)), (1, .int x1)] → W p l e (headSpec wsL_comes ({ frames := 7, cells := 1600, slots := 8600, locals := 179 })).room s m (([.ref (g 0), .int x1] : List Value).toArray) below meth c H locs ((41 + 20 * k) + 20) ((233 + 115 * k) + 115) Q (F0 m 204 ls []) := by
              intro ej204 ls hl
              refine lv_iinc (v := (nI (k + 1))) (lv' := [(11, .int (nI (k + 1))), (8, .long y_26), (12, .int r_24), (10, .ref q_7), (7, .int j107_7), (6, .int r_5), (5, .int r_4), (4, .int r_3), (3, .int (nI M)), (2, .int y_1), (0, .ref (g 0)), (1, .int x1)]) hx hb dL_comes_204 hl (k := 2) rfl (nI_1 k) (by decide) rfl (fun ls hl => ?_)
              refine lv_goto (tgt := 62) hx hb dL_comes_207 (by decide) ?_
              refine W.widen (k := 41 + 20 * (k + 1)) (n := 233 + 115 * (k + 1)) (by omega) (by omega) ?_
              exact ih (k + 1) (j107_7) (y_26) (j142_a) (t_24) (w_24) (by omega) (by omega) hR_24 hI5 hs5 hF2 hS5 (SV_c hV ct5) _ _ hP hD hS ls (lv_sub hl [0, 3, 1, 4, 5, 6, 7, 8, 9, 10, 11] rfl)
            refine lv_icmp_le (tgt := 204) hx hb dL_comes_160 (by decide) (fun c_28 => ?_) (fun c_28 => ?_)
            · skip
              exact J204  (Or.inl c_28) ls (lv_sub hl [0, 1, 2, 3, 4, 5, 6, 7, 8, 9, 10, 11] rfl)
            · skip
              refine lv_iload hx hb dL_comes_163 (lv_at hl 1 rfl) ?_
              refine lv_iconst (v := 1) hx hb dL_comes_165 (by decide) ?_
              refine lv_icmp_ne (tgt := 204) hx hb dL_comes_166 (by decide) (fun c_29 => ?_) (fun c_29 => ?_)
              · skip
                exact J204  (Or.inr (Or.inl ⟨c_28, c_29⟩)) ls (lv_sub hl [0, 1, 2, 3, 4, 5, 6, 7, 8, 9, 10, 11] rfl)
              · skip
                refine lv_aload_n hx hb dL_comes_169 rfl (lv_at hl 10 rfl) ?_
                refine lv_iconst (v := 5) hx hb dL_comes_170 (by decide) ?_
                refine z_Ri (va_runV (As := [.int (5 : Int32)]) (rest := []) ⟨hx, hb, hml, hown, hts⟩ (d_X9_compass l D cA g (5 : Int32) hR_24) (cwV 1 hts gL_comes_X9_compass rfl rfl rfl (by decide +kernel) ⟨Nat.le_of_ble_eq_true rfl, Nat.le_of_ble_eq_true rfl⟩) (zqVR (wr := [(q_7, .inl ((cA 0), 3, .inr (.inl j142_a)))]) (wc := zTr cA g t_24) hK hP hN (List.Perm.refl _) 0 rfl rfl) rfl rfl hl.1 rfl (lv_room (Nat.le_of_ble_eq_true rfl)) dL_comes_171 ⟨show ((41 + 20 * k) + 20) + 0 ≤ 1600 from by omega, show ((233 + 115 * k) + 115) + 0 ≤ 8600 from by omega⟩) ?_
                refine lv_topi (fun v_30 ev_30 => ?_)
                rw [fk_5] at ev_30
                refine lv_aload hx hb dL_comes_174 (lv_at hl 3 rfl) ?_
                refine lv_iconst (v := 0) hx hb dL_comes_176 (by decide) ?_
                refine z_lald (k := 0) hx hb hK hP 0 0 rfl rfl rfl (by decide) (by decide) dL_comes_177 ?_
                refine lv_aload hx hb dL_comes_178 (lv_at hl 3 rfl) ?_
                refine lv_iconst (v := 2) hx hb dL_comes_180 (by decide) ?_
                refine z_lald (k := 2) hx hb hK hP 0 0 rfl rfl rfl (by decide) (by decide) dL_comes_181 ?_
                refine lv_lsub hx hb dL_comes_182 ?_
                refine lv_aload_n hx hb dL_comes_183 rfl (lv_at hl 10 rfl) ?_
                refine lv_iconst (v := 0) hx hb dL_comes_184 (by decide) ?_
                refine lv_iconst (v := 1) hx hb dL_comes_185 (by decide) ?_
                refine z_Ri (va_runV (As := [.int (0 : Int32), .int (1 : Int32)]) (rest := [.long ((j142_a 0) - (j142_a 2)), .int v_30]) ⟨hx, hb, hml, hown, hts⟩ (d_X9_turn l D cA g (0 : Int32) (1 : Int32) hR_24) (cwV 2 hts gL_comes_X9_turn rfl rfl rfl (by decide +kernel) ⟨Nat.le_of_ble_eq_true rfl, Nat.le_of_ble_eq_true rfl⟩) (zqVR (wr := [(q_7, .inl ((cA 0), 3, .inr (.inl j142_a)))]) (wc := zTr cA g t_24) hK hP hN (List.Perm.refl _) 0 rfl rfl) rfl rfl hl.1 rfl (lv_room (Nat.le_of_ble_eq_true rfl)) dL_comes_186 ⟨show ((41 + 20 * k) + 20) + 0 ≤ 1600 from by omega, show ((233 + 115 * k) + 115) + 0 ≤ 8600 from by omega⟩) ?_
                refine lv_topi (fun v_31 ev_31 => ?_)
                refine lv_aload_n hx hb dL_comes_189 rfl (lv_at hl 10 rfl) ?_
                refine lv_iconst (v := 2) hx hb dL_comes_190 (by decide) ?_
                refine lv_iconst (v := 1) hx hb dL_comes_191 (by decide) ?_
                refine z_Ri (va_runV (As := [.int (2 : Int32), .int (1 : Int32)]) (rest := [.int v_31, .long ((j142_a 0) - (j142_a 2)), .int v_30]) ⟨hx, hb, hml, hown, hts⟩ (d_X9_turn l D cA g (2 : Int32) (1 : Int32) hR_24) (cwV 2 hts gL_comes_X9_turn rfl rfl rfl (by decide +kernel) ⟨Nat.le_of_ble_eq_true rfl, Nat.le_of_ble_eq_true rfl⟩) (zqVR (wr := [(q_7, .inl ((cA 0), 3, .inr (.inl j142_a)))]) (wc := zTr cA g t_24) hK hP hN (List.Perm.refl _) 0 rfl rfl) rfl rfl hl.1 rfl (lv_room (Nat.le_of_ble_eq_true rfl)) dL_comes_192 ⟨show ((41 + 20 * k) + 20) + 0 ≤ 1600 from by omega, show ((233 + 115 * k) + 115) + 0 ≤ 8600 from by omega⟩) ?_
                refine lv_topi (fun v_32 ev_32 => ?_)
                refine lv_isub hx hb dL_comes_195 ?_
                refine lv_i2l hx hb dL_comes_196 rfl ?_
                refine lv_ldiv hx hb dL_comes_197 (by rw [ev_31, ev_32]; exact cm_dv hR_24 (by rw [← ev_27]; exact c_28)) ?_
                refine lv_l2i hx hb dL_comes_198 rfl ?_
                refine lv_icmp_eq (tgt := 204) hx hb dL_comes_199 (by decide) (fun c_33 => ?_) (fun c_33 => ?_)
                · skip
                  subst ev_32
                  subst ev_31
                  subst ev_30
                  exact J204  (Or.inr (Or.inr ⟨c_28, c_29, c_33⟩)) ls (lv_sub hl [0, 1, 2, 3, 4, 5, 6, 7, 8, 9, 10, 11] rfl)
                · skip
                  -- bad leaf 5
                  rw [ev_27] at c_28
                  rw [ev_32, ev_31, ev_30] at c_33
                  exact (c_33 (cm_mean hR_24 hS5 c_28)).elim
          refine lv_icmp_ne (tgt := 142) hx hb dL_comes_117 (by decide) (fun c_34 => ?_) (fun c_34 => ?_)
          · skip
            exact J142 _ (Or.inl ⟨c_34, rfl⟩) _ _ hP hD hS ls (lv_sub hl [0, 1, 2, 3, 4, 5, 6, 7, 8, 9, 10, 11] rfl)
          · skip
            refine lv_aload hx hb dL_comes_120 (lv_at hl 2 rfl) ?_
            refine lv_iconst (v := 2) hx hb dL_comes_122 (by decide) ?_
            refine lv_aload hx hb dL_comes_123 (lv_at hl 2 rfl) ?_
            refine lv_iconst (v := 1) hx hb dL_comes_125 (by decide) ?_
            refine z_lald (k := 1) hx hb hK hP 0 0 rfl rfl rfl (by decide) (by decide) dL_comes_126 ?_
            refine z_last (k := 2) hx hb hK hP hD hS 0 0 rfl rfl rfl (by decide) (by decide) dL_comes_127 (fun g_35 eg_35 H locs hP hD hS => ?_)
            have hP : va_P D vwCl ([(q_7, .inl ((cA 0), 3, .inr (.inl g_35)))] ++ (zTr cA g t_24)) H := hP
            have hD : va_D A ([(q_7, .inl ((cA 0), 3, .inr (.inl g_35)))] ++ (zTr cA g t_24)) := hD
            refine lv_aload hx hb dL_comes_128 (lv_at hl 2 rfl) ?_
            refine lv_iconst (v := 1) hx hb dL_comes_130 (by decide) ?_
            refine lv_aload hx hb dL_comes_131 (lv_at hl 2 rfl) ?_
            refine lv_iconst (v := 0) hx hb dL_comes_133 (by decide) ?_
            refine z_lald (k := 0) hx hb hK hP 0 0 rfl rfl rfl (by decide) (by decide) dL_comes_134 ?_
            refine z_last (k := 1) hx hb hK hP hD hS 0 0 rfl rfl rfl (by decide) (by decide) dL_comes_135 (fun g_36 eg_36 H locs hP hD hS => ?_)
            have hP : va_P D vwCl ([(q_7, .inl ((cA 0), 3, .inr (.inl g_36)))] ++ (zTr cA g t_24)) H := hP
            have hD : va_D A ([(q_7, .inl ((cA 0), 3, .inr (.inl g_36)))] ++ (zTr cA g t_24)) := hD
            refine lv_aload hx hb dL_comes_136 (lv_at hl 2 rfl) ?_
            refine lv_iconst (v := 0) hx hb dL_comes_138 (by decide) ?_
            refine lv_lload hx hb dL_comes_139 (lv_at hl 3 rfl) ?_
            refine z_last (k := 0) hx hb hK hP hD hS 0 0 rfl rfl rfl (by decide) (by decide) dL_comes_141 (fun g_37 eg_37 H locs hP hD hS => ?_)
            have hP : va_P D vwCl ([(q_7, .inl ((cA 0), 3, .inr (.inl g_37)))] ++ (zTr cA g t_24)) H := hP
            have hD : va_D A ([(q_7, .inl ((cA 0), 3, .inr (.inl g_37)))] ++ (zTr cA g t_24)) := hD
            subst eg_37
            subst eg_36
            subst eg_35
            exact J142 _ (Or.inr ⟨c_34, rfl⟩) _ _ hP hD hS ls (lv_sub hl [0, 1, 2, 3, 4, 5, 6, 7, 8, 9, 10, 11] rfl)
        refine lv_if_ge (tgt := 107) hx hb dL_comes_70 (by decide) (fun c_38 => ?_) (fun c_38 => ?_)
        · skip
          exact J107 _ (Or.inl ⟨c_38, rfl⟩) ls (lv_sub hl [0, 1, 2, 3, 4, 5, 6, 7, 8, 9, 10] rfl)
        · skip
          refine lv_aload_n hx hb dL_comes_73 rfl (lv_at hl 9 rfl) ?_
          refine lv_iconst (v := 0) hx hb dL_comes_74 (by decide) ?_
          refine z_Ri (va_runV (As := [.int (0 : Int32)]) (rest := []) ⟨hx, hb, hml, hown, hts⟩ (d_X9_compass l D cA g (0 : Int32) hR1) (cwV 1 hts gL_comes_X9_compass rfl rfl rfl (by decide +kernel) ⟨Nat.le_of_ble_eq_true rfl, Nat.le_of_ble_eq_true rfl⟩) (zqVR (wr := [(q_7, .inl ((cA 0), 3, .inr (.inl fa)))]) (wc := zTr cA g t1) hK hP hN (List.Perm.refl _) 0 rfl rfl) rfl rfl hl.1 rfl (lv_room (Nat.le_of_ble_eq_true rfl)) dL_comes_75 ⟨show (41 + 20 * k) + 0 ≤ 1600 from by omega, show (233 + 115 * k) + 0 ≤ 8600 from by omega⟩) ?_
          refine lv_topi (fun v_39 ev_39 => ?_)
          rw [fk_0] at ev_39
          refine lv_aload_n hx hb dL_comes_78 rfl (lv_at hl 9 rfl) ?_
          refine lv_iconst (v := 2) hx hb dL_comes_79 (by decide) ?_
          refine z_Ri (va_runV (As := [.int (2 : Int32)]) (rest := [.int v_39]) ⟨hx, hb, hml, hown, hts⟩ (d_X9_compass l D cA g (2 : Int32) hR1) (cwV 1 hts gL_comes_X9_compass rfl rfl rfl (by decide +kernel) ⟨Nat.le_of_ble_eq_true rfl, Nat.le_of_ble_eq_true rfl⟩) (zqVR (wr := [(q_7, .inl ((cA 0), 3, .inr (.inl fa)))]) (wc := zTr cA g t1) hK hP hN (List.Perm.refl _) 0 rfl rfl) rfl rfl hl.1 rfl (lv_room (Nat.le_of_ble_eq_true rfl)) dL_comes_80 ⟨show (41 + 20 * k) + 0 ≤ 1600 from by omega, show (233 + 115 * k) + 0 ≤ 8600 from by omega⟩) ?_
          refine lv_topi (fun v_40 ev_40 => ?_)
          rw [fk_2] at ev_40
          refine lv_isub hx hb dL_comes_83 ?_
          refine z_Ri (va_runS (As := [.int (v_39 - v_40)]) (rest := []) ⟨hx, hb, hml, hown, hts⟩ (c_L_size l D cA (v_39 - v_40)  ) (va_cwS 1 hts gL_comes_L_size rfl rfl rfl (by decide +kernel) ⟨Nat.le_of_ble_eq_true rfl, Nat.le_of_ble_eq_true rfl⟩) (zqSR0 hK hN) rfl rfl hl.1 rfl (lv_room (Nat.le_of_ble_eq_true rfl)) dL_comes_84 ⟨show (41 + 20 * k) + 0 ≤ 1600 from by omega, show (233 + 115 * k) + 0 ≤ 8600 from by omega⟩) ?_
          refine lv_topi (fun v_41 ev_41 => ?_)
          refine lv_iload_n hx hb dL_comes_87 rfl (lv_at hl 8 rfl) ?_
          refine lv_icmp_gt (tgt := 107) hx hb dL_comes_88 (by decide) (fun c_42 => ?_) (fun c_42 => ?_)
          · skip
            subst ev_41
            subst ev_40
            subst ev_39
            exact J107 _ (Or.inr (Or.inl ⟨c_38, c_42, rfl⟩)) ls (lv_sub hl [0, 1, 2, 3, 4, 5, 6, 7, 8, 9, 10] rfl)
          · skip
            refine lv_aload_n hx hb dL_comes_91 rfl (lv_at hl 9 rfl) ?_
            refine lv_iconst (v := 1) hx hb dL_comes_92 (by decide) ?_
            refine z_Ri (va_runV (As := [.int (1 : Int32)]) (rest := []) ⟨hx, hb, hml, hown, hts⟩ (d_X9_compass l D cA g (1 : Int32) hR1) (cwV 1 hts gL_comes_X9_compass rfl rfl rfl (by decide +kernel) ⟨Nat.le_of_ble_eq_true rfl, Nat.le_of_ble_eq_true rfl⟩) (zqVR (wr := [(q_7, .inl ((cA 0), 3, .inr (.inl fa)))]) (wc := zTr cA g t1) hK hP hN (List.Perm.refl _) 0 rfl rfl) rfl rfl hl.1 rfl (lv_room (Nat.le_of_ble_eq_true rfl)) dL_comes_93 ⟨show (41 + 20 * k) + 0 ≤ 1600 from by omega, show (233 + 115 * k) + 0 ≤ 8600 from by omega⟩) ?_
            refine lv_topi (fun v_43 ev_43 => ?_)
            rw [fk_1] at ev_43
            refine z_Ri (va_runS (As := [.int v_43]) (rest := []) ⟨hx, hb, hml, hown, hts⟩ (c_L_size l D cA (v_43)  ) (va_cwS 1 hts gL_comes_L_size rfl rfl rfl (by decide +kernel) ⟨Nat.le_of_ble_eq_true rfl, Nat.le_of_ble_eq_true rfl⟩) (zqSR0 hK hN) rfl rfl hl.1 rfl (lv_room (Nat.le_of_ble_eq_true rfl)) dL_comes_96 ⟨show (41 + 20 * k) + 0 ≤ 1600 from by omega, show (233 + 115 * k) + 0 ≤ 8600 from by omega⟩) ?_
            refine lv_topi (fun v_44 ev_44 => ?_)
            refine lv_iload_n hx hb dL_comes_99 rfl (lv_at hl 8 rfl) ?_
            refine lv_icmp_gt (tgt := 107) hx hb dL_comes_100 (by decide) (fun c_45 => ?_) (fun c_45 => ?_)
            · skip
              subst ev_44
              subst ev_43
              subst ev_41
              subst ev_40
              subst ev_39
              exact J107 _ (Or.inr (Or.inr (Or.inl ⟨c_38, c_42, c_45, rfl⟩))) ls (lv_sub hl [0, 1, 2, 3, 4, 5, 6, 7, 8, 9, 10] rfl)
            · skip
              refine lv_iload hx hb dL_comes_103 (lv_at hl 0 rfl) ?_
              refine lv_istore (lv' := [(7, .int (nI k)), (11, .int (nI k)), (10, .ref q_7), (8, .long zs), (6, .int r_5), (5, .int r_4), (4, .int r_3), (3, .int (nI M)), (2, .int y_1), (0, .ref (g 0)), (1, .int x1)]) hx hb dL_comes_105 hl (by decide) rfl (fun ls hl => ?_)
              subst ev_44
              subst ev_43
              subst ev_41
              subst ev_40
              subst ev_39
              exact J107 _ (Or.inr (Or.inr (Or.inr ⟨c_38, c_42, c_45, rfl⟩))) ls (lv_sub hl [1, 2, 3, 0, 4, 5, 6, 7, 8, 9, 10] rfl)
  refine W.widen (k := 41 + 20 * 0) (n := 233 + 115 * 0) (by omega) (by omega) ?_
  exact L62 ((M + 1) + 1) (0) (-6) (0) (fun _ => 0) (t_6) (w_6) (by omega) (Nat.zero_le _) hR_6 (cm_i0 hR hI cf1) (cm_s0 cf1 cf2).1 (FI_0 _ _ _) (cm_s0 cf1 cf2).2 cv4 _ _ hP hD hS ls (lv_sub hl [0, 1, 2, 3, 4, 5, 6, 7, 8, 9, 10] rfl)
