set_option maxHeartbeats 4000000 in
set_option maxRecDepth 100000 in
theorem c_L_told (l : Launch) (D : va_G) (cA : Nat → ClassId) (g : Nat → Nat) (sz : Nat) {t : vTv} {w : vX10} (x1 : Int32) (n : Nat) (hR : Rel t w) (hI : IV n w) (hn : n < 80000) : Met l yL_told wsL_told ({ frames := 7, cells := 120, slots := 700, locals := 152 }) (va_Pc [.ref (g 0), .int x1] (zPre D (zty cA) (zTr cA g t) sz)) (va_Qi (fun (x : Int32) (u : vTv) => x = 1 ∧ ∃ w9, Rel u w9 ∧ IV (n + 18) w9) (fun u => zPost D (zty cA) (va_A (zTr cA g t) sz) (zTr cA g u)) (va_A (zTr cA g t) sz)) 120 700 (va_A (zTr cA g t) sz) := by
  refine Met.ofW (cc := cL_told) (maxL := 6) (ret := (some .boolean)) (by decide) rfl ?_
  intro p e s m args below meth c s₁ B hml hv
  obtain ⟨rfl, hsz, hP, hK, hD0, hE⟩ := hv
  have hx := B.exec
  have hb := B.bytes
  have hr := B.returns
  have hts := atoms_spec (ws := wsL_told) B.pre
  have hown : s.vm.findClass RL = some m.cls := findClass_of_methodNamed B.named
  subst hsz
  have hD := hD0.self (sz := s.heap.size)
  generalize hAe : va_A (zTr cA g t) s.heap.size = A at hD hE ⊢
  have hA : ∀ q : Nat, s.heap.size ≤ q → A q := fun q h => by rw [← hAe]; exact Or.inr h
  have hS : va_S A s.heap s.heap [] := va_S.rf
  have hN : zN s := hE.1
  have hP : va_P D vwCl (zTr cA g t) s.heap := hP
  have hD : va_D A (zTr cA g t) := hD
  have hl := lv_entry ([.ref (g 0), .int x1]) (n := 6) (Nat.le_of_ble_eq_true rfl)
  rw [lg_entry_eq]
  generalize (lg_sl ([.ref (g 0), .int x1]) ++ List.replicate (6 - (lg_sl ([.ref (g 0), .int x1])).length) Slot.unset).toArray = ls at hl ⊢
  have hl : lv_has ls 6 [(0, .ref (g 0)), (1, .int x1)] := hl
  refine z_genQ (fun Q hQ => ?_)
  refine lv_iconst (v := 1) hx hb dL_told_0 (by decide) ?_
  refine lv_iload_n hx hb dL_told_1 rfl (lv_at hl 1 rfl) ?_
  refine lv_bipush (v := 9) hx hb dL_told_2 (by decide) ?_
  refine z_Ri (va_runS (As := [.int x1, .int (9 : Int32)]) (rest := [.int (1 : Int32)]) ⟨hx, hb, hml, hown, hts⟩ (c_L_up l D cA (x1) (9 : Int32)  (by decide)) (va_cwS 2 hts gL_told_L_up rfl rfl rfl (by decide +kernel) ⟨Nat.le_of_ble_eq_true rfl, Nat.le_of_ble_eq_true rfl⟩) (zqSR0 hK hN) rfl rfl hl.1 rfl (lv_room (Nat.le_of_ble_eq_true rfl)) dL_told_4 ⟨Nat.le_of_ble_eq_true rfl, Nat.le_of_ble_eq_true rfl⟩) ?_
  refine lv_iadd hx hb dL_told_7 ?_
  refine lv_topi (fun y_1 ey_1 => ?_)
  refine lv_istore_n (lv' := [(2, .int y_1), (0, .ref (g 0)), (1, .int x1)]) hx hb dL_told_8 rfl hl (by decide) rfl (fun ls hl => ?_)
  refine lv_iconst (v := 1) hx hb dL_told_9 (by decide) ?_
  refine lv_iload_n hx hb dL_told_10 rfl (lv_at hl 2 rfl) ?_
  refine lv_iconst (v := 4) hx hb dL_told_11 (by decide) ?_
  refine lv_ishr hx hb dL_told_12 ?_
  refine lv_bipush (v := 9) hx hb dL_told_13 (by decide) ?_
  refine z_Ri (va_runS (As := [.int (x1 >>> ((4 : Int32) &&& 31)), .int (9 : Int32)]) (rest := [.int (1 : Int32)]) ⟨hx, hb, hml, hown, hts⟩ (c_L_up l D cA (x1 >>> ((4 : Int32) &&& 31)) (9 : Int32)  (by decide)) (va_cwS 2 hts gL_told_L_up rfl rfl rfl (by decide +kernel) ⟨Nat.le_of_ble_eq_true rfl, Nat.le_of_ble_eq_true rfl⟩) (zqSR0 hK hN) rfl rfl hl.1 rfl (lv_room (Nat.le_of_ble_eq_true rfl)) dL_told_15 ⟨Nat.le_of_ble_eq_true rfl, Nat.le_of_ble_eq_true rfl⟩) ?_
  refine lv_iadd hx hb dL_told_18 ?_
  refine lv_topi (fun y_2 ey_2 => ?_)
  refine lv_istore_n (lv' := [(3, .int y_2), (2, .int y_1), (0, .ref (g 0)), (1, .int x1)]) hx hb dL_told_19 rfl hl (by decide) rfl (fun ls hl => ?_)
  refine lv_iconst (v := 1) hx hb dL_told_20 (by decide) ?_
  refine lv_iload_n hx hb dL_told_21 rfl (lv_at hl 3 rfl) ?_
  refine lv_bipush (v := 8) hx hb dL_told_22 (by decide) ?_
  refine lv_ishr hx hb dL_told_24 ?_
  refine lv_bipush (v := 9) hx hb dL_told_25 (by decide) ?_
  refine z_Ri (va_runS (As := [.int (x1 >>> ((8 : Int32) &&& 31)), .int (9 : Int32)]) (rest := [.int (1 : Int32)]) ⟨hx, hb, hml, hown, hts⟩ (c_L_up l D cA (x1 >>> ((8 : Int32) &&& 31)) (9 : Int32)  (by decide)) (va_cwS 2 hts gL_told_L_up rfl rfl rfl (by decide +kernel) ⟨Nat.le_of_ble_eq_true rfl, Nat.le_of_ble_eq_true rfl⟩) (zqSR0 hK hN) rfl rfl hl.1 rfl (lv_room (Nat.le_of_ble_eq_true rfl)) dL_told_27 ⟨Nat.le_of_ble_eq_true rfl, Nat.le_of_ble_eq_true rfl⟩) ?_
  refine lv_iadd hx hb dL_told_30 ?_
  refine lv_topi (fun y_3 ey_3 => ?_)
  refine lv_istore (lv' := [(4, .int y_3), (3, .int y_2), (2, .int y_1), (0, .ref (g 0)), (1, .int x1)]) hx hb dL_told_31 hl (by decide) rfl (fun ls hl => ?_)
  obtain ⟨kc, hkc, ekc⟩ := fig9 x1
  have ey_1 : y_1 = nI kc := ey_1.trans ekc
  clear ekc
  subst ey_1
  obtain ⟨ks, hks, eks⟩ := fig9 (x1 >>> ((4 : Int32) &&& 31))
  have ey_2 : y_2 = nI ks := ey_2.trans eks
  clear eks
  subst ey_2
  obtain ⟨km, hkm, ekm⟩ := fig9 (x1 >>> ((8 : Int32) &&& 31))
  have ey_3 : y_3 = nI km := ey_3.trans ekm
  clear ekm
  subst ey_3
  refine lv_aload_n hx hb dL_told_33 rfl (lv_at hl 3 rfl) ?_
  refine lv_iconst (v := 0) hx hb dL_told_34 (by decide) ?_
  refine lv_iconst (v := 0) hx hb dL_told_35 (by decide) ?_
  refine z_Hp (wr := []) (wt := fun u => zTr cA g u) (va_runV (As := [.int (0 : Int32), .int (0 : Int32)]) (rest := []) ⟨hx, hb, hml, hown, hts⟩ (d_X9_steer l D cA g s.heap.size (0 : Int32) (0 : Int32) hR) (cwV 2 hts gL_told_X9_steer rfl rfl rfl (by decide +kernel) ⟨Nat.le_of_ble_eq_true rfl, Nat.le_of_ble_eq_true rfl⟩) (zqV (wr := []) (wc := zTr cA g t) hK hP hD hS hA hE (List.Perm.refl _) 0 rfl rfl) rfl rfl hl.1 rfl (lv_room (Nat.le_of_ble_eq_true rfl)) dL_told_36 ⟨Nat.le_of_ble_eq_true rfl, Nat.le_of_ble_eq_true rfl⟩) hP hD hS hA (List.Perm.refl _) (fun u => List.Perm.refl _) (fun r_4 t_4 H locs hp_4 hP hD hS => ?_)
  obtain ⟨er_4, hR_4⟩ := hp_4
  obtain ⟨w_4, ew_4⟩ : ∃ z : vX10, z = ((fm_steer (pmN w) w (0 : Int32) (0 : Int32))).2 := ⟨_, rfl⟩
  rw [← ew_4] at hR_4
  have hP : va_P D vwCl (zTr cA g t_4) H := hP
  have hD : va_D A (zTr cA g t_4) := hD
  refine W.widen (k := 20) (n := 115) (by omega) (by omega) ?_
  obtain ⟨hr9, hw4⟩ := ac_steer (show zcR 0 from ⟨by decide, by decide⟩) (show zsR 0 from ⟨by decide, by decide⟩) er_4 ew_4
  have hv4 : IV n w_4 := IV_c hI (ac_i3 hw4)
  have h43 := (ac_s hw4).2.2
  refine lv_pop hx hb dL_told_39 rfl ?_
  refine lv_aload_n hx hb dL_told_40 rfl (lv_at hl 3 rfl) ?_
  refine z_Hp (wr := []) (wt := fun u => zTr cA g u) (va_runV (As := []) (rest := []) ⟨hx, hb, hml, hown, hts⟩ (d_X9_wipe l D cA g H.size  hR_4) (cwV 0 hts gL_told_X9_wipe rfl rfl rfl (by decide +kernel) ⟨Nat.le_of_ble_eq_true rfl, Nat.le_of_ble_eq_true rfl⟩) (zqV (wr := []) (wc := zTr cA g t_4) hK hP hD hS hA hE (List.Perm.refl _) 0 rfl rfl) rfl rfl hl.1 rfl (lv_room (Nat.le_of_ble_eq_true rfl)) dL_told_41 ⟨Nat.le_of_ble_eq_true rfl, Nat.le_of_ble_eq_true rfl⟩) hP hD hS hA (List.Perm.refl _) (fun u => List.Perm.refl _) (fun r_5 t_5 H locs hp_5 hP hD hS => ?_)
  obtain ⟨er_5, hR_5⟩ := hp_5
  obtain ⟨w_5, ew_5⟩ : ∃ z : vX10, z = ((fm_wipe w_4)).2 := ⟨_, rfl⟩
  rw [← ew_5] at hR_5
  have hP : va_P D vwCl (zTr cA g t_5) H := hP
  have hD : va_D A (zTr cA g t_5) := hD
  refine W.widen (k := 20) (n := 115) (by omega) (by omega) ?_
  have tw5 : w_5.1 = w_4.1 := by rw [ew_5]; rfl
  have tq5 : fq w_5 = 0 := by rw [ew_5]; rfl
  refine lv_pop hx hb dL_told_44 rfl ?_
  refine lv_aload_n hx hb dL_told_45 rfl (lv_at hl 3 rfl) ?_
  refine lv_ldc2 hx hb hown (hts (.constantLong RL 169 (425201762304)) (List.mem_of_getElem? (i := 1) rfl)) dL_told_46 ?_
  refine lv_bipush (v := 48) hx hb dL_told_49 (by decide) ?_
  refine lv_iload_n hx hb dL_told_51 rfl (lv_at hl 2 rfl) ?_
  refine lv_iadd hx hb dL_told_52 ?_
  refine lv_i2l hx hb dL_told_53 rfl ?_
  refine lv_bipush (v := 24) hx hb dL_told_54 (by decide) ?_
  refine lv_lshl hx hb dL_told_56 rfl ?_
  refine lv_lor hx hb dL_told_57 ?_
  refine lv_ldc2 hx hb hown (hts (.constantLong RL 171 (7733248)) (List.mem_of_getElem? (i := 2) rfl)) dL_told_58 ?_
  refine lv_lor hx hb dL_told_61 ?_
  refine lv_bipush (v := 48) hx hb dL_told_62 (by decide) ?_
  refine lv_iload_n hx hb dL_told_64 rfl (lv_at hl 1 rfl) ?_
  refine lv_iadd hx hb dL_told_65 ?_
  refine lv_i2l hx hb dL_told_66 rfl ?_
  refine lv_bipush (v := 8) hx hb dL_told_67 (by decide) ?_
  refine lv_lshl hx hb dL_told_69 rfl ?_
  refine lv_lor hx hb dL_told_70 ?_
  refine lv_ldc2 hx hb hown (hts (.constantLong RL 173 (109)) (List.mem_of_getElem? (i := 3) rfl)) dL_told_71 ?_
  refine lv_lor hx hb dL_told_74 ?_
  refine z_Hp (wr := []) (wt := fun u => zTr cA g u) (va_runV (As := [.long (((((425201762304 : Int64) ||| ((((48 : Int32) + (nI kc)).toInt64) <<< ((24 : Int32).toInt64 &&& 63))) ||| (7733248 : Int64)) ||| ((((48 : Int32) + (nI ks)).toInt64) <<< ((8 : Int32).toInt64 &&& 63))) ||| (109 : Int64))]) (rest := []) ⟨hx, hb, hml, hown, hts⟩ (d_X9_put l D cA g H.size (((((425201762304 : Int64) ||| ((((48 : Int32) + (nI kc)).toInt64) <<< ((24 : Int32).toInt64 &&& 63))) ||| (7733248 : Int64)) ||| ((((48 : Int32) + (nI ks)).toInt64) <<< ((8 : Int32).toInt64 &&& 63))) ||| (109 : Int64)) hR_5) (cwV 1 hts gL_told_X9_put rfl rfl rfl (by decide +kernel) ⟨Nat.le_of_ble_eq_true rfl, Nat.le_of_ble_eq_true rfl⟩) (zqV (wr := []) (wc := zTr cA g t_5) hK hP hD hS hA hE (List.Perm.refl _) 0 rfl rfl) rfl rfl hl.1 rfl (lv_room (Nat.le_of_ble_eq_true rfl)) dL_told_75 ⟨Nat.le_of_ble_eq_true rfl, Nat.le_of_ble_eq_true rfl⟩) hP hD hS hA (List.Perm.refl _) (fun u => List.Perm.refl _) (fun r_6 t_6 H locs hp_6 hP hD hS => ?_)
  obtain ⟨er_6, hR_6⟩ := hp_6
  obtain ⟨w_6, ew_6⟩ : ∃ z : vX10, z = ((fm_put (nT (fq w_5)) w_5 (((((425201762304 : Int64) ||| ((((48 : Int32) + (nI kc)).toInt64) <<< ((24 : Int32).toInt64 &&& 63))) ||| (7733248 : Int64)) ||| ((((48 : Int32) + (nI ks)).toInt64) <<< ((8 : Int32).toInt64 &&& 63))) ||| (109 : Int64)))).2 := ⟨_, rfl⟩
  rw [← ew_6] at hR_6
  have hP : va_P D vwCl (zTr cA g t_6) H := hP
  have hD : va_D A (zTr cA g t_6) := hD
  refine W.widen (k := 20) (n := 115) (by omega) (by omega) ?_
  obtain ⟨tw6, -, tq6, tp6⟩ := td_p1 tq5 hkc hks ew_6
  refine lv_pop hx hb dL_told_78 rfl ?_
  refine lv_aload_n hx hb dL_told_79 rfl (lv_at hl 3 rfl) ?_
  refine z_Hp (wr := []) (wt := fun u => zTr cA g u) (va_runV (As := []) (rest := []) ⟨hx, hb, hml, hown, hts⟩ (d_X9_fault l D cA g H.size  hR_6) (cwV 0 hts gL_told_X9_fault rfl rfl rfl (by decide +kernel) ⟨Nat.le_of_ble_eq_true rfl, Nat.le_of_ble_eq_true rfl⟩) (zqV (wr := []) (wc := zTr cA g t_6) hK hP hD hS hA hE (List.Perm.refl _) 0 rfl rfl) rfl rfl hl.1 rfl (lv_room (Nat.le_of_ble_eq_true rfl)) dL_told_80 ⟨Nat.le_of_ble_eq_true rfl, Nat.le_of_ble_eq_true rfl⟩) hP hD hS hA (List.Perm.refl _) (fun u => List.Perm.refl _) (fun r_7 t_7 H locs hp_7 hP hD hS => ?_)
  obtain ⟨er_7, hR_7⟩ := hp_7
  obtain ⟨w_7, ew_7⟩ : ∃ z : vX10, z = ((fm_fault w_6)).2 := ⟨_, rfl⟩
  rw [← ew_7] at hR_7
  have hP : va_P D vwCl (zTr cA g t_7) H := hP
  have hD : va_D A (zTr cA g t_7) := hD
  refine W.widen (k := 20) (n := 115) (by omega) (by omega) ?_
  obtain ⟨tr5, tw7, -, tq7, tp7⟩ := td_f1 tq6 tp6 hkc hks er_7 ew_7
  refine lv_iconst (v := 5) hx hb dL_told_83 (by decide) ?_
  refine lv_icmp_ne (tgt := 96) hx hb dL_told_84 (by decide) (fun c_8 => ?_) (fun c_8 => ?_)
  · skip
    -- bad leaf 0
    exact (c_8 (tr5)).elim
  · skip
    refine lv_aload_n hx hb dL_told_87 rfl (lv_at hl 3 rfl) ?_
    refine z_Hp (wr := []) (wt := fun u => zTr cA g u) (va_runV (As := []) (rest := []) ⟨hx, hb, hml, hown, hts⟩ (d_X9_load l D cA g H.size  hR_7) (cwV 0 hts gL_told_X9_load rfl rfl rfl (by decide +kernel) ⟨Nat.le_of_ble_eq_true rfl, Nat.le_of_ble_eq_true rfl⟩) (zqV (wr := []) (wc := zTr cA g t_7) hK hP hD hS hA hE (List.Perm.refl _) 0 rfl rfl) rfl rfl hl.1 rfl (lv_room (Nat.le_of_ble_eq_true rfl)) dL_told_88 ⟨Nat.le_of_ble_eq_true rfl, Nat.le_of_ble_eq_true rfl⟩) hP hD hS hA (List.Perm.refl _) (fun u => List.Perm.refl _) (fun r_9 t_9 H locs hp_9 hP hD hS => ?_)
    obtain ⟨er_9, hR_9⟩ := hp_9
    obtain ⟨w_9, ew_9⟩ : ∃ z : vX10, z = ((fm_load (pmN w_7) (nT (w_7.1 3)) w_7)).2 := ⟨_, rfl⟩
    rw [← ew_9] at hR_9
    have hP : va_P D vwCl (zTr cA g t_9) H := hP
    have hD : va_D A (zTr cA g t_9) := hD
    refine W.widen (k := 40) (n := 230) (by omega) (by omega) ?_
    obtain ⟨tr9, tw9, -, tq9, tp9⟩ := td_l1 tq7 tp7 hkc hks er_9 ew_9
    refine lv_bipush (v := -3) hx hb dL_told_91 (by decide) ?_
    refine lv_icmp_eq (tgt := 98) hx hb dL_told_93 (by decide) (fun c_10 => ?_) (fun c_10 => ?_)
    · skip
      refine lv_aload_n hx hb dL_told_98 rfl (lv_at hl 3 rfl) ?_
      refine lv_bipush (v := 48) hx hb dL_told_99 (by decide) ?_
      refine lv_iload hx hb dL_told_101 (lv_at hl 0 rfl) ?_
      refine lv_iadd hx hb dL_told_103 ?_
      refine lv_i2l hx hb dL_told_104 rfl ?_
      refine lv_bipush (v := 24) hx hb dL_told_105 (by decide) ?_
      refine lv_lshl hx hb dL_told_107 rfl ?_
      refine lv_ldc2 hx hb hown (hts (.constantLong RL 185 (3866624)) (List.mem_of_getElem? (i := 4) rfl)) dL_told_108 ?_
      refine lv_lor hx hb dL_told_111 ?_
      refine lv_ldc2 hx hb hown (hts (.constantLong RL 187 (25344)) (List.mem_of_getElem? (i := 5) rfl)) dL_told_112 ?_
      refine lv_lor hx hb dL_told_115 ?_
      refine lv_bipush (v := 48) hx hb dL_told_116 (by decide) ?_
      refine lv_iload hx hb dL_told_118 (lv_at hl 0 rfl) ?_
      refine lv_iadd hx hb dL_told_120 ?_
      refine lv_i2l hx hb dL_told_121 rfl ?_
      refine lv_lor hx hb dL_told_122 ?_
      refine z_Hp (wr := []) (wt := fun u => zTr cA g u) (va_runV (As := [.long (((((((48 : Int32) + (nI km)).toInt64) <<< ((24 : Int32).toInt64 &&& 63)) ||| (3866624 : Int64)) ||| (25344 : Int64)) ||| (((48 : Int32) + (nI km)).toInt64))]) (rest := []) ⟨hx, hb, hml, hown, hts⟩ (d_X9_put l D cA g H.size (((((((48 : Int32) + (nI km)).toInt64) <<< ((24 : Int32).toInt64 &&& 63)) ||| (3866624 : Int64)) ||| (25344 : Int64)) ||| (((48 : Int32) + (nI km)).toInt64)) hR_9) (cwV 1 hts gL_told_X9_put rfl rfl rfl (by decide +kernel) ⟨Nat.le_of_ble_eq_true rfl, Nat.le_of_ble_eq_true rfl⟩) (zqV (wr := []) (wc := zTr cA g t_9) hK hP hD hS hA hE (List.Perm.refl _) 0 rfl rfl) rfl rfl hl.1 rfl (lv_room (Nat.le_of_ble_eq_true rfl)) dL_told_123 ⟨Nat.le_of_ble_eq_true rfl, Nat.le_of_ble_eq_true rfl⟩) hP hD hS hA (List.Perm.refl _) (fun u => List.Perm.refl _) (fun r_11 t_11 H locs hp_11 hP hD hS => ?_)
      obtain ⟨er_11, hR_11⟩ := hp_11
      obtain ⟨w_11, ew_11⟩ : ∃ z : vX10, z = ((fm_put (nT (fq w_9)) w_9 (((((((48 : Int32) + (nI km)).toInt64) <<< ((24 : Int32).toInt64 &&& 63)) ||| (3866624 : Int64)) ||| (25344 : Int64)) ||| (((48 : Int32) + (nI km)).toInt64)))).2 := ⟨_, rfl⟩
      rw [← ew_11] at hR_11
      have hP : va_P D vwCl (zTr cA g t_11) H := hP
      have hD : va_D A (zTr cA g t_11) := hD
      refine W.widen (k := 40) (n := 230) (by omega) (by omega) ?_
      obtain ⟨tw11, -, tq11, tp11, tn11⟩ := td_p2 tq9 tp9 hkm ew_11
      refine lv_pop hx hb dL_told_126 rfl ?_
      refine lv_aload_n hx hb dL_told_127 rfl (lv_at hl 3 rfl) ?_
      refine lv_ldc2 hx hb hown (hts (.constantLong RL 189 (1979711488)) (List.mem_of_getElem? (i := 6) rfl)) dL_told_128 ?_
      refine lv_bipush (v := 48) hx hb dL_told_131 (by decide) ?_
      refine lv_iload_n hx hb dL_told_133 rfl (lv_at hl 2 rfl) ?_
      refine lv_iadd hx hb dL_told_134 ?_
      refine lv_i2l hx hb dL_told_135 rfl ?_
      refine lv_bipush (v := 16) hx hb dL_told_136 (by decide) ?_
      refine lv_lshl hx hb dL_told_138 rfl ?_
      refine lv_lor hx hb dL_told_139 ?_
      refine lv_ldc2 hx hb hown (hts (.constantLong RL 191 (27904)) (List.mem_of_getElem? (i := 7) rfl)) dL_told_140 ?_
      refine lv_lor hx hb dL_told_143 ?_
      refine lv_bipush (v := 48) hx hb dL_told_144 (by decide) ?_
      refine lv_iload_n hx hb dL_told_146 rfl (lv_at hl 1 rfl) ?_
      refine lv_iadd hx hb dL_told_147 ?_
      refine lv_i2l hx hb dL_told_148 rfl ?_
      refine lv_lor hx hb dL_told_149 ?_
      refine z_Hp (wr := []) (wt := fun u => zTr cA g u) (va_runV (As := [.long ((((1979711488 : Int64) ||| ((((48 : Int32) + (nI kc)).toInt64) <<< ((16 : Int32).toInt64 &&& 63))) ||| (27904 : Int64)) ||| (((48 : Int32) + (nI ks)).toInt64))]) (rest := []) ⟨hx, hb, hml, hown, hts⟩ (d_X9_put l D cA g H.size ((((1979711488 : Int64) ||| ((((48 : Int32) + (nI kc)).toInt64) <<< ((16 : Int32).toInt64 &&& 63))) ||| (27904 : Int64)) ||| (((48 : Int32) + (nI ks)).toInt64)) hR_11) (cwV 1 hts gL_told_X9_put rfl rfl rfl (by decide +kernel) ⟨Nat.le_of_ble_eq_true rfl, Nat.le_of_ble_eq_true rfl⟩) (zqV (wr := []) (wc := zTr cA g t_11) hK hP hD hS hA hE (List.Perm.refl _) 0 rfl rfl) rfl rfl hl.1 rfl (lv_room (Nat.le_of_ble_eq_true rfl)) dL_told_150 ⟨Nat.le_of_ble_eq_true rfl, Nat.le_of_ble_eq_true rfl⟩) hP hD hS hA (List.Perm.refl _) (fun u => List.Perm.refl _) (fun r_12 t_12 H locs hp_12 hP hD hS => ?_)
      obtain ⟨er_12, hR_12⟩ := hp_12
      obtain ⟨w_12, ew_12⟩ : ∃ z : vX10, z = ((fm_put (nT (fq w_11)) w_11 ((((1979711488 : Int64) ||| ((((48 : Int32) + (nI kc)).toInt64) <<< ((16 : Int32).toInt64 &&& 63))) ||| (27904 : Int64)) ||| (((48 : Int32) + (nI ks)).toInt64)))).2 := ⟨_, rfl⟩
      rw [← ew_12] at hR_12
      have hP : va_P D vwCl (zTr cA g t_12) H := hP
      have hD : va_D A (zTr cA g t_12) := hD
      refine W.widen (k := 40) (n := 230) (by omega) (by omega) ?_
      obtain ⟨tw12, -, tq12, tl12, tc12, tm12⟩ := td_p3 tq11 tp11 tn11 hkc hks ew_12
      refine lv_pop hx hb dL_told_153 rfl ?_
      refine lv_aload_n hx hb dL_told_154 rfl (lv_at hl 3 rfl) ?_
      refine z_Hp (wr := []) (wt := fun u => zTr cA g u) (va_runV (As := []) (rest := []) ⟨hx, hb, hml, hown, hts⟩ (d_X9_fault l D cA g H.size  hR_12) (cwV 0 hts gL_told_X9_fault rfl rfl rfl (by decide +kernel) ⟨Nat.le_of_ble_eq_true rfl, Nat.le_of_ble_eq_true rfl⟩) (zqV (wr := []) (wc := zTr cA g t_12) hK hP hD hS hA hE (List.Perm.refl _) 0 rfl rfl) rfl rfl hl.1 rfl (lv_room (Nat.le_of_ble_eq_true rfl)) dL_told_155 ⟨Nat.le_of_ble_eq_true rfl, Nat.le_of_ble_eq_true rfl⟩) hP hD hS hA (List.Perm.refl _) (fun u => List.Perm.refl _) (fun r_13 t_13 H locs hp_13 hP hD hS => ?_)
      obtain ⟨er_13, hR_13⟩ := hp_13
      obtain ⟨w_13, ew_13⟩ : ∃ z : vX10, z = ((fm_fault w_12)).2 := ⟨_, rfl⟩
      rw [← ew_13] at hR_13
      have hP : va_P D vwCl (zTr cA g t_13) H := hP
      have hD : va_D A (zTr cA g t_13) := hD
      refine W.widen (k := 40) (n := 230) (by omega) (by omega) ?_
      obtain ⟨tr13, tw13, -, tq13, tl13, tc13, tm13⟩ := td_f2 tq12 hkc hks hkm tl12 tc12 tm12 er_13 ew_13
      have tww : w_13.1 = w_4.1 := by rw [tw13, tw12, tw11, tw9, tw7, tw6, tw5]
      refine lv_bipush (v := -6) hx hb dL_told_158 (by decide) ?_
      refine lv_icmp_ne (tgt := 222) hx hb dL_told_160 (by decide) (fun c_14 => ?_) (fun c_14 => ?_)
      · skip
        -- bad leaf 1
        exact (c_14 (tr13)).elim
      · skip
        refine lv_aload_n hx hb dL_told_163 rfl (lv_at hl 3 rfl) ?_
        refine lv_bipush (v := 20) hx hb dL_told_164 (by decide) ?_
        refine z_Ri (va_runV (As := [.int (20 : Int32)]) (rest := []) ⟨hx, hb, hml, hown, hts⟩ (d_X9_state l D cA g (20 : Int32) hR_13) (cwV 1 hts gL_told_X9_state rfl rfl rfl (by decide +kernel) ⟨Nat.le_of_ble_eq_true rfl, Nat.le_of_ble_eq_true rfl⟩) (zqVR (wr := []) (wc := zTr cA g t_13) hK hP hN (List.Perm.refl _) 0 rfl rfl) rfl rfl hl.1 rfl (lv_room (Nat.le_of_ble_eq_true rfl)) dL_told_166 ⟨Nat.le_of_ble_eq_true rfl, Nat.le_of_ble_eq_true rfl⟩) ?_
        refine lv_topi (fun v_15 ev_15 => ?_)
        rw [fs_20] at ev_15
        refine lv_bipush (v := 13) hx hb dL_told_169 (by decide) ?_
        refine lv_icmp_ne (tgt := 222) hx hb dL_told_171 (by decide) (fun c_16 => ?_) (fun c_16 => ?_)
        · skip
          -- bad leaf 2
          rw [ev_15] at c_16
          exact (c_16 (tq13)).elim
        · skip
          refine lv_aload_n hx hb dL_told_174 rfl (lv_at hl 3 rfl) ?_
          refine z_Hp (wr := []) (wt := fun u => zTr cA g u) (va_runV (As := []) (rest := []) ⟨hx, hb, hml, hown, hts⟩ (d_X9_load l D cA g H.size  hR_13) (cwV 0 hts gL_told_X9_load rfl rfl rfl (by decide +kernel) ⟨Nat.le_of_ble_eq_true rfl, Nat.le_of_ble_eq_true rfl⟩) (zqV (wr := []) (wc := zTr cA g t_13) hK hP hD hS hA hE (List.Perm.refl _) 0 rfl rfl) rfl rfl hl.1 rfl (lv_room (Nat.le_of_ble_eq_true rfl)) dL_told_175 ⟨Nat.le_of_ble_eq_true rfl, Nat.le_of_ble_eq_true rfl⟩) hP hD hS hA (List.Perm.refl _) (fun u => List.Perm.refl _) (fun r_17 t_17 H locs hp_17 hP hD hS => ?_)
          obtain ⟨er_17, hR_17⟩ := hp_17
          obtain ⟨w_17, ew_17⟩ : ∃ z : vX10, z = ((fm_load (pmN w_13) (nT (w_13.1 3)) w_13)).2 := ⟨_, rfl⟩
          rw [← ew_17] at hR_17
          have hP : va_P D vwCl (zTr cA g t_17) H := hP
          have hD : va_D A (zTr cA g t_17) := hD
          refine W.widen (k := 60) (n := 345) (by omega) (by omega) ?_
          obtain ⟨tr17, tq17, tt, ti⟩ := td_l2 (by rw [tww]; exact h43) tq13 hkc hks hkm tl13 tc13 tm13 er_17 ew_17
          have hv17 : IV n w_17 := IV_c hv4 (fun i hi => by rw [ti i (by omega) (by omega), tww])
          refine lv_iconst (v := 2) hx hb dL_told_178 (by decide) ?_
          refine lv_icmp_ne (tgt := 222) hx hb dL_told_179 (by decide) (fun c_18 => ?_) (fun c_18 => ?_)
          · skip
            -- bad leaf 3
            exact (c_18 (tr17)).elim
          · skip
            refine lv_aload_n hx hb dL_told_182 rfl (lv_at hl 3 rfl) ?_
            refine lv_bipush (v := 20) hx hb dL_told_183 (by decide) ?_
            refine z_Ri (va_runV (As := [.int (20 : Int32)]) (rest := []) ⟨hx, hb, hml, hown, hts⟩ (d_X9_state l D cA g (20 : Int32) hR_17) (cwV 1 hts gL_told_X9_state rfl rfl rfl (by decide +kernel) ⟨Nat.le_of_ble_eq_true rfl, Nat.le_of_ble_eq_true rfl⟩) (zqVR (wr := []) (wc := zTr cA g t_17) hK hP hN (List.Perm.refl _) 0 rfl rfl) rfl rfl hl.1 rfl (lv_room (Nat.le_of_ble_eq_true rfl)) dL_told_185 ⟨Nat.le_of_ble_eq_true rfl, Nat.le_of_ble_eq_true rfl⟩) ?_
            refine lv_topi (fun v_19 ev_19 => ?_)
            rw [fs_20] at ev_19
            refine lv_if_ne (tgt := 222) hx hb dL_told_188 (by decide) (fun c_20 => ?_) (fun c_20 => ?_)
            · skip
              -- bad leaf 4
              rw [ev_19] at c_20
              exact (c_20 (tq17)).elim
            · skip
              refine lv_aload_n hx hb dL_told_191 rfl (lv_at hl 3 rfl) ?_
              refine lv_iconst (v := 1) hx hb dL_told_192 (by decide) ?_
              refine z_Ri (va_runV (As := [.int (1 : Int32)]) (rest := []) ⟨hx, hb, hml, hown, hts⟩ (d_X9_state l D cA g (1 : Int32) hR_17) (cwV 1 hts gL_told_X9_state rfl rfl rfl (by decide +kernel) ⟨Nat.le_of_ble_eq_true rfl, Nat.le_of_ble_eq_true rfl⟩) (zqVR (wr := []) (wc := zTr cA g t_17) hK hP hN (List.Perm.refl _) 0 rfl rfl) rfl rfl hl.1 rfl (lv_room (Nat.le_of_ble_eq_true rfl)) dL_told_193 ⟨Nat.le_of_ble_eq_true rfl, Nat.le_of_ble_eq_true rfl⟩) ?_
              refine lv_topi (fun v_21 ev_21 => ?_)
              rw [fs_1] at ev_21
              refine lv_bipush (v := 100) hx hb dL_told_196 (by decide) ?_
              refine lv_iload_n hx hb dL_told_198 rfl (lv_at hl 2 rfl) ?_
              refine lv_imul hx hb dL_told_199 ?_
              refine lv_icmp_ne (tgt := 222) hx hb dL_told_200 (by decide) (fun c_22 => ?_) (fun c_22 => ?_)
              · skip
                -- bad leaf 5
                rw [ev_21] at c_22
                exact (c_22 ((td_cs tt).1)).elim
              · skip
                refine lv_aload_n hx hb dL_told_203 rfl (lv_at hl 3 rfl) ?_
                refine lv_iconst (v := 2) hx hb dL_told_204 (by decide) ?_
                refine z_Ri (va_runV (As := [.int (2 : Int32)]) (rest := []) ⟨hx, hb, hml, hown, hts⟩ (d_X9_state l D cA g (2 : Int32) hR_17) (cwV 1 hts gL_told_X9_state rfl rfl rfl (by decide +kernel) ⟨Nat.le_of_ble_eq_true rfl, Nat.le_of_ble_eq_true rfl⟩) (zqVR (wr := []) (wc := zTr cA g t_17) hK hP hN (List.Perm.refl _) 0 rfl rfl) rfl rfl hl.1 rfl (lv_room (Nat.le_of_ble_eq_true rfl)) dL_told_205 ⟨Nat.le_of_ble_eq_true rfl, Nat.le_of_ble_eq_true rfl⟩) ?_
                refine lv_topi (fun v_23 ev_23 => ?_)
                rw [fs_2] at ev_23
                refine lv_iload_n hx hb dL_told_208 rfl (lv_at hl 1 rfl) ?_
                refine lv_icmp_ne (tgt := 222) hx hb dL_told_209 (by decide) (fun c_24 => ?_) (fun c_24 => ?_)
                · skip
                  -- bad leaf 6
                  rw [ev_23] at c_24
                  exact (c_24 ((td_cs tt).2.1)).elim
                · skip
                  refine lv_aload_n hx hb dL_told_212 rfl (lv_at hl 3 rfl) ?_
                  refine lv_iconst (v := 4) hx hb dL_told_213 (by decide) ?_
                  refine z_Ri (va_runV (As := [.int (4 : Int32)]) (rest := []) ⟨hx, hb, hml, hown, hts⟩ (d_X9_state l D cA g (4 : Int32) hR_17) (cwV 1 hts gL_told_X9_state rfl rfl rfl (by decide +kernel) ⟨Nat.le_of_ble_eq_true rfl, Nat.le_of_ble_eq_true rfl⟩) (zqVR (wr := []) (wc := zTr cA g t_17) hK hP hN (List.Perm.refl _) 0 rfl rfl) rfl rfl hl.1 rfl (lv_room (Nat.le_of_ble_eq_true rfl)) dL_told_214 ⟨Nat.le_of_ble_eq_true rfl, Nat.le_of_ble_eq_true rfl⟩) ?_
                  refine lv_topi (fun v_25 ev_25 => ?_)
                  rw [fs_4] at ev_25
                  refine lv_iload hx hb dL_told_217 (lv_at hl 0 rfl) ?_
                  refine lv_icmp_eq (tgt := 224) hx hb dL_told_219 (by decide) (fun c_26 => ?_) (fun c_26 => ?_)
                  · skip
                    refine lv_aload_n hx hb dL_told_224 rfl (lv_at hl 3 rfl) ?_
                    refine lv_iload hx hb dL_told_225 (lv_at hl 0 rfl) ?_
                    refine z_Hp (wr := []) (wt := fun u => zTr cA g u) (va_runV (As := [.int (nI km)]) (rest := []) ⟨hx, hb, hml, hown, hts⟩ (d_X9_pass l D cA g H.size (nI km) hR_17) (cwV 1 hts gL_told_X9_pass rfl rfl rfl (by decide +kernel) ⟨Nat.le_of_ble_eq_true rfl, Nat.le_of_ble_eq_true rfl⟩) (zqV (wr := []) (wc := zTr cA g t_17) hK hP hD hS hA hE (List.Perm.refl _) 0 rfl rfl) rfl rfl hl.1 rfl (lv_room (Nat.le_of_ble_eq_true rfl)) dL_told_227 ⟨Nat.le_of_ble_eq_true rfl, Nat.le_of_ble_eq_true rfl⟩) hP hD hS hA (List.Perm.refl _) (fun u => List.Perm.refl _) (fun r_27 t_27 H locs hp_27 hP hD hS => ?_)
                    obtain ⟨er_27, hR_27⟩ := hp_27
                    obtain ⟨w_27, ew_27⟩ : ∃ z : vX10, z = ((fm_pass (pmN w_17) w_17 (nI km))).2 := ⟨_, rfl⟩
                    rw [← ew_27] at hR_27
                    have hP : va_P D vwCl (zTr cA g t_27) H := hP
                    have hD : va_D A (zTr cA g t_27) := hD
                    refine W.widen (k := 80) (n := 460) (by omega) (by omega) ?_
                    obtain ⟨ts3, ts34, ts35, ts36, hvs⟩ := td_s1 hR_17 hv17 (by omega) tt hkm ew_27
                    refine lv_pop hx hb dL_told_230 rfl ?_
                    refine lv_aload_n hx hb dL_told_231 rfl (lv_at hl 3 rfl) ?_
                    refine lv_iconst (v := 3) hx hb dL_told_232 (by decide) ?_
                    refine z_Ri (va_runV (As := [.int (3 : Int32)]) (rest := []) ⟨hx, hb, hml, hown, hts⟩ (d_X9_state l D cA g (3 : Int32) hR_27) (cwV 1 hts gL_told_X9_state rfl rfl rfl (by decide +kernel) ⟨Nat.le_of_ble_eq_true rfl, Nat.le_of_ble_eq_true rfl⟩) (zqVR (wr := []) (wc := zTr cA g t_27) hK hP hN (List.Perm.refl _) 0 rfl rfl) rfl rfl hl.1 rfl (lv_room (Nat.le_of_ble_eq_true rfl)) dL_told_233 ⟨Nat.le_of_ble_eq_true rfl, Nat.le_of_ble_eq_true rfl⟩) ?_
                    refine lv_topi (fun v_28 ev_28 => ?_)
                    rw [fs_3] at ev_28
                    refine lv_iconst (v := 1) hx hb dL_told_236 (by decide) ?_
                    have J276 : ∀ (j276_s0 : Int32) (ej276 : ((¬ (v_28 = (1 : Int32))) ∧ j276_s0 = (0 : Int32)) ∨ ((v_28 = (1 : Int32)) ∧ (¬ ((fm_course w_27.1) = ((100 : Int32) * (nI km)))) ∧ j276_s0 = (0 : Int32)) ∨ ((v_28 = (1 : Int32)) ∧ ((fm_course w_27.1) = ((100 : Int32) * (nI km))) ∧ (¬ ((fm_speed w_27.1) = (nI kc))) ∧ j276_s0 = (0 : Int32)) ∨ ((v_28 = (1 : Int32)) ∧ ((fm_course w_27.1) = ((100 : Int32) * (nI km))) ∧ ((fm_speed w_27.1) = (nI kc)) ∧ (¬ (((if w_27.1 3 = 0 then 0 else w_27.1 36)) = (nI ks))) ∧ j276_s0 = (0 : Int32)) ∨ ((v_28 = (1 : Int32)) ∧ ((fm_course w_27.1) = ((100 : Int32) * (nI km))) ∧ ((fm_speed w_27.1) = (nI kc)) ∧ (((if w_27.1 3 = 0 then 0 else w_27.1 36)) = (nI ks)) ∧ j276_s0 = (1 : Int32))), ∀ (ls : Array Slot), lv_has ls 6 [(4, .int (nI km)), (3, .int (nI ks)), (2, .int (nI kc)), (0, .ref (g 0)), (1, .int x1)] → W p l e (headSpec wsL_told ({ frames := 7, cells := 120, slots := 700, locals := 152 })).room s m (([.ref (g 0), .int x1] : List Value).toArray) below meth c H locs 80 460 Q (F0 m 276 ls [.int j276_s0]) := by
                      intro j276_s0 ej276 ls hl
                      rw [ev_28] at ej276
                      refine lv_istore (lv' := [(5, .int j276_s0), (4, .int (nI km)), (3, .int (nI ks)), (2, .int (nI kc)), (0, .ref (g 0)), (1, .int x1)]) hx hb dL_told_276 hl (by decide) rfl (fun ls hl => ?_)
                      refine lv_aload_n hx hb dL_told_278 rfl (lv_at hl 4 rfl) ?_
                      refine lv_iload_n hx hb dL_told_279 rfl (lv_at hl 2 rfl) ?_
                      refine z_Hp (wr := []) (wt := fun u => zTr cA g u) (va_runV (As := [.int (nI ks)]) (rest := []) ⟨hx, hb, hml, hown, hts⟩ (d_X9_pass l D cA g H.size (nI ks) hR_27) (cwV 1 hts gL_told_X9_pass rfl rfl rfl (by decide +kernel) ⟨Nat.le_of_ble_eq_true rfl, Nat.le_of_ble_eq_true rfl⟩) (zqV (wr := []) (wc := zTr cA g t_27) hK hP hD hS hA hE (List.Perm.refl _) 0 rfl rfl) rfl rfl hl.1 rfl (lv_room (Nat.le_of_ble_eq_true rfl)) dL_told_280 ⟨Nat.le_of_ble_eq_true rfl, Nat.le_of_ble_eq_true rfl⟩) hP hD hS hA (List.Perm.refl _) (fun u => List.Perm.refl _) (fun r_29 t_29 H locs hp_29 hP hD hS => ?_)
                      obtain ⟨er_29, hR_29⟩ := hp_29
                      obtain ⟨w_29, ew_29⟩ : ∃ z : vX10, z = ((fm_pass (pmN w_27) w_27 (nI ks))).2 := ⟨_, rfl⟩
                      rw [← ew_29] at hR_29
                      have hP : va_P D vwCl (zTr cA g t_29) H := hP
                      have hD : va_D A (zTr cA g t_29) := hD
                      refine W.widen (k := 100) (n := 575) (by omega) (by omega) ?_
                      obtain ⟨tz3, tzc, tzs, hvz⟩ := td_s2 hR_27 hvs (by omega) ts3 ts36 hks ew_29
                      refine lv_pop hx hb dL_told_283 rfl ?_
                      refine lv_iload hx hb dL_told_284 (lv_at hl 0 rfl) ?_
                      refine lv_if_eq (tgt := 322) hx hb dL_told_286 (by decide) (fun c_30 => ?_) (fun c_30 => ?_)
                      · skip
                        -- bad leaf 7
                        exact (td_j ts3 (td_c1 ts3 ts34 ts35 ts36).1 (td_c1 ts3 ts34 ts35 ts36).2.1 (td_c1 ts3 ts34 ts35 ts36).2.2 ej276 c_30).elim
                      · skip
                        refine lv_aload_n hx hb dL_told_289 rfl (lv_at hl 4 rfl) ?_
                        refine lv_iconst (v := 3) hx hb dL_told_290 (by decide) ?_
                        refine z_Ri (va_runV (As := [.int (3 : Int32)]) (rest := []) ⟨hx, hb, hml, hown, hts⟩ (d_X9_state l D cA g (3 : Int32) hR_29) (cwV 1 hts gL_told_X9_state rfl rfl rfl (by decide +kernel) ⟨Nat.le_of_ble_eq_true rfl, Nat.le_of_ble_eq_true rfl⟩) (zqVR (wr := []) (wc := zTr cA g t_29) hK hP hN (List.Perm.refl _) 0 rfl rfl) rfl rfl hl.1 rfl (lv_room (Nat.le_of_ble_eq_true rfl)) dL_told_291 ⟨Nat.le_of_ble_eq_true rfl, Nat.le_of_ble_eq_true rfl⟩) ?_
                        refine lv_topi (fun v_31 ev_31 => ?_)
                        rw [fs_3] at ev_31
                        refine lv_if_ne (tgt := 322) hx hb dL_told_294 (by decide) (fun c_32 => ?_) (fun c_32 => ?_)
                        · skip
                          -- bad leaf 8
                          rw [ev_31] at c_32
                          exact (c_32 (tz3)).elim
                        · skip
                          refine lv_aload_n hx hb dL_told_297 rfl (lv_at hl 4 rfl) ?_
                          refine lv_iconst (v := 1) hx hb dL_told_298 (by decide) ?_
                          refine z_Ri (va_runV (As := [.int (1 : Int32)]) (rest := []) ⟨hx, hb, hml, hown, hts⟩ (d_X9_state l D cA g (1 : Int32) hR_29) (cwV 1 hts gL_told_X9_state rfl rfl rfl (by decide +kernel) ⟨Nat.le_of_ble_eq_true rfl, Nat.le_of_ble_eq_true rfl⟩) (zqVR (wr := []) (wc := zTr cA g t_29) hK hP hN (List.Perm.refl _) 0 rfl rfl) rfl rfl hl.1 rfl (lv_room (Nat.le_of_ble_eq_true rfl)) dL_told_299 ⟨Nat.le_of_ble_eq_true rfl, Nat.le_of_ble_eq_true rfl⟩) ?_
                          refine lv_topi (fun v_33 ev_33 => ?_)
                          rw [fs_1] at ev_33
                          refine lv_bipush (v := 100) hx hb dL_told_302 (by decide) ?_
                          refine lv_iload hx hb dL_told_304 (lv_at hl 1 rfl) ?_
                          refine lv_imul hx hb dL_told_306 ?_
                          refine lv_icmp_ne (tgt := 322) hx hb dL_told_307 (by decide) (fun c_34 => ?_) (fun c_34 => ?_)
                          · skip
                            -- bad leaf 9
                            rw [ev_33] at c_34
                            exact (c_34 (tzc.trans ts34)).elim
                          · skip
                            refine lv_aload_n hx hb dL_told_310 rfl (lv_at hl 4 rfl) ?_
                            refine lv_iconst (v := 2) hx hb dL_told_311 (by decide) ?_
                            refine z_Ri (va_runV (As := [.int (2 : Int32)]) (rest := []) ⟨hx, hb, hml, hown, hts⟩ (d_X9_state l D cA g (2 : Int32) hR_29) (cwV 1 hts gL_told_X9_state rfl rfl rfl (by decide +kernel) ⟨Nat.le_of_ble_eq_true rfl, Nat.le_of_ble_eq_true rfl⟩) (zqVR (wr := []) (wc := zTr cA g t_29) hK hP hN (List.Perm.refl _) 0 rfl rfl) rfl rfl hl.1 rfl (lv_room (Nat.le_of_ble_eq_true rfl)) dL_told_312 ⟨Nat.le_of_ble_eq_true rfl, Nat.le_of_ble_eq_true rfl⟩) ?_
                            refine lv_topi (fun v_35 ev_35 => ?_)
                            rw [fs_2] at ev_35
                            refine lv_if_ne (tgt := 322) hx hb dL_told_315 (by decide) (fun c_36 => ?_) (fun c_36 => ?_)
                            · skip
                              -- bad leaf 10
                              rw [ev_35] at c_36
                              exact (c_36 (tzs)).elim
                            · skip
                              refine lv_iconst (v := 1) hx hb dL_told_318 (by decide) ?_
                              refine lv_goto (tgt := 323) hx hb dL_told_319 (by decide) ?_
                              have hP9 : va_P D vwCl (zTr cA g t_29) H := hP
                              have hD9 : va_D A (zTr cA g t_29) := hD
                              have hI9 : IV (n + 18) w_29 := IV_le hvz (by omega)
                              subst hQ
                              refine W.widen (k := 120) (n := 700) (by omega) (by omega) ?_
                              exact W.zret (ty := .boolean) (v := 1) hx hb hr rfl (fun t ht hW => ⟨⟨1, t_29, rfl, ⟨rfl, w_29, hR_29, hI9⟩, ⟨by rw [ht]; exact hP9, va_K.moved hW.alike hK, hD9⟩⟩, hS.F ht⟩) hS.2.2 dL_told_323
                    refine lv_icmp_ne (tgt := 275) hx hb dL_told_237 (by decide) (fun c_37 => ?_) (fun c_37 => ?_)
                    · skip
                      refine lv_iconst (v := 0) hx hb dL_told_275 (by decide) ?_
                      exact J276 _ (Or.inl ⟨c_37, rfl⟩) ls (lv_sub hl [0, 1, 2, 3, 4] rfl)
                    · skip
                      refine lv_aload_n hx hb dL_told_240 rfl (lv_at hl 3 rfl) ?_
                      refine lv_iconst (v := 1) hx hb dL_told_241 (by decide) ?_
                      refine z_Ri (va_runV (As := [.int (1 : Int32)]) (rest := []) ⟨hx, hb, hml, hown, hts⟩ (d_X9_state l D cA g (1 : Int32) hR_27) (cwV 1 hts gL_told_X9_state rfl rfl rfl (by decide +kernel) ⟨Nat.le_of_ble_eq_true rfl, Nat.le_of_ble_eq_true rfl⟩) (zqVR (wr := []) (wc := zTr cA g t_27) hK hP hN (List.Perm.refl _) 0 rfl rfl) rfl rfl hl.1 rfl (lv_room (Nat.le_of_ble_eq_true rfl)) dL_told_242 ⟨Nat.le_of_ble_eq_true rfl, Nat.le_of_ble_eq_true rfl⟩) ?_
                      refine lv_topi (fun v_38 ev_38 => ?_)
                      rw [fs_1] at ev_38
                      refine lv_bipush (v := 100) hx hb dL_told_245 (by decide) ?_
                      refine lv_iload hx hb dL_told_247 (lv_at hl 0 rfl) ?_
                      refine lv_imul hx hb dL_told_249 ?_
                      refine lv_icmp_ne (tgt := 275) hx hb dL_told_250 (by decide) (fun c_39 => ?_) (fun c_39 => ?_)
                      · skip
                        refine lv_iconst (v := 0) hx hb dL_told_275 (by decide) ?_
                        subst ev_38
                        exact J276 _ (Or.inr (Or.inl ⟨c_37, c_39, rfl⟩)) ls (lv_sub hl [0, 1, 2, 3, 4] rfl)
                      · skip
                        refine lv_aload_n hx hb dL_told_253 rfl (lv_at hl 3 rfl) ?_
                        refine lv_iconst (v := 2) hx hb dL_told_254 (by decide) ?_
                        refine z_Ri (va_runV (As := [.int (2 : Int32)]) (rest := []) ⟨hx, hb, hml, hown, hts⟩ (d_X9_state l D cA g (2 : Int32) hR_27) (cwV 1 hts gL_told_X9_state rfl rfl rfl (by decide +kernel) ⟨Nat.le_of_ble_eq_true rfl, Nat.le_of_ble_eq_true rfl⟩) (zqVR (wr := []) (wc := zTr cA g t_27) hK hP hN (List.Perm.refl _) 0 rfl rfl) rfl rfl hl.1 rfl (lv_room (Nat.le_of_ble_eq_true rfl)) dL_told_255 ⟨Nat.le_of_ble_eq_true rfl, Nat.le_of_ble_eq_true rfl⟩) ?_
                        refine lv_topi (fun v_40 ev_40 => ?_)
                        rw [fs_2] at ev_40
                        refine lv_iload_n hx hb dL_told_258 rfl (lv_at hl 2 rfl) ?_
                        refine lv_icmp_ne (tgt := 275) hx hb dL_told_259 (by decide) (fun c_41 => ?_) (fun c_41 => ?_)
                        · skip
                          refine lv_iconst (v := 0) hx hb dL_told_275 (by decide) ?_
                          subst ev_40
                          subst ev_38
                          exact J276 _ (Or.inr (Or.inr (Or.inl ⟨c_37, c_39, c_41, rfl⟩))) ls (lv_sub hl [0, 1, 2, 3, 4] rfl)
                        · skip
                          refine lv_aload_n hx hb dL_told_262 rfl (lv_at hl 3 rfl) ?_
                          refine lv_iconst (v := 4) hx hb dL_told_263 (by decide) ?_
                          refine z_Ri (va_runV (As := [.int (4 : Int32)]) (rest := []) ⟨hx, hb, hml, hown, hts⟩ (d_X9_state l D cA g (4 : Int32) hR_27) (cwV 1 hts gL_told_X9_state rfl rfl rfl (by decide +kernel) ⟨Nat.le_of_ble_eq_true rfl, Nat.le_of_ble_eq_true rfl⟩) (zqVR (wr := []) (wc := zTr cA g t_27) hK hP hN (List.Perm.refl _) 0 rfl rfl) rfl rfl hl.1 rfl (lv_room (Nat.le_of_ble_eq_true rfl)) dL_told_264 ⟨Nat.le_of_ble_eq_true rfl, Nat.le_of_ble_eq_true rfl⟩) ?_
                          refine lv_topi (fun v_42 ev_42 => ?_)
                          rw [fs_4] at ev_42
                          refine lv_iload_n hx hb dL_told_267 rfl (lv_at hl 1 rfl) ?_
                          refine lv_icmp_ne (tgt := 275) hx hb dL_told_268 (by decide) (fun c_43 => ?_) (fun c_43 => ?_)
                          · skip
                            refine lv_iconst (v := 0) hx hb dL_told_275 (by decide) ?_
                            subst ev_42
                            subst ev_40
                            subst ev_38
                            exact J276 _ (Or.inr (Or.inr (Or.inr (Or.inl ⟨c_37, c_39, c_41, c_43, rfl⟩)))) ls (lv_sub hl [0, 1, 2, 3, 4] rfl)
                          · skip
                            refine lv_iconst (v := 1) hx hb dL_told_271 (by decide) ?_
                            refine lv_goto (tgt := 276) hx hb dL_told_272 (by decide) ?_
                            subst ev_42
                            subst ev_40
                            subst ev_38
                            exact J276 _ (Or.inr (Or.inr (Or.inr (Or.inr ⟨c_37, c_39, c_41, c_43, rfl⟩)))) ls (lv_sub hl [0, 1, 2, 3, 4] rfl)
                  · skip
                    -- bad leaf 11
                    rw [ev_25] at c_26
                    exact (c_26 ((td_cs tt).2.2)).elim
    · skip
      -- bad leaf 12
      exact (c_10 (tr9)).elim
