set_option maxHeartbeats 4000000 in
set_option maxRecDepth 100000 in
theorem whole_start {p : Program} {e : Env} {s : State} {m : MethodId} {below : List Frame} {meth : Method} {c : Code} (l : Launch) (hflags : l.flags = flags0) {b L : Nat} {xs : Nat → Int32} (hL : L ≤ 260) (C0 : lw_At p s m meth c b L xs) : W p l e room_1 s m #[Value.ref b] below meth c s.heap [] 0 0 (lw_Z below #[Value.ref b] s) (entryFrame m ([Value.ref b] : List Value).toArray 5) := by
  obtain ⟨hx, hb, hr, hml, hown, hT, hX, hbl, hlocks, hgv⟩ := id C0
  have hts : ∀ w ∈ wsL_law, w.before #[Value.ref b] s = true := fun w h => hT w (wsL_law_in w h)
  obtain ⟨D, cA, hK⟩ := z_known hT
  have hE := z_env hT hgv
  have hN := hE.1
  have hbA : ¬ zAl s b := Nat.not_le.mpr hbl
  have hA : ∀ r, s.heap.size ≤ r → zAl s r := fun _ h => h
  have hS : va_S (zAl s) s.heap s.heap [] := va_S.rf
  have hP : va_P D vwCl [] s.heap := fun k q h => by simp at h
  have hD : va_D (zAl s) [] := ⟨fun i j p q h => by simp at h, fun k q h => by simp at h⟩
  have hl := lv_entry ([.ref b]) (n := 5) (Nat.le_of_ble_eq_true rfl)
  rw [lg_entry_eq]
  generalize (lg_sl ([.ref b]) ++ List.replicate (5 - (lg_sl ([.ref b])).length) Slot.unset).toArray = ls at hl ⊢
  have hl : lv_has ls 5 [(0, .ref b)] := hl
  obtain ⟨Q, hQ⟩ : ∃ Q, Q = lw_Z below #[Value.ref b] s := ⟨_, rfl⟩
  rw [← hQ]
  refine va_new (ci := 9) (fs := [.null, .null, .null, .null, .null]) (C := RX9) (T := TX9) (N := 5) hx hb hT inX9 tyX9 tyX9_ok hown (hts (.classLink RL 9 RX9) (List.mem_of_getElem? (i := 0) rfl)) (hts (.instantiable RX9 5) (List.mem_of_getElem? (i := 1) rfl)) (hts (.initialized RX9) (List.mem_of_getElem? (i := 2) rfl)) hK hP hD hS hA rfl (fun j hj => by rcases (show j = 0 ∨ j = 1 ∨ j = 2 ∨ j = 3 ∨ j = 4 by omega) with rfl | rfl | rfl | rfl | rfl <;> rfl) (Nat.le_of_ble_eq_true rfl) (Nat.le_of_ble_eq_true rfl) dL_law_0 (fun g0 H hP hD hS => ?_)
  have hP : va_P D vwCl ([] ++ [(g0, .inr (9, [.null, .null, .null, .null, .null]))]) H := hP
  have hD : va_D (zAl s) ([] ++ [(g0, .inr (9, [.null, .null, .null, .null, .null]))]) := hD
  refine lv_dup hx hb dL_law_3 rfl ?_
  refine z_Hn (wr := []) (wt := fun (u : Nat → Nat) => [] ++ wX9 cA g0 (u 0) (u 1) (u 2) (u 3) (u 4) (u 5) (u 6) (u 7) (u 8) (u 9) (u 10) (u 11) (u 12) (u 13) (u 14) (u 15) (u 16) (u 17) (u 18) (u 19) (u 20) (u 21) (u 22) (u 23) (u 24) (u 25) (u 26) (u 27) (u 28) (u 29) (u 30) (u 31) (u 32) (u 33) (u 34) (u 35) (u 36) (u 37) (u 38) (u 39) (u 40) (u 41) (u 42) (u 43) (u 44) (u 45) (u 46) (u 47) (u 48) zi_X9) (va_runI (As := []) (rest := [.ref g0]) ⟨hx, hb, hml, hown, hts⟩ (c_X9_init l D cA g0 H.size) (cwI 0 hts gL_law_X9_init rfl rfl rfl (hts (.initialized RX9) (List.mem_of_getElem? (i := 2) rfl)) (hts (.methodLink RL 11 yX9_init) (List.mem_of_getElem? (i := 4) rfl)) (hts (.instanceMethod yX9_init) (List.mem_of_getElem? (i := 5) rfl)) rfl (by decide +kernel) ⟨Nat.le_of_ble_eq_true rfl, Nat.le_of_ble_eq_true rfl⟩) (zqS hK hP hD hS hA hE (List.Perm.refl _)) rfl rfl hl.1 rfl (lv_room (Nat.le_of_ble_eq_true rfl)) dL_law_4 ⟨Nat.le_of_ble_eq_true rfl, Nat.le_of_ble_eq_true rfl⟩) hP hD hS hA (List.Perm.refl _) (fun u => List.Perm.refl _) (fun u H locs hP hD hS => ?_)
  refine lv_astore_n (lv' := [(1, .ref g0), (0, .ref b)]) hx hb dL_law_7 rfl hl (by decide) rfl (fun ls hl => ?_)
  obtain ⟨g, eg⟩ : ∃ g : Nat → Nat, g = fun k => Nat.casesOn k g0 u := ⟨_, rfl⟩
  have hP : va_P D vwCl (zTr cA g zi_T) H := by rw [eg]; exact hP
  have hD : va_D (zAl s) (zTr cA g zi_T) := by rw [eg]; exact hD
  have hg0 : g0 = g 0 := by rw [eg]; rfl
  rw [hg0] at hl
  clear eg hg0
  obtain ⟨A, hAe⟩ : ∃ A, A = zAl s := ⟨_, rfl⟩
  rw [← hAe] at hA hD hS hE hbA
  have hR0 := Rel_0
  refine W.widen (k := 50) (n := 374) (by omega) (by omega) ?_
  refine lv_iconst (v := 0) hx hb dL_law_8 (by decide) ?_
  refine lv_istore_n (lv' := [(2, .int (0 : Int32)), (1, .ref (g 0)), (0, .ref b)]) hx hb dL_law_9 rfl hl (by decide) rfl (fun ls hl => ?_)
  refine lv_aload_n hx hb dL_law_10 rfl (lv_at hl 1 rfl) ?_
  refine lv_aload_n hx hb dL_law_11 rfl (lv_at hl 2 rfl) ?_
  refine lv_iload_n hx hb dL_law_12 rfl (lv_at hl 0 rfl) ?_
  refine lv_iinc (v := (nI 1)) (lv' := [(2, .int (nI 1)), (1, .ref (g 0)), (0, .ref b)]) hx hb dL_law_13 hl (k := 0) rfl (by decide) (by decide) rfl (fun ls hl => ?_)
  refine z_Rp (va_runS (As := [.ref b, .int (nI 0)]) (rest := [.ref (g 0)]) ⟨hx, hb, hml, hown, hts⟩ (c_L_cell l b L xs (0) hL (by omega)) (va_cwS 2 hts gL_law_L_cell rfl rfl rfl (by decide +kernel) ⟨Nat.le_of_ble_eq_true rfl, Nat.le_of_ble_eq_true rfl⟩) (zpX hX hbl hbA hS) rfl rfl hl.1 rfl (lv_room (Nat.le_of_ble_eq_true rfl)) dL_law_16 ⟨show 50 + 0 ≤ 600000 from by omega, show 374 + 0 ≤ 7302250 from by omega⟩) (fun v_1 _ => ?_)
  refine z_Hp (wr := []) (wt := fun u => zTr cA g u) (va_runS (As := [.ref (g 0), .int v_1]) (rest := []) ⟨hx, hb, hml, hown, hts⟩ (c_L_refused l D cA g H.size (v_1)  hR0 rfl) (va_cwS 2 hts gL_law_L_refused rfl rfl rfl (by decide +kernel) ⟨Nat.le_of_ble_eq_true rfl, Nat.le_of_ble_eq_true rfl⟩) (zqS (wr := []) (wc := zTr cA g zi_T) hK hP hD hS hA hE (List.Perm.refl _)) rfl rfl hl.1 rfl (lv_room (Nat.le_of_ble_eq_true rfl)) dL_law_19 ⟨show 50 + 600 ≤ 600000 from by omega, show 374 + 3000 ≤ 7302250 from by omega⟩) hP hD hS hA (List.Perm.refl _) (fun u => List.Perm.refl _) (fun r_2 t_2 H locs hp_2 hP hD hS => ?_)
  obtain ⟨er_2, w_2, hR_2, hI_2⟩ := hp_2
  subst er_2
  have hP : va_P D vwCl (zTr cA g t_2) H := hP
  have hD : va_D A (zTr cA g t_2) := hD
  refine W.widen (k := 650) (n := 3374) (by omega) (by omega) ?_
  refine lv_if_ne (tgt := 27) hx hb dL_law_22 (by decide) (fun c_3 => ?_) (fun c_3 => ?_)
  · skip
    refine lv_aload_n hx hb dL_law_27 rfl (lv_at hl 2 rfl) ?_
    refine lv_iload_n hx hb dL_law_28 rfl (lv_at hl 0 rfl) ?_
    refine lv_iinc (v := (nI (1 + 1))) (lv' := [(2, .int (nI (1 + 1))), (1, .ref (g 0)), (0, .ref b)]) hx hb dL_law_29 hl (k := 0) rfl (nI_1 1) (by decide) rfl (fun ls hl => ?_)
    refine z_Rp (va_runS (As := [.ref b, .int (nI 1)]) (rest := []) ⟨hx, hb, hml, hown, hts⟩ (c_L_cell l b L xs (1) hL (by omega)) (va_cwS 2 hts gL_law_L_cell rfl rfl rfl (by decide +kernel) ⟨Nat.le_of_ble_eq_true rfl, Nat.le_of_ble_eq_true rfl⟩) (zpX hX hbl hbA hS) rfl rfl hl.1 rfl (lv_room (Nat.le_of_ble_eq_true rfl)) dL_law_32 ⟨show 650 + 0 ≤ 600000 from by omega, show 3374 + 0 ≤ 7302250 from by omega⟩) (fun v_4 _ => ?_)
    refine lv_istore_n (lv' := [(3, .int v_4), (2, .int (nI (1 + 1))), (1, .ref (g 0)), (0, .ref b)]) hx hb dL_law_35 rfl hl (by decide) rfl (fun ls hl => ?_)
    refine lv_aload_n hx hb dL_law_36 rfl (lv_at hl 2 rfl) ?_
    refine lv_iconst (v := 0) hx hb dL_law_37 (by decide) ?_
    refine lv_iconst (v := 1) hx hb dL_law_38 (by decide) ?_
    refine lv_iload_n hx hb dL_law_39 rfl (lv_at hl 0 rfl) ?_
    refine lv_bipush (v := 100) hx hb dL_law_40 (by decide) ?_
    refine z_Ri (va_runS (As := [.int v_4, .int (100 : Int32)]) (rest := [.int (1 : Int32), .int (0 : Int32), .ref (g 0)]) ⟨hx, hb, hml, hown, hts⟩ (c_L_up l D cA (v_4) (100 : Int32)  (by decide)) (va_cwS 2 hts gL_law_L_up rfl rfl rfl (by decide +kernel) ⟨Nat.le_of_ble_eq_true rfl, Nat.le_of_ble_eq_true rfl⟩) (zqSR0 hK hN) rfl rfl hl.1 rfl (lv_room (Nat.le_of_ble_eq_true rfl)) dL_law_42 ⟨show 650 + 0 ≤ 600000 from by omega, show 3374 + 0 ≤ 7302250 from by omega⟩) ?_
    refine lv_iadd hx hb dL_law_45 ?_
    refine z_Hp (wr := []) (wt := fun u => zTr cA g u) (va_runV (As := [.int (0 : Int32), .int ((1 : Int32) + (fl_up (v_4) (100 : Int32)))]) (rest := []) ⟨hx, hb, hml, hown, hts⟩ (d_X9_set l D cA g H.size (0 : Int32) ((1 : Int32) + (fl_up (v_4) (100 : Int32))) hR_2) (cwV 2 hts gL_law_X9_set rfl rfl rfl (by decide +kernel) ⟨Nat.le_of_ble_eq_true rfl, Nat.le_of_ble_eq_true rfl⟩) (zqV (wr := []) (wc := zTr cA g t_2) hK hP hD hS hA hE (List.Perm.refl _) 0 rfl rfl) rfl rfl hl.1 rfl (lv_room (Nat.le_of_ble_eq_true rfl)) dL_law_46 ⟨show 650 + 20 ≤ 600000 from by omega, show 3374 + 115 ≤ 7302250 from by omega⟩) hP hD hS hA (List.Perm.refl _) (fun u => List.Perm.refl _) (fun r_5 t_5 H locs hp_5 hP hD hS => ?_)
    obtain ⟨er_5, hR_5⟩ := hp_5
    obtain ⟨w_5, ew_5⟩ : ∃ z : vX10, z = ((fm_set (pmN w_2) w_2 (0 : Int32) ((1 : Int32) + (fl_up (v_4) (100 : Int32))))).2 := ⟨_, rfl⟩
    rw [← ew_5] at hR_5
    have hP : va_P D vwCl (zTr cA g t_5) H := hP
    have hD : va_D A (zTr cA g t_5) := hD
    refine W.widen (k := 670) (n := 3489) (by omega) (by omega) ?_
    have hI5 : IV 0 w_5 := lw_set hI_2 ew_5
    refine lv_pop hx hb dL_law_49 rfl ?_
    refine lv_aload_n hx hb dL_law_50 rfl (lv_at hl 2 rfl) ?_
    refine lv_iconst (v := 1) hx hb dL_law_51 (by decide) ?_
    refine lv_bipush (v := 100) hx hb dL_law_52 (by decide) ?_
    refine lv_iload_n hx hb dL_law_54 rfl (lv_at hl 0 rfl) ?_
    refine lv_iconst (v := 3) hx hb dL_law_55 (by decide) ?_
    refine lv_ishr hx hb dL_law_56 ?_
    refine lv_sipush (v := 900) hx hb dL_law_57 (by decide) ?_
    refine z_Ri (va_runS (As := [.int (v_4 >>> ((3 : Int32) &&& 31)), .int (900 : Int32)]) (rest := [.int (100 : Int32), .int (1 : Int32), .ref (g 0)]) ⟨hx, hb, hml, hown, hts⟩ (c_L_up l D cA (v_4 >>> ((3 : Int32) &&& 31)) (900 : Int32)  (by decide)) (va_cwS 2 hts gL_law_L_up rfl rfl rfl (by decide +kernel) ⟨Nat.le_of_ble_eq_true rfl, Nat.le_of_ble_eq_true rfl⟩) (zqSR0 hK hN) rfl rfl hl.1 rfl (lv_room (Nat.le_of_ble_eq_true rfl)) dL_law_60 ⟨show 670 + 0 ≤ 600000 from by omega, show 3489 + 0 ≤ 7302250 from by omega⟩) ?_
    refine lv_iadd hx hb dL_law_63 ?_
    refine z_Hp (wr := []) (wt := fun u => zTr cA g u) (va_runV (As := [.int (1 : Int32), .int ((100 : Int32) + (fl_up (v_4 >>> ((3 : Int32) &&& 31)) (900 : Int32)))]) (rest := []) ⟨hx, hb, hml, hown, hts⟩ (d_X9_set l D cA g H.size (1 : Int32) ((100 : Int32) + (fl_up (v_4 >>> ((3 : Int32) &&& 31)) (900 : Int32))) hR_5) (cwV 2 hts gL_law_X9_set rfl rfl rfl (by decide +kernel) ⟨Nat.le_of_ble_eq_true rfl, Nat.le_of_ble_eq_true rfl⟩) (zqV (wr := []) (wc := zTr cA g t_5) hK hP hD hS hA hE (List.Perm.refl _) 0 rfl rfl) rfl rfl hl.1 rfl (lv_room (Nat.le_of_ble_eq_true rfl)) dL_law_64 ⟨show 670 + 20 ≤ 600000 from by omega, show 3489 + 115 ≤ 7302250 from by omega⟩) hP hD hS hA (List.Perm.refl _) (fun u => List.Perm.refl _) (fun r_6 t_6 H locs hp_6 hP hD hS => ?_)
    obtain ⟨er_6, hR_6⟩ := hp_6
    obtain ⟨w_6, ew_6⟩ : ∃ z : vX10, z = ((fm_set (pmN w_5) w_5 (1 : Int32) ((100 : Int32) + (fl_up (v_4 >>> ((3 : Int32) &&& 31)) (900 : Int32))))).2 := ⟨_, rfl⟩
    rw [← ew_6] at hR_6
    have hP : va_P D vwCl (zTr cA g t_6) H := hP
    have hD : va_D A (zTr cA g t_6) := hD
    refine W.widen (k := 690) (n := 3604) (by omega) (by omega) ?_
    have hI6 : IV 0 w_6 := lw_set hI5 ew_6
    refine lv_pop hx hb dL_law_67 rfl ?_
    refine lv_aload_n hx hb dL_law_68 rfl (lv_at hl 2 rfl) ?_
    refine lv_iconst (v := 2) hx hb dL_law_69 (by decide) ?_
    refine lv_iload_n hx hb dL_law_70 rfl (lv_at hl 0 rfl) ?_
    refine lv_iconst (v := 5) hx hb dL_law_71 (by decide) ?_
    refine lv_ishr hx hb dL_law_72 ?_
    refine lv_sipush (v := 30001) hx hb dL_law_73 (by decide) ?_
    refine z_Ri (va_runS (As := [.int (v_4 >>> ((5 : Int32) &&& 31)), .int (30001 : Int32)]) (rest := [.int (2 : Int32), .ref (g 0)]) ⟨hx, hb, hml, hown, hts⟩ (c_L_up l D cA (v_4 >>> ((5 : Int32) &&& 31)) (30001 : Int32)  (by decide)) (va_cwS 2 hts gL_law_L_up rfl rfl rfl (by decide +kernel) ⟨Nat.le_of_ble_eq_true rfl, Nat.le_of_ble_eq_true rfl⟩) (zqSR0 hK hN) rfl rfl hl.1 rfl (lv_room (Nat.le_of_ble_eq_true rfl)) dL_law_76 ⟨show 690 + 0 ≤ 600000 from by omega, show 3604 + 0 ≤ 7302250 from by omega⟩) ?_
    refine z_Hp (wr := []) (wt := fun u => zTr cA g u) (va_runV (As := [.int (2 : Int32), .int (fl_up (v_4 >>> ((5 : Int32) &&& 31)) (30001 : Int32))]) (rest := []) ⟨hx, hb, hml, hown, hts⟩ (d_X9_set l D cA g H.size (2 : Int32) (fl_up (v_4 >>> ((5 : Int32) &&& 31)) (30001 : Int32)) hR_6) (cwV 2 hts gL_law_X9_set rfl rfl rfl (by decide +kernel) ⟨Nat.le_of_ble_eq_true rfl, Nat.le_of_ble_eq_true rfl⟩) (zqV (wr := []) (wc := zTr cA g t_6) hK hP hD hS hA hE (List.Perm.refl _) 0 rfl rfl) rfl rfl hl.1 rfl (lv_room (Nat.le_of_ble_eq_true rfl)) dL_law_79 ⟨show 690 + 20 ≤ 600000 from by omega, show 3604 + 115 ≤ 7302250 from by omega⟩) hP hD hS hA (List.Perm.refl _) (fun u => List.Perm.refl _) (fun r_7 t_7 H locs hp_7 hP hD hS => ?_)
    obtain ⟨er_7, hR_7⟩ := hp_7
    obtain ⟨w_7, ew_7⟩ : ∃ z : vX10, z = ((fm_set (pmN w_6) w_6 (2 : Int32) (fl_up (v_4 >>> ((5 : Int32) &&& 31)) (30001 : Int32)))).2 := ⟨_, rfl⟩
    rw [← ew_7] at hR_7
    have hP : va_P D vwCl (zTr cA g t_7) H := hP
    have hD : va_D A (zTr cA g t_7) := hD
    refine W.widen (k := 710) (n := 3719) (by omega) (by omega) ?_
    have hI7 : IV 0 w_7 := lw_set hI6 ew_7
    refine lv_pop hx hb dL_law_82 rfl ?_
    refine lv_aload_n hx hb dL_law_83 rfl (lv_at hl 2 rfl) ?_
    refine lv_bipush (v := 8) hx hb dL_law_84 (by decide) ?_
    refine lv_iload_n hx hb dL_law_86 rfl (lv_at hl 0 rfl) ?_
    refine lv_bipush (v := 7) hx hb dL_law_87 (by decide) ?_
    refine lv_ishr hx hb dL_law_89 ?_
    refine lv_bipush (v := 12) hx hb dL_law_90 (by decide) ?_
    refine z_Ri (va_runS (As := [.int (v_4 >>> ((7 : Int32) &&& 31)), .int (12 : Int32)]) (rest := [.int (8 : Int32), .ref (g 0)]) ⟨hx, hb, hml, hown, hts⟩ (c_L_up l D cA (v_4 >>> ((7 : Int32) &&& 31)) (12 : Int32)  (by decide)) (va_cwS 2 hts gL_law_L_up rfl rfl rfl (by decide +kernel) ⟨Nat.le_of_ble_eq_true rfl, Nat.le_of_ble_eq_true rfl⟩) (zqSR0 hK hN) rfl rfl hl.1 rfl (lv_room (Nat.le_of_ble_eq_true rfl)) dL_law_92 ⟨show 710 + 0 ≤ 600000 from by omega, show 3719 + 0 ≤ 7302250 from by omega⟩) ?_
    refine z_Hp (wr := []) (wt := fun u => zTr cA g u) (va_runV (As := [.int (8 : Int32), .int (fl_up (v_4 >>> ((7 : Int32) &&& 31)) (12 : Int32))]) (rest := []) ⟨hx, hb, hml, hown, hts⟩ (d_X9_set l D cA g H.size (8 : Int32) (fl_up (v_4 >>> ((7 : Int32) &&& 31)) (12 : Int32)) hR_7) (cwV 2 hts gL_law_X9_set rfl rfl rfl (by decide +kernel) ⟨Nat.le_of_ble_eq_true rfl, Nat.le_of_ble_eq_true rfl⟩) (zqV (wr := []) (wc := zTr cA g t_7) hK hP hD hS hA hE (List.Perm.refl _) 0 rfl rfl) rfl rfl hl.1 rfl (lv_room (Nat.le_of_ble_eq_true rfl)) dL_law_95 ⟨show 710 + 20 ≤ 600000 from by omega, show 3719 + 115 ≤ 7302250 from by omega⟩) hP hD hS hA (List.Perm.refl _) (fun u => List.Perm.refl _) (fun r_8 t_8 H locs hp_8 hP hD hS => ?_)
    obtain ⟨er_8, hR_8⟩ := hp_8
    obtain ⟨w_8, ew_8⟩ : ∃ z : vX10, z = ((fm_set (pmN w_7) w_7 (8 : Int32) (fl_up (v_4 >>> ((7 : Int32) &&& 31)) (12 : Int32)))).2 := ⟨_, rfl⟩
    rw [← ew_8] at hR_8
    have hP : va_P D vwCl (zTr cA g t_8) H := hP
    have hD : va_D A (zTr cA g t_8) := hD
    refine W.widen (k := 730) (n := 3834) (by omega) (by omega) ?_
    have hI8 : IV 0 w_8 := lw_set hI7 ew_8
    refine lv_pop hx hb dL_law_98 rfl ?_
    refine lv_aload_n hx hb dL_law_99 rfl (lv_at hl 2 rfl) ?_
    refine lv_iload_n hx hb dL_law_100 rfl (lv_at hl 0 rfl) ?_
    refine lv_iconst (v := 2) hx hb dL_law_101 (by decide) ?_
    refine lv_ishr hx hb dL_law_102 ?_
    refine lv_sipush (v := 141) hx hb dL_law_103 (by decide) ?_
    refine z_Ri (va_runS (As := [.int (v_4 >>> ((2 : Int32) &&& 31)), .int (141 : Int32)]) (rest := [.ref (g 0)]) ⟨hx, hb, hml, hown, hts⟩ (c_L_up l D cA (v_4 >>> ((2 : Int32) &&& 31)) (141 : Int32)  (by decide)) (va_cwS 2 hts gL_law_L_up rfl rfl rfl (by decide +kernel) ⟨Nat.le_of_ble_eq_true rfl, Nat.le_of_ble_eq_true rfl⟩) (zqSR0 hK hN) rfl rfl hl.1 rfl (lv_room (Nat.le_of_ble_eq_true rfl)) dL_law_106 ⟨show 730 + 0 ≤ 600000 from by omega, show 3834 + 0 ≤ 7302250 from by omega⟩) ?_
    refine lv_bipush (v := 70) hx hb dL_law_109 (by decide) ?_
    refine lv_isub hx hb dL_law_111 ?_
    refine z_Hp (wr := []) (wt := fun u => zTr cA g u) (va_runV (As := [.int ((fl_up (v_4 >>> ((2 : Int32) &&& 31)) (141 : Int32)) - (70 : Int32))]) (rest := []) ⟨hx, hb, hml, hown, hts⟩ (d_X9_place l D cA g H.size ((fl_up (v_4 >>> ((2 : Int32) &&& 31)) (141 : Int32)) - (70 : Int32)) hR_8) (cwV 1 hts gL_law_X9_place rfl rfl rfl (by decide +kernel) ⟨Nat.le_of_ble_eq_true rfl, Nat.le_of_ble_eq_true rfl⟩) (zqV (wr := []) (wc := zTr cA g t_8) hK hP hD hS hA hE (List.Perm.refl _) 0 rfl rfl) rfl rfl hl.1 rfl (lv_room (Nat.le_of_ble_eq_true rfl)) dL_law_112 ⟨show 730 + 20 ≤ 600000 from by omega, show 3834 + 115 ≤ 7302250 from by omega⟩) hP hD hS hA (List.Perm.refl _) (fun u => List.Perm.refl _) (fun r_9 t_9 H locs hp_9 hP hD hS => ?_)
    obtain ⟨er_9, hR_9⟩ := hp_9
    obtain ⟨w_9, ew_9⟩ : ∃ z : vX10, z = ((fm_place (pmN w_8) w_8 ((fl_up (v_4 >>> ((2 : Int32) &&& 31)) (141 : Int32)) - (70 : Int32)))).2 := ⟨_, rfl⟩
    rw [← ew_9] at hR_9
    have hP : va_P D vwCl (zTr cA g t_9) H := hP
    have hD : va_D A (zTr cA g t_9) := hD
    refine W.widen (k := 750) (n := 3949) (by omega) (by omega) ?_
    have hI9 : IV 0 w_9 := lw_place hI8 ew_9
    refine lv_pop hx hb dL_law_115 rfl ?_
    refine lv_aload_n hx hb dL_law_116 rfl (lv_at hl 2 rfl) ?_
    refine lv_iload_n hx hb dL_law_117 rfl (lv_at hl 0 rfl) ?_
    refine lv_iconst (v := 4) hx hb dL_law_118 (by decide) ?_
    refine lv_ishr hx hb dL_law_119 ?_
    refine lv_ldc hx hb hown (hts (.constant RL 33 (40001)) (List.mem_of_getElem? (i := 3) rfl)) dL_law_120 ?_
    refine z_Ri (va_runS (As := [.int (v_4 >>> ((4 : Int32) &&& 31)), .int (40001 : Int32)]) (rest := [.ref (g 0)]) ⟨hx, hb, hml, hown, hts⟩ (c_L_up l D cA (v_4 >>> ((4 : Int32) &&& 31)) (40001 : Int32)  (by decide)) (va_cwS 2 hts gL_law_L_up rfl rfl rfl (by decide +kernel) ⟨Nat.le_of_ble_eq_true rfl, Nat.le_of_ble_eq_true rfl⟩) (zqSR0 hK hN) rfl rfl hl.1 rfl (lv_room (Nat.le_of_ble_eq_true rfl)) dL_law_122 ⟨show 750 + 0 ≤ 600000 from by omega, show 3949 + 0 ≤ 7302250 from by omega⟩) ?_
    refine lv_sipush (v := 20000) hx hb dL_law_125 (by decide) ?_
    refine lv_isub hx hb dL_law_128 ?_
    refine lv_iload_n hx hb dL_law_129 rfl (lv_at hl 0 rfl) ?_
    refine lv_sipush (v := 2001) hx hb dL_law_130 (by decide) ?_
    refine z_Ri (va_runS (As := [.int v_4, .int (2001 : Int32)]) (rest := [.int ((fl_up (v_4 >>> ((4 : Int32) &&& 31)) (40001 : Int32)) - (20000 : Int32)), .ref (g 0)]) ⟨hx, hb, hml, hown, hts⟩ (c_L_up l D cA (v_4) (2001 : Int32)  (by decide)) (va_cwS 2 hts gL_law_L_up rfl rfl rfl (by decide +kernel) ⟨Nat.le_of_ble_eq_true rfl, Nat.le_of_ble_eq_true rfl⟩) (zqSR0 hK hN) rfl rfl hl.1 rfl (lv_room (Nat.le_of_ble_eq_true rfl)) dL_law_133 ⟨show 750 + 0 ≤ 600000 from by omega, show 3949 + 0 ≤ 7302250 from by omega⟩) ?_
    refine lv_sipush (v := 1000) hx hb dL_law_136 (by decide) ?_
    refine lv_isub hx hb dL_law_139 ?_
    refine z_Hp (wr := []) (wt := fun u => zTr cA g u) (va_runV (As := [.int ((fl_up (v_4 >>> ((4 : Int32) &&& 31)) (40001 : Int32)) - (20000 : Int32)), .int ((fl_up (v_4) (2001 : Int32)) - (1000 : Int32))]) (rest := []) ⟨hx, hb, hml, hown, hts⟩ (d_X9_start l D cA g H.size ((fl_up (v_4 >>> ((4 : Int32) &&& 31)) (40001 : Int32)) - (20000 : Int32)) ((fl_up (v_4) (2001 : Int32)) - (1000 : Int32)) hR_9) (cwV 2 hts gL_law_X9_start rfl rfl rfl (by decide +kernel) ⟨Nat.le_of_ble_eq_true rfl, Nat.le_of_ble_eq_true rfl⟩) (zqV (wr := []) (wc := zTr cA g t_9) hK hP hD hS hA hE (List.Perm.refl _) 0 rfl rfl) rfl rfl hl.1 rfl (lv_room (Nat.le_of_ble_eq_true rfl)) dL_law_140 ⟨show 750 + 20 ≤ 600000 from by omega, show 3949 + 115 ≤ 7302250 from by omega⟩) hP hD hS hA (List.Perm.refl _) (fun u => List.Perm.refl _) (fun r_10 t_10 H locs hp_10 hP hD hS => ?_)
    obtain ⟨er_10, hR_10⟩ := hp_10
    obtain ⟨w_10, ew_10⟩ : ∃ z : vX10, z = ((fm_start (pmN w_9) w_9 ((fl_up (v_4 >>> ((4 : Int32) &&& 31)) (40001 : Int32)) - (20000 : Int32)) ((fl_up (v_4) (2001 : Int32)) - (1000 : Int32)))).2 := ⟨_, rfl⟩
    rw [← ew_10] at hR_10
    have hP : va_P D vwCl (zTr cA g t_10) H := hP
    have hD : va_D A (zTr cA g t_10) := hD
    refine W.widen (k := 770) (n := 4064) (by omega) (by omega) ?_
    have hI10 : IV 0 w_10 := lw_st hI9 ew_10
    refine lv_pop hx hb dL_law_143 rfl ?_
    refine lv_aload_n hx hb dL_law_144 rfl (lv_at hl 2 rfl) ?_
    refine lv_aload_n hx hb dL_law_145 rfl (lv_at hl 3 rfl) ?_
    refine lv_iload_n hx hb dL_law_146 rfl (lv_at hl 1 rfl) ?_
    refine lv_iinc (v := (nI ((1 + 1) + 1))) (lv' := [(2, .int (nI ((1 + 1) + 1))), (3, .int v_4), (1, .ref (g 0)), (0, .ref b)]) hx hb dL_law_147 hl (k := 1) rfl (nI_1 (1 + 1)) (by decide) rfl (fun ls hl => ?_)
    refine z_Rp (va_runS (As := [.ref b, .int (nI (1 + 1))]) (rest := [.ref (g 0)]) ⟨hx, hb, hml, hown, hts⟩ (c_L_cell l b L xs ((1 + 1)) hL (by omega)) (va_cwS 2 hts gL_law_L_cell rfl rfl rfl (by decide +kernel) ⟨Nat.le_of_ble_eq_true rfl, Nat.le_of_ble_eq_true rfl⟩) (zpX hX hbl hbA hS) rfl rfl hl.1 rfl (lv_room (Nat.le_of_ble_eq_true rfl)) dL_law_150 ⟨show 770 + 0 ≤ 600000 from by omega, show 4064 + 0 ≤ 7302250 from by omega⟩) (fun v_11 _ => ?_)
    refine z_Ri (va_runS (As := [.ref (g 0), .int v_11]) (rest := []) ⟨hx, hb, hml, hown, hts⟩ (c_L_waves l D cA g (v_11)  hR_10 ) (va_cwS 2 hts gL_law_L_waves rfl rfl rfl (by decide +kernel) ⟨Nat.le_of_ble_eq_true rfl, Nat.le_of_ble_eq_true rfl⟩) (zqSR (wr := []) (wc := zTr cA g t_10) hK hP hN (List.Perm.refl _)) rfl rfl hl.1 rfl (lv_room (Nat.le_of_ble_eq_true rfl)) dL_law_153 ⟨show 770 + 0 ≤ 600000 from by omega, show 4064 + 0 ≤ 7302250 from by omega⟩) ?_
    refine lv_if_ne (tgt := 161) hx hb dL_law_156 (by decide) (fun c_12 => ?_) (fun c_12 => ?_)
    · skip
      refine lv_iconst (v := 0) hx hb dL_law_161 (by decide) ?_
      refine lv_istore (lv' := [(4, .int (0 : Int32)), (2, .int (nI ((1 + 1) + 1))), (3, .int v_4), (1, .ref (g 0)), (0, .ref b)]) hx hb dL_law_162 hl (by decide) rfl (fun ls hl => ?_)
      have L164 : ∀ (zn : Nat) (k : Nat) (vv : Int32) (t1 : vTv) (w1 : vX10), 20 - k < zn → (k ≤ 20) → (Rel t1 w1) → (IV (8 * k) w1) → ∀ (H : Heap) (locs : List Loc), va_P D vwCl (zTr cA g t1) H → va_D A (zTr cA g t1) → va_S A s.heap H locs → ∀ (ls : Array Slot), lv_has ls 5 [(4, .int (nI k)), (2, .int (nI (3 + 3 * k))), (3, .int vv), (1, .ref (g 0)), (0, .ref b)] → W p l e room_1 s m (#[Value.ref b]) below meth c H locs (2000 + 160 * k) (9000 + 920 * k) Q (F0 m 164 ls []) := by
        intro zn
        induction zn with
        | zero =>
          intro k vv t1 w1 hm
          exact absurd hm (Nat.not_lt_zero _)
        | succ zn ih =>
          intro k vv t1 w1 hm hk hR1 hI1 H locs hP hD hS ls hl
          refine lv_iload hx hb dL_law_164 (lv_at hl 0 rfl) ?_
          refine lv_bipush (v := 20) hx hb dL_law_166 (by decide) ?_
          refine lv_icmp_ge (tgt := 234) hx hb dL_law_168 (by decide) (fun c_13 => ?_) (fun c_13 => ?_)
          · skip
            have hk20 : k = 20 := by have := (nI_leI (a := 20) (b := k) (by decide) (by omega)).mp c_13; omega
            refine lv_aload_n hx hb dL_law_234 rfl (lv_at hl 4 rfl) ?_
            refine lv_iload_n hx hb dL_law_235 rfl (lv_at hl 1 rfl) ?_
            refine lv_iinc (v := (nI ((3 + 3 * k) + 1))) (lv' := [(2, .int (nI ((3 + 3 * k) + 1))), (4, .int (nI k)), (3, .int vv), (1, .ref (g 0)), (0, .ref b)]) hx hb dL_law_236 hl (k := 1) rfl (nI_1 (3 + 3 * k)) (by decide) rfl (fun ls hl => ?_)
            refine z_Rp (va_runS (As := [.ref b, .int (nI (3 + 3 * k))]) (rest := []) ⟨hx, hb, hml, hown, hts⟩ (c_L_cell l b L xs ((3 + 3 * k)) hL (by omega)) (va_cwS 2 hts gL_law_L_cell rfl rfl rfl (by decide +kernel) ⟨Nat.le_of_ble_eq_true rfl, Nat.le_of_ble_eq_true rfl⟩) (zpX hX hbl hbA hS) rfl rfl hl.1 rfl (lv_room (Nat.le_of_ble_eq_true rfl)) dL_law_239 ⟨show (2000 + 160 * k) + 0 ≤ 600000 from by omega, show (9000 + 920 * k) + 0 ≤ 7302250 from by omega⟩) (fun v_14 _ => ?_)
            refine lv_istore_n (lv' := [(3, .int v_14), (2, .int (nI ((3 + 3 * k) + 1))), (4, .int (nI k)), (1, .ref (g 0)), (0, .ref b)]) hx hb dL_law_242 rfl hl (by decide) rfl (fun ls hl => ?_)
            refine lv_aload_n hx hb dL_law_243 rfl (lv_at hl 3 rfl) ?_
            refine lv_iload_n hx hb dL_law_244 rfl (lv_at hl 0 rfl) ?_
            refine z_Hp (wr := []) (wt := fun u => zTr cA g u) (va_runS (As := [.ref (g 0), .int v_14]) (rest := []) ⟨hx, hb, hml, hown, hts⟩ (c_L_comes l D cA g H.size (v_14) (8 * 20) hR1 (by rw [← hk20]; exact hI1) (by omega)) (va_cwS 2 hts gL_law_L_comes rfl rfl rfl (by decide +kernel) ⟨Nat.le_of_ble_eq_true rfl, Nat.le_of_ble_eq_true rfl⟩) (zqS (wr := []) (wc := zTr cA g t1) hK hP hD hS hA hE (List.Perm.refl _)) rfl rfl hl.1 rfl (lv_room (Nat.le_of_ble_eq_true rfl)) dL_law_245 ⟨show (2000 + 160 * k) + 1600 ≤ 600000 from by omega, show (9000 + 920 * k) + 8600 ≤ 7302250 from by omega⟩) hP hD hS hA (List.Perm.refl _) (fun u => List.Perm.refl _) (fun r_15 t_15 H locs hp_15 hP hD hS => ?_)
            obtain ⟨er_15, w_15, hR_15, hI_15⟩ := hp_15
            subst er_15
            have hP : va_P D vwCl (zTr cA g t_15) H := hP
            have hD : va_D A (zTr cA g t_15) := hD
            refine W.widen (k := ((2000 + 160 * k) + 1600)) (n := ((9000 + 920 * k) + 8600)) (by omega) (by omega) ?_
            refine lv_if_eq (tgt := 292) hx hb dL_law_248 (by decide) (fun c_16 => ?_) (fun c_16 => ?_)
            · skip
              exact absurd c_16 (by decide)
            · skip
              refine lv_aload_n hx hb dL_law_251 rfl (lv_at hl 3 rfl) ?_
              refine lv_aload_n hx hb dL_law_252 rfl (lv_at hl 4 rfl) ?_
              refine lv_iload_n hx hb dL_law_253 rfl (lv_at hl 1 rfl) ?_
              refine lv_iinc (v := (nI (((3 + 3 * k) + 1) + 1))) (lv' := [(2, .int (nI (((3 + 3 * k) + 1) + 1))), (3, .int v_14), (4, .int (nI k)), (1, .ref (g 0)), (0, .ref b)]) hx hb dL_law_254 hl (k := 1) rfl (nI_1 ((3 + 3 * k) + 1)) (by decide) rfl (fun ls hl => ?_)
              refine z_Rp (va_runS (As := [.ref b, .int (nI ((3 + 3 * k) + 1))]) (rest := [.ref (g 0)]) ⟨hx, hb, hml, hown, hts⟩ (c_L_cell l b L xs (((3 + 3 * k) + 1)) hL (by omega)) (va_cwS 2 hts gL_law_L_cell rfl rfl rfl (by decide +kernel) ⟨Nat.le_of_ble_eq_true rfl, Nat.le_of_ble_eq_true rfl⟩) (zpX hX hbl hbA hS) rfl rfl hl.1 rfl (lv_room (Nat.le_of_ble_eq_true rfl)) dL_law_257 ⟨show ((2000 + 160 * k) + 1600) + 0 ≤ 600000 from by omega, show ((9000 + 920 * k) + 8600) + 0 ≤ 7302250 from by omega⟩) (fun v_17 _ => ?_)
              refine z_Hp (wr := []) (wt := fun u => zTr cA g u) (va_runS (As := [.ref (g 0), .int v_17]) (rest := []) ⟨hx, hb, hml, hown, hts⟩ (c_L_told l D cA g H.size (v_17) (8 * 20) hR_15 hI_15 (by omega)) (va_cwS 2 hts gL_law_L_told rfl rfl rfl (by decide +kernel) ⟨Nat.le_of_ble_eq_true rfl, Nat.le_of_ble_eq_true rfl⟩) (zqS (wr := []) (wc := zTr cA g t_15) hK hP hD hS hA hE (List.Perm.refl _)) rfl rfl hl.1 rfl (lv_room (Nat.le_of_ble_eq_true rfl)) dL_law_260 ⟨show ((2000 + 160 * k) + 1600) + 120 ≤ 600000 from by omega, show ((9000 + 920 * k) + 8600) + 700 ≤ 7302250 from by omega⟩) hP hD hS hA (List.Perm.refl _) (fun u => List.Perm.refl _) (fun r_18 t_18 H locs hp_18 hP hD hS => ?_)
              obtain ⟨er_18, w_18, hR_18, hI_18⟩ := hp_18
              subst er_18
              have hP : va_P D vwCl (zTr cA g t_18) H := hP
              have hD : va_D A (zTr cA g t_18) := hD
              refine W.widen (k := ((2000 + 160 * k) + 1720)) (n := ((9000 + 920 * k) + 9300)) (by omega) (by omega) ?_
              refine lv_if_eq (tgt := 292) hx hb dL_law_263 (by decide) (fun c_19 => ?_) (fun c_19 => ?_)
              · skip
                exact absurd c_19 (by decide)
              · skip
                refine lv_aload_n hx hb dL_law_266 rfl (lv_at hl 3 rfl) ?_
                refine lv_aload_n hx hb dL_law_267 rfl (lv_at hl 4 rfl) ?_
                refine lv_iload_n hx hb dL_law_268 rfl (lv_at hl 0 rfl) ?_
                refine lv_iinc (v := (nI ((((3 + 3 * k) + 1) + 1) + 1))) (lv' := [(2, .int (nI ((((3 + 3 * k) + 1) + 1) + 1))), (3, .int v_14), (4, .int (nI k)), (1, .ref (g 0)), (0, .ref b)]) hx hb dL_law_269 hl (k := 0) rfl (nI_1 (((3 + 3 * k) + 1) + 1)) (by decide) rfl (fun ls hl => ?_)
                refine z_Rp (va_runS (As := [.ref b, .int (nI (((3 + 3 * k) + 1) + 1))]) (rest := [.ref (g 0)]) ⟨hx, hb, hml, hown, hts⟩ (c_L_cell l b L xs ((((3 + 3 * k) + 1) + 1)) hL (by omega)) (va_cwS 2 hts gL_law_L_cell rfl rfl rfl (by decide +kernel) ⟨Nat.le_of_ble_eq_true rfl, Nat.le_of_ble_eq_true rfl⟩) (zpX hX hbl hbA hS) rfl rfl hl.1 rfl (lv_room (Nat.le_of_ble_eq_true rfl)) dL_law_272 ⟨show ((2000 + 160 * k) + 1720) + 0 ≤ 600000 from by omega, show ((9000 + 920 * k) + 9300) + 0 ≤ 7302250 from by omega⟩) (fun v_20 _ => ?_)
                refine z_Hp (wr := []) (wt := fun u => zTr cA g u) (va_runS (As := [.ref (g 0), .int v_20]) (rest := []) ⟨hx, hb, hml, hown, hts⟩ (c_L_back l D cA g H.size (v_20) (8 * 20 + 18) hR_18 hI_18 (by omega)) (va_cwS 2 hts gL_law_L_back rfl rfl rfl (by decide +kernel) ⟨Nat.le_of_ble_eq_true rfl, Nat.le_of_ble_eq_true rfl⟩) (zqS (wr := []) (wc := zTr cA g t_18) hK hP hD hS hA hE (List.Perm.refl _)) rfl rfl hl.1 rfl (lv_room (Nat.le_of_ble_eq_true rfl)) dL_law_275 ⟨show ((2000 + 160 * k) + 1720) + 120 ≤ 600000 from by omega, show ((9000 + 920 * k) + 9300) + 700 ≤ 7302250 from by omega⟩) hP hD hS hA (List.Perm.refl _) (fun u => List.Perm.refl _) (fun r_21 t_21 H locs hp_21 hP hD hS => ?_)
                obtain ⟨er_21, w_21, hR_21, hI_21⟩ := hp_21
                subst er_21
                have hP : va_P D vwCl (zTr cA g t_21) H := hP
                have hD : va_D A (zTr cA g t_21) := hD
                refine W.widen (k := ((2000 + 160 * k) + 1840)) (n := ((9000 + 920 * k) + 10000)) (by omega) (by omega) ?_
                refine lv_if_eq (tgt := 292) hx hb dL_law_278 (by decide) (fun c_22 => ?_) (fun c_22 => ?_)
                · skip
                  exact absurd c_22 (by decide)
                · skip
                  refine lv_aload_n hx hb dL_law_281 rfl (lv_at hl 3 rfl) ?_
                  refine z_Ri (va_runS (As := [.ref (g 0)]) (rest := []) ⟨hx, hb, hml, hown, hts⟩ (c_L_trust l D cA g   hR_21 ) (va_cwS 1 hts gL_law_L_trust rfl rfl rfl (by decide +kernel) ⟨Nat.le_of_ble_eq_true rfl, Nat.le_of_ble_eq_true rfl⟩) (zqSR (wr := []) (wc := zTr cA g t_21) hK hP hN (List.Perm.refl _)) rfl rfl hl.1 rfl (lv_room (Nat.le_of_ble_eq_true rfl)) dL_law_282 ⟨show ((2000 + 160 * k) + 1840) + 0 ≤ 600000 from by omega, show ((9000 + 920 * k) + 10000) + 0 ≤ 7302250 from by omega⟩) ?_
                  refine lv_if_eq (tgt := 292) hx hb dL_law_285 (by decide) (fun c_23 => ?_) (fun c_23 => ?_)
                  · skip
                    exact absurd c_23 (by decide)
                  · skip
                    refine lv_iconst (v := 1) hx hb dL_law_288 (by decide) ?_
                    refine lv_goto (tgt := 293) hx hb dL_law_289 (by decide) ?_
                    subst hQ
                    refine va_forget (fun q hq => by have h9 := hS.2.2 q hq; rw [hAe] at h9; exact h9) ?_
                    refine W.widen (k := 600000) (n := 7302250) (by omega) (by omega) ?_
                    exact lw_ret hx hb hr hlocks dL_law_293
          · skip
            have hk20 : k < 20 := Nat.lt_of_not_le (fun q => c_13 (nI_le q (by omega)))
            refine lv_aload_n hx hb dL_law_171 rfl (lv_at hl 4 rfl) ?_
            refine lv_iload_n hx hb dL_law_172 rfl (lv_at hl 1 rfl) ?_
            refine lv_iinc (v := (nI ((3 + 3 * k) + 1))) (lv' := [(2, .int (nI ((3 + 3 * k) + 1))), (4, .int (nI k)), (3, .int vv), (1, .ref (g 0)), (0, .ref b)]) hx hb dL_law_173 hl (k := 1) rfl (nI_1 (3 + 3 * k)) (by decide) rfl (fun ls hl => ?_)
            refine z_Rp (va_runS (As := [.ref b, .int (nI (3 + 3 * k))]) (rest := []) ⟨hx, hb, hml, hown, hts⟩ (c_L_cell l b L xs ((3 + 3 * k)) hL (by omega)) (va_cwS 2 hts gL_law_L_cell rfl rfl rfl (by decide +kernel) ⟨Nat.le_of_ble_eq_true rfl, Nat.le_of_ble_eq_true rfl⟩) (zpX hX hbl hbA hS) rfl rfl hl.1 rfl (lv_room (Nat.le_of_ble_eq_true rfl)) dL_law_176 ⟨show (2000 + 160 * k) + 0 ≤ 600000 from by omega, show (9000 + 920 * k) + 0 ≤ 7302250 from by omega⟩) (fun v_24 _ => ?_)
            refine lv_istore_n (lv' := [(3, .int v_24), (2, .int (nI ((3 + 3 * k) + 1))), (4, .int (nI k)), (1, .ref (g 0)), (0, .ref b)]) hx hb dL_law_179 rfl hl (by decide) rfl (fun ls hl => ?_)
            refine lv_aload_n hx hb dL_law_180 rfl (lv_at hl 3 rfl) ?_
            refine lv_iload_n hx hb dL_law_181 rfl (lv_at hl 0 rfl) ?_
            refine lv_aload_n hx hb dL_law_182 rfl (lv_at hl 4 rfl) ?_
            refine lv_iload_n hx hb dL_law_183 rfl (lv_at hl 1 rfl) ?_
            refine lv_iinc (v := (nI (((3 + 3 * k) + 1) + 1))) (lv' := [(2, .int (nI (((3 + 3 * k) + 1) + 1))), (3, .int v_24), (4, .int (nI k)), (1, .ref (g 0)), (0, .ref b)]) hx hb dL_law_184 hl (k := 1) rfl (nI_1 ((3 + 3 * k) + 1)) (by decide) rfl (fun ls hl => ?_)
            refine z_Rp (va_runS (As := [.ref b, .int (nI ((3 + 3 * k) + 1))]) (rest := [.int v_24, .ref (g 0)]) ⟨hx, hb, hml, hown, hts⟩ (c_L_cell l b L xs (((3 + 3 * k) + 1)) hL (by omega)) (va_cwS 2 hts gL_law_L_cell rfl rfl rfl (by decide +kernel) ⟨Nat.le_of_ble_eq_true rfl, Nat.le_of_ble_eq_true rfl⟩) (zpX hX hbl hbA hS) rfl rfl hl.1 rfl (lv_room (Nat.le_of_ble_eq_true rfl)) dL_law_187 ⟨show (2000 + 160 * k) + 0 ≤ 600000 from by omega, show (9000 + 920 * k) + 0 ≤ 7302250 from by omega⟩) (fun v_25 _ => ?_)
            refine lv_aload_n hx hb dL_law_190 rfl (lv_at hl 4 rfl) ?_
            refine lv_iload_n hx hb dL_law_191 rfl (lv_at hl 0 rfl) ?_
            refine lv_iinc (v := (nI ((((3 + 3 * k) + 1) + 1) + 1))) (lv' := [(2, .int (nI ((((3 + 3 * k) + 1) + 1) + 1))), (3, .int v_24), (4, .int (nI k)), (1, .ref (g 0)), (0, .ref b)]) hx hb dL_law_192 hl (k := 0) rfl (nI_1 (((3 + 3 * k) + 1) + 1)) (by decide) rfl (fun ls hl => ?_)
            refine z_Rp (va_runS (As := [.ref b, .int (nI (((3 + 3 * k) + 1) + 1))]) (rest := [.int v_25, .int v_24, .ref (g 0)]) ⟨hx, hb, hml, hown, hts⟩ (c_L_cell l b L xs ((((3 + 3 * k) + 1) + 1)) hL (by omega)) (va_cwS 2 hts gL_law_L_cell rfl rfl rfl (by decide +kernel) ⟨Nat.le_of_ble_eq_true rfl, Nat.le_of_ble_eq_true rfl⟩) (zpX hX hbl hbA hS) rfl rfl hl.1 rfl (lv_room (Nat.le_of_ble_eq_true rfl)) dL_law_195 ⟨show (2000 + 160 * k) + 0 ≤ 600000 from by omega, show (9000 + 920 * k) + 0 ≤ 7302250 from by omega⟩) (fun v_26 _ => ?_)
            refine z_Hp (wr := []) (wt := fun u => zTr cA g u) (va_runS (As := [.ref (g 0), .int v_24, .int v_25, .int v_26]) (rest := []) ⟨hx, hb, hml, hown, hts⟩ (c_L_act l D cA g H.size (v_24) (v_25) (v_26) (8 * k) hR1 hI1 (by omega)) (va_cwS 4 hts gL_law_L_act rfl rfl rfl (by decide +kernel) ⟨Nat.le_of_ble_eq_true rfl, Nat.le_of_ble_eq_true rfl⟩) (zqS (wr := []) (wc := zTr cA g t1) hK hP hD hS hA hE (List.Perm.refl _)) rfl rfl hl.1 rfl (lv_room (Nat.le_of_ble_eq_true rfl)) dL_law_198 ⟨show (2000 + 160 * k) + 160 ≤ 600000 from by omega, show (9000 + 920 * k) + 920 ≤ 7302250 from by omega⟩) hP hD hS hA (List.Perm.refl _) (fun u => List.Perm.refl _) (fun r_27 t_27 H locs hp_27 hP hD hS => ?_)
            obtain ⟨er_27, w_27, hR_27, hI_27⟩ := hp_27
            subst er_27
            have hP : va_P D vwCl (zTr cA g t_27) H := hP
            have hD : va_D A (zTr cA g t_27) := hD
            refine W.widen (k := ((2000 + 160 * k) + 160)) (n := ((9000 + 920 * k) + 920)) (by omega) (by omega) ?_
            refine lv_if_eq (tgt := 226) hx hb dL_law_201 (by decide) (fun c_28 => ?_) (fun c_28 => ?_)
            · skip
              exact absurd c_28 (by decide)
            · skip
              refine lv_iload hx hb dL_law_204 (lv_at hl 2 rfl) ?_
              refine lv_iconst (v := 4) hx hb dL_law_206 (by decide) ?_
              refine lv_irem hx hb dL_law_207 (by decide) ?_
              refine lv_iconst (v := 3) hx hb dL_law_208 (by decide) ?_
              have J228 : ∀ (ej228 : ((¬ (((nI k) - (nI k) / (4 : Int32) * (4 : Int32)) = (3 : Int32)))) ∨ ((((nI k) - (nI k) / (4 : Int32) * (4 : Int32)) = (3 : Int32)))), ∀ (ls : Array Slot), lv_has ls 5 [(2, .int (nI ((((3 + 3 * k) + 1) + 1) + 1))), (3, .int v_24), (4, .int (nI k)), (1, .ref (g 0)), (0, .ref b)] → W p l e room_1 s m (#[Value.ref b]) below meth c H locs ((2000 + 160 * k) + 160) ((9000 + 920 * k) + 920) Q (F0 m 228 ls []) := by
                intro ej228 ls hl
                refine lv_iinc (v := (nI (k + 1))) (lv' := [(4, .int (nI (k + 1))), (2, .int (nI ((((3 + 3 * k) + 1) + 1) + 1))), (3, .int v_24), (1, .ref (g 0)), (0, .ref b)]) hx hb dL_law_228 hl (k := 2) rfl (nI_1 k) (by decide) rfl (fun ls hl => ?_)
                refine lv_goto (tgt := 164) hx hb dL_law_231 (by decide) ?_
                have e2 : (nI ((((3 + 3 * k) + 1) + 1) + 1)) = nI (3 + 3 * (k + 1)) := congrArg nI (by omega)
                rw [e2] at hl
                refine W.widen (k := 2000 + 160 * (k + 1)) (n := 9000 + 920 * (k + 1)) (by omega) (by omega) ?_
                exact ih (k + 1) (v_24) (t_27) (w_27) (by omega) (by omega) hR_27 (IV_le hI_27 (by omega)) _ _ hP hD hS ls (lv_sub hl [0, 1, 2, 3, 4] rfl)
              refine lv_icmp_ne (tgt := 228) hx hb dL_law_209 (by decide) (fun c_29 => ?_) (fun c_29 => ?_)
              · skip
                exact J228  (Or.inl c_29) ls (lv_sub hl [0, 1, 2, 3, 4] rfl)
              · skip
                refine lv_aload_n hx hb dL_law_212 rfl (lv_at hl 3 rfl) ?_
                refine z_Ri (va_runS (As := [.ref (g 0)]) (rest := []) ⟨hx, hb, hml, hown, hts⟩ (c_L_trust l D cA g   hR_27 ) (va_cwS 1 hts gL_law_L_trust rfl rfl rfl (by decide +kernel) ⟨Nat.le_of_ble_eq_true rfl, Nat.le_of_ble_eq_true rfl⟩) (zqSR (wr := []) (wc := zTr cA g t_27) hK hP hN (List.Perm.refl _)) rfl rfl hl.1 rfl (lv_room (Nat.le_of_ble_eq_true rfl)) dL_law_213 ⟨show ((2000 + 160 * k) + 160) + 0 ≤ 600000 from by omega, show ((9000 + 920 * k) + 920) + 0 ≤ 7302250 from by omega⟩) ?_
                refine lv_if_eq (tgt := 226) hx hb dL_law_216 (by decide) (fun c_30 => ?_) (fun c_30 => ?_)
                · skip
                  exact absurd c_30 (by decide)
                · skip
                  refine lv_aload_n hx hb dL_law_219 rfl (lv_at hl 3 rfl) ?_
                  refine z_Ri (va_runS (As := [.ref (g 0)]) (rest := []) ⟨hx, hb, hml, hown, hts⟩ (c_L_sums l D cA g  (8 * k + 8) hR_27 hI_27) (va_cwS 1 hts gL_law_L_sums rfl rfl rfl (by decide +kernel) ⟨Nat.le_of_ble_eq_true rfl, Nat.le_of_ble_eq_true rfl⟩) (zqSR (wr := []) (wc := zTr cA g t_27) hK hP hN (List.Perm.refl _)) rfl rfl hl.1 rfl (lv_room (Nat.le_of_ble_eq_true rfl)) dL_law_220 ⟨show ((2000 + 160 * k) + 160) + 0 ≤ 600000 from by omega, show ((9000 + 920 * k) + 920) + 0 ≤ 7302250 from by omega⟩) ?_
                  refine lv_if_ne (tgt := 228) hx hb dL_law_223 (by decide) (fun c_31 => ?_) (fun c_31 => ?_)
                  · skip
                    exact J228  (Or.inr c_29) ls (lv_sub hl [0, 1, 2, 3, 4] rfl)
                  · skip
                    exact absurd c_31 (by decide)
      refine W.widen (k := 2000 + 160 * 0) (n := 9000 + 920 * 0) (by omega) (by omega) ?_
      exact L164 (20 + 1) (0) (v_4) (t_10) (w_10) (by omega) (by omega) hR_10 hI10 _ _ hP hD hS ls (lv_sub hl [0, 1, 2, 3, 4] rfl)
    · skip
      exact absurd c_12 (by decide)
  · skip
    exact absurd c_3 (by decide)
