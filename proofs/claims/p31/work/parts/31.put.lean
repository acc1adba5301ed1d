/-! the class's pad: what is put -/
theorem z_iim {n : Nat} (h : 0 < n) : nI n - 1 + (-1 : Int32) = nI (n - 1) - 1 := by
  rw [z_pred1 h]
  exact (Int32.sub_eq_add_neg (nI (n - 1)) 1).symm

set_option maxHeartbeats 4000000 in
set_option maxRecDepth 100000 in
theorem c_X9_put (l : Launch) (D : va_G) (cA : Nat → ClassId) (h0 h1 h2 h3 h4 h5 h6 h7 h8 h9 h10 : Nat) (sz : Nat) (v : vX4) (x1 : Int64)  : Met l yX9_put wsX9_put ({ frames := 2, cells := 0, slots := 0, locals := 50 }) (va_Pc [.ref h0, .long x1] (zPre D (zty cA) ([(h0, .inr (9, [.ref h1, .ref h2, .ref h3, .ref h4, .ref h5]))] ++ wX4 cA h5 h6 h7 h8 h9 h10 v) sz)) (va_Qi (fun (x : Int32) (u : vX4) => (x, u) = (zf_put v x1)) (fun u => zPost D (zty cA) (va_A ([(h0, .inr (9, [.ref h1, .ref h2, .ref h3, .ref h4, .ref h5]))] ++ wX4 cA h5 h6 h7 h8 h9 h10 v) sz) ([(h0, .inr (9, [.ref h1, .ref h2, .ref h3, .ref h4, .ref h5]))] ++ wX4 cA h5 h6 h7 h8 h9 h10 u)) (va_A ([(h0, .inr (9, [.ref h1, .ref h2, .ref h3, .ref h4, .ref h5]))] ++ wX4 cA h5 h6 h7 h8 h9 h10 v) sz)) 0 0 (va_A ([(h0, .inr (9, [.ref h1, .ref h2, .ref h3, .ref h4, .ref h5]))] ++ wX4 cA h5 h6 h7 h8 h9 h10 v) sz) := by
  refine Met.ofW (cc := cX9_put) (maxL := 5) (ret := (some .int)) (by decide) rfl ?_
  intro p e s m args below meth c s₁ B hml hv
  obtain ⟨rfl, hsz, hP, hK, hD0, hE⟩ := hv
  have hx := B.exec
  have hb := B.bytes
  have hr := B.returns
  have hts := atoms_spec (ws := wsX9_put) B.pre
  have hown : s.vm.findClass RX9 = some m.cls := findClass_of_methodNamed B.named
  have hlocks := B.notSynchronized
  have hinX9 : ∀ w ∈ u_ws RX9 TX9 5, w ∈ wsX9_put := fun w h => List.mem_cons_of_mem _ (List.mem_append_left _ (List.mem_append_right _ h))
  have hinX4 : ∀ w ∈ u_ws RX4 TX4 5, w ∈ wsX9_put := fun w h => List.mem_cons_of_mem _ (List.mem_append_right _ h)
  subst hsz
  have hD := hD0.self (sz := s.heap.size)
  generalize hAe : va_A ([(h0, .inr (9, [.ref h1, .ref h2, .ref h3, .ref h4, .ref h5]))] ++ wX4 cA h5 h6 h7 h8 h9 h10 v) s.heap.size = A at hD hE ⊢
  have hA : ∀ q : Nat, s.heap.size ≤ q → A q := fun q h => by rw [← hAe]; exact Or.inr h
  have hS : va_S A s.heap s.heap [] := va_S.rf
  have hN : zN s := hE.1
  have hP : va_P D vwCl [(h0, .inr (9, [.ref h1, .ref h2, .ref h3, .ref h4, .ref h5])), (h5, .inr (4, [.ref h6, .ref h7, .int v.2.2.1, .int v.2.2.2.1, .long v.2.2.2.2])), (h6, .inl ((cA 3), 80, .inl v.1)), (h7, .inr (3, [.ref h8, .ref h9, .ref h10, .int v.2.1.2.2.2])), (h8, .inl ((cA 0), 13, .inr (.inl v.2.1.1))), (h9, .inl ((cA 0), 13, .inr (.inl v.2.1.2.1))), (h10, .inl ((cA 0), 13, .inr (.inl v.2.1.2.2.1)))] s.heap := hP
  have hD : va_D A [(h0, .inr (9, [.ref h1, .ref h2, .ref h3, .ref h4, .ref h5])), (h5, .inr (4, [.ref h6, .ref h7, .int v.2.2.1, .int v.2.2.2.1, .long v.2.2.2.2])), (h6, .inl ((cA 3), 80, .inl v.1)), (h7, .inr (3, [.ref h8, .ref h9, .ref h10, .int v.2.1.2.2.2])), (h8, .inl ((cA 0), 13, .inr (.inl v.2.1.1))), (h9, .inl ((cA 0), 13, .inr (.inl v.2.1.2.1))), (h10, .inl ((cA 0), 13, .inr (.inl v.2.1.2.2.1)))] := hD
  have hl := lv_entry ([.ref h0, .long x1]) (n := 5) (Nat.le_of_ble_eq_true rfl)
  rw [lg_entry_eq]
  generalize (lg_sl ([.ref h0, .long x1]) ++ List.replicate (5 - (lg_sl ([.ref h0, .long x1])).length) Slot.unset).toArray = ls at hl ⊢
  have hl : lv_has ls 5 [(0, .ref h0), (1, .long x1)] := hl
  refine z_genQ (fun Q hQ => ?_)
  refine lv_lload_n hx hb dX9_put_0 rfl (lv_at hl 1 rfl) ?_
  refine z_Ri (va_runS (As := [.long x1]) (rest := []) ⟨hx, hb, hml, hown, hts⟩ (c_X9_countOfSigns l D cA  x1) (va_cwS 1 hts gX9_put_X9_countOfSigns rfl rfl rfl (by decide +kernel) ⟨Nat.le_of_ble_eq_true rfl, Nat.le_of_ble_eq_true rfl⟩) (zqSR0 hK hN) rfl rfl hl.1 rfl (lv_room (Nat.le_of_ble_eq_true rfl)) dX9_put_1 ⟨Nat.le_of_ble_eq_true rfl, Nat.le_of_ble_eq_true rfl⟩) ?_
  refine lv_istore_n (lv' := [(3, .int (fc_cs x1)), (0, .ref h0), (1, .long x1)]) hx hb dX9_put_4 rfl hl (by decide) rfl (fun ls hl => ?_)
  refine lv_iload_n hx hb dX9_put_5 rfl (lv_at hl 0 rfl) ?_
  refine lv_if_ne (tgt := 12) hx hb dX9_put_6 (by decide) (fun c_1 => ?_) (fun c_1 => ?_)
  · skip
    refine lv_aload_n hx hb dX9_put_12 rfl (lv_at hl 1 rfl) ?_
    refine va_get (D := D) (ci := 9) (v := .ref h5) (C := RX9) (T := TX9) (N := 5) hx hb hts hinX9 hown hK hP 0 rfl rfl 4 (by decide) (hts (.fieldLink RX9 33 "GyroTrainer" "pad" "LGyroTrainer$Pad;") (List.mem_of_getElem? (i := 1) rfl)) (fun _ h9 => h9) rfl dX9_put_13 ?_
    refine va_get (D := D) (ci := 4) (v := .int v.2.2.1) (C := RX4) (T := TX4) (N := 5) hx hb hts hinX4 hown hK hP 1 rfl rfl 2 (by decide) (hts (.fieldLink RX9 301 "GyroTrainer$Pad" "length" "I") (List.mem_of_getElem? (i := 2) rfl)) (fun _ h9 => h9) rfl dX9_put_16 ?_
    refine lv_iload_n hx hb dX9_put_19 rfl (lv_at hl 0 rfl) ?_
    refine lv_iadd hx hb dX9_put_20 ?_
    refine lv_bipush (v := 80) hx hb dX9_put_21 (by decide) ?_
    refine lv_icmp_le (tgt := 29) hx hb dX9_put_23 (by decide) (fun c_2 => ?_) (fun c_2 => ?_)
    · skip
      obtain ⟨n, hn, en⟩ := fc_cs_n x1
      rw [en] at hl
      refine lv_iload_n hx hb dX9_put_29 rfl (lv_at hl 0 rfl) ?_
      refine lv_iconst (v := 1) hx hb dX9_put_30 (by decide) ?_
      refine lv_isub hx hb dX9_put_31 ?_
      refine lv_istore (lv' := [(4, .int ((nI n) - (1 : Int32))), (3, .int (nI n)), (0, .ref h0), (1, .long x1)]) hx hb dX9_put_32 hl (by decide) rfl (fun ls hl => ?_)
      have L34 : ∀ (zn : Nat) (mm : Nat) (w : vX4), mm < zn → (mm ≤ n) → (fc_pl x1 n v = fc_pl x1 mm w) → ∀ (H : Heap) (locs : List Loc), va_P D vwCl [(h0, .inr (9, [.ref h1, .ref h2, .ref h3, .ref h4, .ref h5])), (h5, .inr (4, [.ref h6, .ref h7, .int w.2.2.1, .int w.2.2.2.1, .long w.2.2.2.2])), (h6, .inl ((cA 3), 80, .inl w.1)), (h7, .inr (3, [.ref h8, .ref h9, .ref h10, .int w.2.1.2.2.2])), (h8, .inl ((cA 0), 13, .inr (.inl w.2.1.1))), (h9, .inl ((cA 0), 13, .inr (.inl w.2.1.2.1))), (h10, .inl ((cA 0), 13, .inr (.inl w.2.1.2.2.1)))] H → va_D A [(h0, .inr (9, [.ref h1, .ref h2, .ref h3, .ref h4, .ref h5])), (h5, .inr (4, [.ref h6, .ref h7, .int w.2.2.1, .int w.2.2.2.1, .long w.2.2.2.2])), (h6, .inl ((cA 3), 80, .inl w.1)), (h7, .inr (3, [.ref h8, .ref h9, .ref h10, .int w.2.1.2.2.2])), (h8, .inl ((cA 0), 13, .inr (.inl w.2.1.1))), (h9, .inl ((cA 0), 13, .inr (.inl w.2.1.2.1))), (h10, .inl ((cA 0), 13, .inr (.inl w.2.1.2.2.1)))] → va_S A s.heap H locs → ∀ (ls : Array Slot), lv_has ls 5 [(4, .int (nI mm - 1)), (3, .int (nI n)), (0, .ref h0), (1, .long x1)] → W p l e (headSpec wsX9_put ({ frames := 2, cells := 0, slots := 0, locals := 50 })).room s m (([.ref h0, .long x1] : List Value).toArray) below meth c H locs 0 0 Q (F0 m 34 ls []) := by
        intro zn
        induction zn with
        | zero =>
          intro mm w hm
          exact absurd hm (Nat.not_lt_zero _)
        | succ zn ih =>
          intro mm w hm hm hL H locs hP hD hS ls hl
          refine lv_iload hx hb dX9_put_34 (lv_at hl 0 rfl) ?_
          refine lv_if_lt (tgt := 65) hx hb dX9_put_36 (by decide) (fun c_3 => ?_) (fun c_3 => ?_)
          · skip
            have em0 : mm = 0 := by
              refine Nat.eq_zero_of_not_pos (fun h => ?_)
              rw [z_pred1 h] at c_3
              exact nI_pos (by omega) c_3
            refine lv_aload_n hx hb dX9_put_65 rfl (lv_at hl 2 rfl) ?_
            refine va_get (D := D) (ci := 9) (v := .ref h5) (C := RX9) (T := TX9) (N := 5) hx hb hts hinX9 hown hK hP 0 rfl rfl 4 (by decide) (hts (.fieldLink RX9 33 "GyroTrainer" "pad" "LGyroTrainer$Pad;") (List.mem_of_getElem? (i := 1) rfl)) (fun _ h9 => h9) rfl dX9_put_66 ?_
            refine va_get (D := D) (ci := 4) (v := .int w.2.2.1) (C := RX4) (T := TX4) (N := 5) hx hb hts hinX4 hown hK hP 1 rfl rfl 2 (by decide) (hts (.fieldLink RX9 301 "GyroTrainer$Pad" "length" "I") (List.mem_of_getElem? (i := 2) rfl)) (fun _ h9 => h9) rfl dX9_put_69 ?_
            have e9 : (zf_put v x1) = (w.2.2.1, w) := by unfold zf_put; simp only [if_neg c_1, if_pos c_2]; rw [en, nT_nI (by omega), hL, em0] <;> rfl
            have hP9 : va_P D vwCl ([(h0, .inr (9, [.ref h1, .ref h2, .ref h3, .ref h4, .ref h5]))] ++ wX4 cA h5 h6 h7 h8 h9 h10 (w : vX4)) H := hP
            have hD9 : va_D A ([(h0, .inr (9, [.ref h1, .ref h2, .ref h3, .ref h4, .ref h5]))] ++ wX4 cA h5 h6 h7 h8 h9 h10 (w : vX4)) := hD
            subst hQ
            exact W.iret (v := w.2.2.1) hx hb hr (fun t ht hW => ⟨⟨w.2.2.1, w, rfl, e9.symm, ⟨by rw [ht]; exact hP9, va_K.moved hW.alike hK, hD9⟩⟩, hS.F ht⟩) hS.2.2 dX9_put_72
          · skip
            have hm0 : 0 < mm := Nat.pos_of_ne_zero (fun h => by subst h; exact c_3 (by decide))
            refine lv_aload_n hx hb dX9_put_39 rfl (lv_at hl 2 rfl) ?_
            refine va_get (D := D) (ci := 9) (v := .ref h5) (C := RX9) (T := TX9) (N := 5) hx hb hts hinX9 hown hK hP 0 rfl rfl 4 (by decide) (hts (.fieldLink RX9 33 "GyroTrainer" "pad" "LGyroTrainer$Pad;") (List.mem_of_getElem? (i := 1) rfl)) (fun _ h9 => h9) rfl dX9_put_40 ?_
            refine lv_lload_n hx hb dX9_put_43 rfl (lv_at hl 3 rfl) ?_
            refine lv_bipush (v := 8) hx hb dX9_put_44 (by decide) ?_
            refine lv_iload hx hb dX9_put_46 (lv_at hl 0 rfl) ?_
            refine lv_imul hx hb dX9_put_48 ?_
            refine lv_lushr hx hb dX9_put_49 rfl ?_
            refine lv_ldc2 hx hb hown (hts (.constantLong RX9 304 (255)) (List.mem_of_getElem? (i := 3) rfl)) dX9_put_50 ?_
            refine lv_land hx hb dX9_put_53 ?_
            refine lv_l2i hx hb dX9_put_54 rfl ?_
            refine lv_i2c hx hb dX9_put_55 rfl ?_
            refine z_Hv (wt := fun (u_4 : vX4) => [(h0, .inr (9, [.ref h1, .ref h2, .ref h3, .ref h4, .ref h5])), (h5, .inr (4, [.ref h6, .ref h7, .int u_4.2.2.1, .int u_4.2.2.2.1, .long u_4.2.2.2.2])), (h6, .inl ((cA 3), 80, .inl u_4.1)), (h7, .inr (3, [.ref h8, .ref h9, .ref h10, .int u_4.2.1.2.2.2])), (h8, .inl ((cA 0), 13, .inr (.inl u_4.2.1.1))), (h9, .inl ((cA 0), 13, .inr (.inl u_4.2.1.2.1))), (h10, .inl ((cA 0), 13, .inr (.inl u_4.2.1.2.2.1)))]) (va_runV (As := [.int ((((((x1.toUInt64 >>> (((8 : Int32) * (nI mm - 1)).toInt64.toUInt64 &&& Int64.toUInt64 63)).toInt64) &&& (255 : Int64)).toInt32).toUInt32 % 65536).toInt32)]) (rest := []) ⟨hx, hb, hml, hown, hts⟩ (c_X4_append l D cA h5 h6 h7 h8 h9 h10 H.size w ((((((x1.toUInt64 >>> (((8 : Int32) * (nI mm - 1)).toInt64.toUInt64 &&& Int64.toUInt64 63)).toInt64) &&& (255 : Int64)).toInt32).toUInt32 % 65536).toInt32)) (cwV 1 hts gX9_put_X4_append rfl rfl rfl (by decide +kernel) ⟨Nat.le_of_ble_eq_true rfl, Nat.le_of_ble_eq_true rfl⟩) (zqV hK hP hD hS hA hE (z_c1 (a := [(h0, .inr (9, [.ref h1, .ref h2, .ref h3, .ref h4, .ref h5]))]) (b := []) rfl) 0 rfl rfl) rfl rfl hl.1 rfl (lv_room (Nat.le_of_ble_eq_true rfl)) dX9_put_56 ⟨Nat.le_of_ble_eq_true rfl, Nat.le_of_ble_eq_true rfl⟩) hP hD hS hA (z_c1 (a := [(h0, .inr (9, [.ref h1, .ref h2, .ref h3, .ref h4, .ref h5]))]) (b := []) rfl) (fun u_4 => (z_c1' (a := [(h0, .inr (9, [.ref h1, .ref h2, .ref h3, .ref h4, .ref h5]))]) (b := []) rfl)) (fun u_4 H locs eu_4 hP hD hS => ?_)
            have hP : va_P D vwCl [(h0, .inr (9, [.ref h1, .ref h2, .ref h3, .ref h4, .ref h5])), (h5, .inr (4, [.ref h6, .ref h7, .int u_4.2.2.1, .int u_4.2.2.2.1, .long u_4.2.2.2.2])), (h6, .inl ((cA 3), 80, .inl u_4.1)), (h7, .inr (3, [.ref h8, .ref h9, .ref h10, .int u_4.2.1.2.2.2])), (h8, .inl ((cA 0), 13, .inr (.inl u_4.2.1.1))), (h9, .inl ((cA 0), 13, .inr (.inl u_4.2.1.2.1))), (h10, .inl ((cA 0), 13, .inr (.inl u_4.2.1.2.2.1)))] H := hP
            have hD : va_D A [(h0, .inr (9, [.ref h1, .ref h2, .ref h3, .ref h4, .ref h5])), (h5, .inr (4, [.ref h6, .ref h7, .int u_4.2.2.1, .int u_4.2.2.2.1, .long u_4.2.2.2.2])), (h6, .inl ((cA 3), 80, .inl u_4.1)), (h7, .inr (3, [.ref h8, .ref h9, .ref h10, .int u_4.2.1.2.2.2])), (h8, .inl ((cA 0), 13, .inr (.inl u_4.2.1.1))), (h9, .inl ((cA 0), 13, .inr (.inl u_4.2.1.2.1))), (h10, .inl ((cA 0), 13, .inr (.inl u_4.2.1.2.2.1)))] := hD
            refine lv_iinc (v := (nI (mm - 1) - 1)) (lv' := [(4, .int (nI (mm - 1) - 1)), (3, .int (nI n)), (0, .ref h0), (1, .long x1)]) hx hb dX9_put_59 hl (k := 0) rfl (z_iim hm0) (by decide) rfl (fun ls hl => ?_)
            refine lv_goto (tgt := 34) hx hb dX9_put_62 (by decide) ?_
            exact ih (mm - 1) (u_4) (by omega) (by omega) (by rw [eu_4]; exact hL.trans (fc_pl_s hm0)) _ _ hP hD hS ls (lv_sub hl [0, 1, 2, 3] rfl)
      exact L34 (n + 1) (n) (v) (by omega) (Nat.le_refl _) rfl _ _ hP hD hS ls (lv_sub hl [0, 1, 2, 3] rfl)
    · skip
      refine lv_bipush (v := -4) hx hb dX9_put_26 (by decide) ?_
      have e9 : (zf_put v x1) = ((-4 : Int32), v) := by unfold zf_put; simp only [if_neg c_1, if_neg c_2] <;> rfl
      have hP9 : va_P D vwCl ([(h0, .inr (9, [.ref h1, .ref h2, .ref h3, .ref h4, .ref h5]))] ++ wX4 cA h5 h6 h7 h8 h9 h10 (v : vX4)) s.heap := hP
      have hD9 : va_D A ([(h0, .inr (9, [.ref h1, .ref h2, .ref h3, .ref h4, .ref h5]))] ++ wX4 cA h5 h6 h7 h8 h9 h10 (v : vX4)) := hD
      subst hQ
      exact W.iret (v := (-4 : Int32)) hx hb hr (fun t ht hW => ⟨⟨(-4 : Int32), v, rfl, e9.symm, ⟨by rw [ht]; exact hP9, va_K.moved hW.alike hK, hD9⟩⟩, hS.F ht⟩) hS.2.2 dX9_put_28
  · skip
    refine lv_bipush (v := -2) hx hb dX9_put_9 (by decide) ?_
    have e9 : (zf_put v x1) = ((-2 : Int32), v) := by unfold zf_put; simp only [if_pos c_1] <;> rfl
    have hP9 : va_P D vwCl ([(h0, .inr (9, [.ref h1, .ref h2, .ref h3, .ref h4, .ref h5]))] ++ wX4 cA h5 h6 h7 h8 h9 h10 (v : vX4)) s.heap := hP
    have hD9 : va_D A ([(h0, .inr (9, [.ref h1, .ref h2, .ref h3, .ref h4, .ref h5]))] ++ wX4 cA h5 h6 h7 h8 h9 h10 (v : vX4)) := hD
    subst hQ
    exact W.iret (v := (-2 : Int32)) hx hb hr (fun t ht hW => ⟨⟨(-2 : Int32), v, rfl, e9.symm, ⟨by rw [ht]; exact hP9, va_K.moved hW.alike hK, hD9⟩⟩, hS.F ht⟩) hS.2.2 dX9_put_11
