/-! the numbers that the class tells -/
def zf_voy (S : vX7) (x : Int32) : Int32 :=
  if x = 0 then S.2.2.2.2.2.1.toInt32 else if x = 1 then S.2.1.2.2.1.toInt32 else if x = 2 then S.2.1.2.2.2.1.toInt32 else if x = 3 then S.2.1.1.2.2.2
  else if x = 4 then (zf_left S.2.1).toInt32 else if x = 5 then S.2.1.2.2.2.2.toInt32 else if x = 6 then S.2.2.1.2.2.2.2.2.1 else if x = 7 then (zf_since S).toInt32 else -2

set_option maxHeartbeats 4000000 in
set_option maxRecDepth 100000 in
theorem c_X9_voyageNumber (l : Launch) (D : va_G) (cA : Nat → ClassId) (h0 h1 h2 h3 h4 h5 h6 h7 h8 h9 h10 h11 h12 h13 h14 h15 h16 h17 h18 h19 h20 h21 h22 h23 h24 : Nat) (S : vX7) (x1 : Int32)  : Met l yX9_voyageNumber wsX9_voyageNumber ({ frames := 2, cells := 0, slots := 0, locals := 41 }) (va_Pc [.ref h0, .int x1] (zPreR D (zty cA) ([(h0, .inr (9, [.ref h5, .ref h1, .ref h2, .ref h3, .ref h4]))] ++ wX7 cA h5 h6 h7 h8 h9 h10 h11 h12 h13 h14 h15 h16 h17 h18 h19 h20 h21 h22 h23 h24 S))) (vp_Si (fun x => x = (zf_voy S x1))) 0 0 (fun _ => False) := by
  refine Met.ofW (cc := cX9_voyageNumber) (maxL := 2) (ret := (some .int)) (by decide) rfl ?_
  intro p e s m args below meth c s₁ B hml hv
  obtain ⟨rfl, hP, hK, hN⟩ := hv
  have hx := B.exec
  have hb := B.bytes
  have hr := B.returns
  have hts := atoms_spec (ws := wsX9_voyageNumber) B.pre
  have hown : s.vm.findClass RX9 = some m.cls := findClass_of_methodNamed B.named
  have hlocks := B.notSynchronized
  have hinX9 : ∀ w ∈ u_ws RX9 TX9 5, w ∈ wsX9_voyageNumber := fun w h => List.mem_cons_of_mem _ (List.mem_append_left _ (List.mem_append_left _ (List.mem_append_left _ (List.mem_append_left _ (List.mem_append_right _ h)))))
  have hinX7 : ∀ w ∈ u_ws RX7 TX7 8, w ∈ wsX9_voyageNumber := fun w h => List.mem_cons_of_mem _ (List.mem_append_left _ (List.mem_append_left _ (List.mem_append_left _ (List.mem_append_right _ h))))
  have hinX5 : ∀ w ∈ u_ws RX5 TX5 5, w ∈ wsX9_voyageNumber := fun w h => List.mem_cons_of_mem _ (List.mem_append_left _ (List.mem_append_left _ (List.mem_append_right _ h)))
  have hinX3 : ∀ w ∈ u_ws RX3 TX3 4, w ∈ wsX9_voyageNumber := fun w h => List.mem_cons_of_mem _ (List.mem_append_left _ (List.mem_append_right _ h))
  have hinX0 : ∀ w ∈ u_ws RX0 TX0 7, w ∈ wsX9_voyageNumber := fun w h => List.mem_cons_of_mem _ (List.mem_append_right _ h)
  have hP : va_P D vwCl [(h0, .inr (9, [.ref h5, .ref h1, .ref h2, .ref h3, .ref h4])), (h5, .inr (7, [.ref h6, .ref h7, .ref h12, .ref h14, .ref h21, .long S.2.2.2.2.2.1, .int S.2.2.2.2.2.2.1, .long S.2.2.2.2.2.2.2])), (h6, .inl ((cA 0), 9, .inr (.inl S.1))), (h7, .inr (5, [.ref h8, .long S.2.1.2.1, .long S.2.1.2.2.1, .long S.2.1.2.2.2.1, .long S.2.1.2.2.2.2])), (h8, .inr (3, [.ref h9, .ref h10, .ref h11, .int S.2.1.1.2.2.2])), (h9, .inl ((cA 0), 8, .inr (.inl S.2.1.1.1))), (h10, .inl ((cA 0), 8, .inr (.inl S.2.1.1.2.1))), (h11, .inl ((cA 0), 8, .inr (.inl S.2.1.1.2.2.1))), (h12, .inr (0, [.ref h13, .long S.2.2.1.2.1, .long S.2.2.1.2.2.1, .int S.2.2.1.2.2.2.1, .int S.2.2.1.2.2.2.2.1, .int S.2.2.1.2.2.2.2.2.1, .long S.2.2.1.2.2.2.2.2.2])), (h13, .inl ((cA 0), 5, .inr (.inl S.2.2.1.1))), (h14, .inr (8, [.ref h15, .ref h17, .ref h19, .long S.2.2.2.1.2.2.2.1, .int S.2.2.2.1.2.2.2.2.1, .int S.2.2.2.1.2.2.2.2.2])), (h15, .inr (2, [.ref h16, .int S.2.2.2.1.1.2])), (h16, .inl ((cA 0), 8, .inr (.inl S.2.2.2.1.1.1))), (h17, .inr (2, [.ref h18, .int S.2.2.2.1.2.1.2])), (h18, .inl ((cA 0), 8, .inr (.inl S.2.2.2.1.2.1.1))), (h19, .inr (2, [.ref h20, .int S.2.2.2.1.2.2.1.2])), (h20, .inl ((cA 0), 8, .inr (.inl S.2.2.2.1.2.2.1.1))), (h21, .inr (6, [.ref h22, .ref h23, .int S.2.2.2.2.1.2.2.1, .int S.2.2.2.2.1.2.2.2])), (h22, .inl ((cA 0), 6, .inr (.inl S.2.2.2.2.1.1))), (h23, .inr (2, [.ref h24, .int S.2.2.2.2.1.2.1.2])), (h24, .inl ((cA 0), 5, .inr (.inl S.2.2.2.2.1.2.1.1)))] s.heap := hP
  have hl := lv_entry ([.ref h0, .int x1]) (n := 2) (Nat.le_of_ble_eq_true rfl)
  rw [lg_entry_eq]
  generalize (lg_sl ([.ref h0, .int x1]) ++ List.replicate (2 - (lg_sl ([.ref h0, .int x1])).length) Slot.unset).toArray = ls at hl ⊢
  have hl : lv_has ls 2 [(0, .ref h0), (1, .int x1)] := hl
  refine z_genQ (fun Q hQ => ?_)
  refine lv_iload_n hx hb dX9_voyageNumber_0 rfl (lv_at hl 1 rfl) ?_
  rcases z_sw x1 0 7 with c_1 | ⟨j, hj, c_1⟩
  · skip
    refine lv_tableOut (tgt := 139) hx hb dX9_voyageNumber_1 c_1 (by decide) ?_
    refine lv_bipush (v := -2) hx hb dX9_voyageNumber_139 (by decide) ?_
    have e9 : (zf_voy S x1) = (-2 : Int32) := by unfold zf_voy; simp only [if_neg (z_out c_1 (0 : Int32) (by decide)), if_neg (z_out c_1 (1 : Int32) (by decide)), if_neg (z_out c_1 (2 : Int32) (by decide)), if_neg (z_out c_1 (3 : Int32) (by decide)), if_neg (z_out c_1 (4 : Int32) (by decide)), if_neg (z_out c_1 (5 : Int32) (by decide)), if_neg (z_out c_1 (6 : Int32) (by decide)), if_neg (z_out c_1 (7 : Int32) (by decide))] <;> rfl
    subst hQ
    exact W.iret (v := (-2 : Int32)) hx hb hr (fun t ht hW => ⟨_, rfl, e9.symm, ht⟩) (fun q h => by cases h) dX9_voyageNumber_141
  · skip
    have hj2 : j = 0 ∨ j = 1 ∨ j = 2 ∨ j = 3 ∨ j = 4 ∨ j = 5 ∨ j = 6 ∨ j = 7 := by omega
    rcases hj2 with rfl | rfl | rfl | rfl | rfl | rfl | rfl | rfl
    · skip
      have c_1 : x1 = 0 := c_1.trans (by decide)
      refine lv_tableIn (tgt := 48) (off := 47) hx hb dX9_voyageNumber_1 (by rw [c_1]; decide) (by rw [c_1]; decide) (by rw [c_1]; decide) (by decide) ?_
      refine lv_aload_n hx hb dX9_voyageNumber_48 rfl (lv_at hl 0 rfl) ?_
      refine va_get (D := D) (ci := 9) (v := .ref h5) (C := RX9) (T := TX9) (N := 5) hx hb hts hinX9 hown hK hP 0 rfl rfl 0 (by decide) (hts (.fieldLink RX9 10 "GyroTrainer" "now" "LGyroTrainer$State;") (List.mem_of_getElem? (i := 1) rfl)) (fun _ h9 => h9) rfl dX9_voyageNumber_49 ?_
      refine va_get (D := D) (ci := 7) (v := .long S.2.2.2.2.2.1) (C := RX7) (T := TX7) (N := 8) hx hb hts hinX7 hown hK hP 1 rfl rfl 5 (by decide) (hts (.fieldLink RX9 147 "GyroTrainer$State" "time" "J") (List.mem_of_getElem? (i := 2) rfl)) (fun _ h9 => h9) rfl dX9_voyageNumber_52 ?_
      refine lv_l2i hx hb dX9_voyageNumber_55 rfl ?_
      have e9 : (zf_voy S x1) = (S.2.2.2.2.2.1.toInt32) := by unfold zf_voy; simp only [if_pos c_1] <;> rfl
      subst hQ
      exact W.iret (v := (S.2.2.2.2.2.1.toInt32)) hx hb hr (fun t ht hW => ⟨_, rfl, e9.symm, ht⟩) (fun q h => by cases h) dX9_voyageNumber_56
    · skip
      have c_1 : x1 = 1 := c_1.trans (by decide)
      refine lv_tableIn (tgt := 57) (off := 56) hx hb dX9_voyageNumber_1 (by rw [c_1]; decide) (by rw [c_1]; decide) (by rw [c_1]; decide) (by decide) ?_
      refine lv_aload_n hx hb dX9_voyageNumber_57 rfl (lv_at hl 0 rfl) ?_
      refine va_get (D := D) (ci := 9) (v := .ref h5) (C := RX9) (T := TX9) (N := 5) hx hb hts hinX9 hown hK hP 0 rfl rfl 0 (by decide) (hts (.fieldLink RX9 10 "GyroTrainer" "now" "LGyroTrainer$State;") (List.mem_of_getElem? (i := 1) rfl)) (fun _ h9 => h9) rfl dX9_voyageNumber_58 ?_
      refine va_get (D := D) (ci := 7) (v := .ref h7) (C := RX7) (T := TX7) (N := 8) hx hb hts hinX7 hown hK hP 1 rfl rfl 1 (by decide) (hts (.fieldLink RX9 91 "GyroTrainer$State" "ship" "LGyroTrainer$Ship;") (List.mem_of_getElem? (i := 3) rfl)) (fun _ h9 => h9) rfl dX9_voyageNumber_61 ?_
      refine va_get (D := D) (ci := 5) (v := .long S.2.1.2.2.1) (C := RX5) (T := TX5) (N := 5) hx hb hts hinX5 hown hK hP 3 rfl rfl 2 (by decide) (hts (.fieldLink RX9 134 "GyroTrainer$Ship" "course" "J") (List.mem_of_getElem? (i := 4) rfl)) (fun _ h9 => h9) rfl dX9_voyageNumber_64 ?_
      refine lv_l2i hx hb dX9_voyageNumber_67 rfl ?_
      have e9 : (zf_voy S x1) = (S.2.1.2.2.1.toInt32) := by unfold zf_voy; simp only [if_neg (show ¬ x1 = (0 : Int32) from fun h => absurd (c_1.symm.trans h) (by decide)), if_pos c_1] <;> rfl
      subst hQ
      exact W.iret (v := (S.2.1.2.2.1.toInt32)) hx hb hr (fun t ht hW => ⟨_, rfl, e9.symm, ht⟩) (fun q h => by cases h) dX9_voyageNumber_68
    · skip
      have c_1 : x1 = 2 := c_1.trans (by decide)
      refine lv_tableIn (tgt := 69) (off := 68) hx hb dX9_voyageNumber_1 (by rw [c_1]; decide) (by rw [c_1]; decide) (by rw [c_1]; decide) (by decide) ?_
      refine lv_aload_n hx hb dX9_voyageNumber_69 rfl (lv_at hl 0 rfl) ?_
      refine va_get (D := D) (ci := 9) (v := .ref h5) (C := RX9) (T := TX9) (N := 5) hx hb hts hinX9 hown hK hP 0 rfl rfl 0 (by decide) (hts (.fieldLink RX9 10 "GyroTrainer" "now" "LGyroTrainer$State;") (List.mem_of_getElem? (i := 1) rfl)) (fun _ h9 => h9) rfl dX9_voyageNumber_70 ?_
      refine va_get (D := D) (ci := 7) (v := .ref h7) (C := RX7) (T := TX7) (N := 8) hx hb hts hinX7 hown hK hP 1 rfl rfl 1 (by decide) (hts (.fieldLink RX9 91 "GyroTrainer$State" "ship" "LGyroTrainer$Ship;") (List.mem_of_getElem? (i := 3) rfl)) (fun _ h9 => h9) rfl dX9_voyageNumber_73 ?_
      refine va_get (D := D) (ci := 5) (v := .long S.2.1.2.2.2.1) (C := RX5) (T := TX5) (N := 5) hx hb hts hinX5 hown hK hP 3 rfl rfl 3 (by decide) (hts (.fieldLink RX9 137 "GyroTrainer$Ship" "speed" "J") (List.mem_of_getElem? (i := 5) rfl)) (fun _ h9 => h9) rfl dX9_voyageNumber_76 ?_
      refine lv_l2i hx hb dX9_voyageNumber_79 rfl ?_
      have e9 : (zf_voy S x1) = (S.2.1.2.2.2.1.toInt32) := by unfold zf_voy; simp only [if_neg (show ¬ x1 = (0 : Int32) from fun h => absurd (c_1.symm.trans h) (by decide)), if_neg (show ¬ x1 = (1 : Int32) from fun h => absurd (c_1.symm.trans h) (by decide)), if_pos c_1] <;> rfl
      subst hQ
      exact W.iret (v := (S.2.1.2.2.2.1.toInt32)) hx hb hr (fun t ht hW => ⟨_, rfl, e9.symm, ht⟩) (fun q h => by cases h) dX9_voyageNumber_80
    · skip
      have c_1 : x1 = 3 := c_1.trans (by decide)
      refine lv_tableIn (tgt := 81) (off := 80) hx hb dX9_voyageNumber_1 (by rw [c_1]; decide) (by rw [c_1]; decide) (by rw [c_1]; decide) (by decide) ?_
      refine lv_aload_n hx hb dX9_voyageNumber_81 rfl (lv_at hl 0 rfl) ?_
      refine va_get (D := D) (ci := 9) (v := .ref h5) (C := RX9) (T := TX9) (N := 5) hx hb hts hinX9 hown hK hP 0 rfl rfl 0 (by decide) (hts (.fieldLink RX9 10 "GyroTrainer" "now" "LGyroTrainer$State;") (List.mem_of_getElem? (i := 1) rfl)) (fun _ h9 => h9) rfl dX9_voyageNumber_82 ?_
      refine va_get (D := D) (ci := 7) (v := .ref h7) (C := RX7) (T := TX7) (N := 8) hx hb hts hinX7 hown hK hP 1 rfl rfl 1 (by decide) (hts (.fieldLink RX9 91 "GyroTrainer$State" "ship" "LGyroTrainer$Ship;") (List.mem_of_getElem? (i := 3) rfl)) (fun _ h9 => h9) rfl dX9_voyageNumber_85 ?_
      refine va_get (D := D) (ci := 5) (v := .ref h8) (C := RX5) (T := TX5) (N := 5) hx hb hts hinX5 hown hK hP 3 rfl rfl 0 (by decide) (hts (.fieldLink RX9 95 "GyroTrainer$Ship" "legs" "LGyroTrainer$Legs;") (List.mem_of_getElem? (i := 6) rfl)) (fun _ h9 => h9) rfl dX9_voyageNumber_88 ?_
      refine va_get (D := D) (ci := 3) (v := .int S.2.1.1.2.2.2) (C := RX3) (T := TX3) (N := 4) hx hb hts hinX3 hown hK hP 4 rfl rfl 3 (by decide) (hts (.fieldLink RX9 101 "GyroTrainer$Legs" "count" "I") (List.mem_of_getElem? (i := 7) rfl)) (fun _ h9 => h9) rfl dX9_voyageNumber_91 ?_
      have e9 : (zf_voy S x1) = S.2.1.1.2.2.2 := by unfold zf_voy; simp only [if_neg (show ¬ x1 = (0 : Int32) from fun h => absurd (c_1.symm.trans h) (by decide)), if_neg (show ¬ x1 = (1 : Int32) from fun h => absurd (c_1.symm.trans h) (by decide)), if_neg (show ¬ x1 = (2 : Int32) from fun h => absurd (c_1.symm.trans h) (by decide)), if_pos c_1] <;> rfl
      subst hQ
      exact W.iret (v := S.2.1.1.2.2.2) hx hb hr (fun t ht hW => ⟨_, rfl, e9.symm, ht⟩) (fun q h => by cases h) dX9_voyageNumber_94
    · skip
      have c_1 : x1 = 4 := c_1.trans (by decide)
      refine lv_tableIn (tgt := 95) (off := 94) hx hb dX9_voyageNumber_1 (by rw [c_1]; decide) (by rw [c_1]; decide) (by rw [c_1]; decide) (by decide) ?_
      refine lv_aload_n hx hb dX9_voyageNumber_95 rfl (lv_at hl 0 rfl) ?_
      refine va_get (D := D) (ci := 9) (v := .ref h5) (C := RX9) (T := TX9) (N := 5) hx hb hts hinX9 hown hK hP 0 rfl rfl 0 (by decide) (hts (.fieldLink RX9 10 "GyroTrainer" "now" "LGyroTrainer$State;") (List.mem_of_getElem? (i := 1) rfl)) (fun _ h9 => h9) rfl dX9_voyageNumber_96 ?_
      refine va_get (D := D) (ci := 7) (v := .ref h7) (C := RX7) (T := TX7) (N := 8) hx hb hts hinX7 hown hK hP 1 rfl rfl 1 (by decide) (hts (.fieldLink RX9 91 "GyroTrainer$State" "ship" "LGyroTrainer$Ship;") (List.mem_of_getElem? (i := 3) rfl)) (fun _ h9 => h9) rfl dX9_voyageNumber_99 ?_
      refine z_Rl (va_runV (As := []) (rest := []) ⟨hx, hb, hml, hown, hts⟩ (c_X5_minutesLeft l D cA h7 h8 h9 h10 h11 S.2.1) (cwV 0 hts gX9_voyageNumber_X5_minutesLeft rfl rfl rfl (by decide +kernel) ⟨Nat.le_of_ble_eq_true rfl, Nat.le_of_ble_eq_true rfl⟩) (zqVR hK hP hN (z_c1 (a := [(h0, .inr (9, [.ref h5, .ref h1, .ref h2, .ref h3, .ref h4])), (h5, .inr (7, [.ref h6, .ref h7, .ref h12, .ref h14, .ref h21, .long S.2.2.2.2.2.1, .int S.2.2.2.2.2.2.1, .long S.2.2.2.2.2.2.2])), (h6, .inl ((cA 0), 9, .inr (.inl S.1)))]) (b := [(h12, .inr (0, [.ref h13, .long S.2.2.1.2.1, .long S.2.2.1.2.2.1, .int S.2.2.1.2.2.2.1, .int S.2.2.1.2.2.2.2.1, .int S.2.2.1.2.2.2.2.2.1, .long S.2.2.1.2.2.2.2.2.2])), (h13, .inl ((cA 0), 5, .inr (.inl S.2.2.1.1))), (h14, .inr (8, [.ref h15, .ref h17, .ref h19, .long S.2.2.2.1.2.2.2.1, .int S.2.2.2.1.2.2.2.2.1, .int S.2.2.2.1.2.2.2.2.2])), (h15, .inr (2, [.ref h16, .int S.2.2.2.1.1.2])), (h16, .inl ((cA 0), 8, .inr (.inl S.2.2.2.1.1.1))), (h17, .inr (2, [.ref h18, .int S.2.2.2.1.2.1.2])), (h18, .inl ((cA 0), 8, .inr (.inl S.2.2.2.1.2.1.1))), (h19, .inr (2, [.ref h20, .int S.2.2.2.1.2.2.1.2])), (h20, .inl ((cA 0), 8, .inr (.inl S.2.2.2.1.2.2.1.1))), (h21, .inr (6, [.ref h22, .ref h23, .int S.2.2.2.2.1.2.2.1, .int S.2.2.2.2.1.2.2.2])), (h22, .inl ((cA 0), 6, .inr (.inl S.2.2.2.2.1.1))), (h23, .inr (2, [.ref h24, .int S.2.2.2.2.1.2.1.2])), (h24, .inl ((cA 0), 5, .inr (.inl S.2.2.2.2.1.2.1.1)))]) rfl) 0 rfl rfl) rfl rfl hl.1 rfl (lv_room (Nat.le_of_ble_eq_true rfl)) dX9_voyageNumber_102 ⟨Nat.le_of_ble_eq_true rfl, Nat.le_of_ble_eq_true rfl⟩) ?_
      refine lv_l2i hx hb dX9_voyageNumber_105 rfl ?_
      have e9 : (zf_voy S x1) = ((zf_left S.2.1).toInt32) := by unfold zf_voy; simp only [if_neg (show ¬ x1 = (0 : Int32) from fun h => absurd (c_1.symm.trans h) (by decide)), if_neg (show ¬ x1 = (1 : Int32) from fun h => absurd (c_1.symm.trans h) (by decide)), if_neg (show ¬ x1 = (2 : Int32) from fun h => absurd (c_1.symm.trans h) (by decide)), if_neg (show ¬ x1 = (3 : Int32) from fun h => absurd (c_1.symm.trans h) (by decide)), if_pos c_1] <;> rfl
      subst hQ
      exact W.iret (v := ((zf_left S.2.1).toInt32)) hx hb hr (fun t ht hW => ⟨_, rfl, e9.symm, ht⟩) (fun q h => by cases h) dX9_voyageNumber_106
    · skip
      have c_1 : x1 = 5 := c_1.trans (by decide)
      refine lv_tableIn (tgt := 107) (off := 106) hx hb dX9_voyageNumber_1 (by rw [c_1]; decide) (by rw [c_1]; decide) (by rw [c_1]; decide) (by decide) ?_
      refine lv_aload_n hx hb dX9_voyageNumber_107 rfl (lv_at hl 0 rfl) ?_
      refine va_get (D := D) (ci := 9) (v := .ref h5) (C := RX9) (T := TX9) (N := 5) hx hb hts hinX9 hown hK hP 0 rfl rfl 0 (by decide) (hts (.fieldLink RX9 10 "GyroTrainer" "now" "LGyroTrainer$State;") (List.mem_of_getElem? (i := 1) rfl)) (fun _ h9 => h9) rfl dX9_voyageNumber_108 ?_
      refine va_get (D := D) (ci := 7) (v := .ref h7) (C := RX7) (T := TX7) (N := 8) hx hb hts hinX7 hown hK hP 1 rfl rfl 1 (by decide) (hts (.fieldLink RX9 91 "GyroTrainer$State" "ship" "LGyroTrainer$Ship;") (List.mem_of_getElem? (i := 3) rfl)) (fun _ h9 => h9) rfl dX9_voyageNumber_111 ?_
      refine va_get (D := D) (ci := 5) (v := .long S.2.1.2.2.2.2) (C := RX5) (T := TX5) (N := 5) hx hb hts hinX5 hown hK hP 3 rfl rfl 4 (by decide) (hts (.fieldLink RX9 337 "GyroTrainer$Ship" "way" "J") (List.mem_of_getElem? (i := 8) rfl)) (fun _ h9 => h9) rfl dX9_voyageNumber_114 ?_
      refine lv_l2i hx hb dX9_voyageNumber_117 rfl ?_
      have e9 : (zf_voy S x1) = (S.2.1.2.2.2.2.toInt32) := by unfold zf_voy; simp only [if_neg (show ¬ x1 = (0 : Int32) from fun h => absurd (c_1.symm.trans h) (by decide)), if_neg (show ¬ x1 = (1 : Int32) from fun h => absurd (c_1.symm.trans h) (by decide)), if_neg (show ¬ x1 = (2 : Int32) from fun h => absurd (c_1.symm.trans h) (by decide)), if_neg (show ¬ x1 = (3 : Int32) from fun h => absurd (c_1.symm.trans h) (by decide)), if_neg (show ¬ x1 = (4 : Int32) from fun h => absurd (c_1.symm.trans h) (by decide)), if_pos c_1] <;> rfl
      subst hQ
      exact W.iret (v := (S.2.1.2.2.2.2.toInt32)) hx hb hr (fun t ht hW => ⟨_, rfl, e9.symm, ht⟩) (fun q h => by cases h) dX9_voyageNumber_118
    · skip
      have c_1 : x1 = 6 := c_1.trans (by decide)
      refine lv_tableIn (tgt := 119) (off := 118) hx hb dX9_voyageNumber_1 (by rw [c_1]; decide) (by rw [c_1]; decide) (by rw [c_1]; decide) (by decide) ?_
      refine lv_aload_n hx hb dX9_voyageNumber_119 rfl (lv_at hl 0 rfl) ?_
      refine va_get (D := D) (ci := 9) (v := .ref h5) (C := RX9) (T := TX9) (N := 5) hx hb hts hinX9 hown hK hP 0 rfl rfl 0 (by decide) (hts (.fieldLink RX9 10 "GyroTrainer" "now" "LGyroTrainer$State;") (List.mem_of_getElem? (i := 1) rfl)) (fun _ h9 => h9) rfl dX9_voyageNumber_120 ?_
      refine va_get (D := D) (ci := 7) (v := .ref h12) (C := RX7) (T := TX7) (N := 8) hx hb hts hinX7 hown hK hP 1 rfl rfl 2 (by decide) (hts (.fieldLink RX9 74 "GyroTrainer$State" "gyro" "LGyroTrainer$Gyro;") (List.mem_of_getElem? (i := 9) rfl)) (fun _ h9 => h9) rfl dX9_voyageNumber_123 ?_
      refine va_get (D := D) (ci := 0) (v := .int S.2.2.1.2.2.2.2.2.1) (C := RX0) (T := TX0) (N := 7) hx hb hts hinX0 hown hK hP 8 rfl rfl 5 (by decide) (hts (.fieldLink RX9 170 "GyroTrainer$Gyro" "level" "I") (List.mem_of_getElem? (i := 10) rfl)) (fun _ h9 => h9) rfl dX9_voyageNumber_126 ?_
      have e9 : (zf_voy S x1) = S.2.2.1.2.2.2.2.2.1 := by unfold zf_voy; simp only [if_neg (show ¬ x1 = (0 : Int32) from fun h => absurd (c_1.symm.trans h) (by decide)), if_neg (show ¬ x1 = (1 : Int32) from fun h => absurd (c_1.symm.trans h) (by decide)), if_neg (show ¬ x1 = (2 : Int32) from fun h => absurd (c_1.symm.trans h) (by decide)), if_neg (show ¬ x1 = (3 : Int32) from fun h => absurd (c_1.symm.trans h) (by decide)), if_neg (show ¬ x1 = (4 : Int32) from fun h => absurd (c_1.symm.trans h) (by decide)), if_neg (show ¬ x1 = (5 : Int32) from fun h => absurd (c_1.symm.trans h) (by decide)), if_pos c_1] <;> rfl
      subst hQ
      exact W.iret (v := S.2.2.1.2.2.2.2.2.1) hx hb hr (fun t ht hW => ⟨_, rfl, e9.symm, ht⟩) (fun q h => by cases h) dX9_voyageNumber_129
    · skip
      have c_1 : x1 = 7 := c_1.trans (by decide)
      refine lv_tableIn (tgt := 130) (off := 129) hx hb dX9_voyageNumber_1 (by rw [c_1]; decide) (by rw [c_1]; decide) (by rw [c_1]; decide) (by decide) ?_
      refine lv_aload_n hx hb dX9_voyageNumber_130 rfl (lv_at hl 0 rfl) ?_
      refine va_get (D := D) (ci := 9) (v := .ref h5) (C := RX9) (T := TX9) (N := 5) hx hb hts hinX9 hown hK hP 0 rfl rfl 0 (by decide) (hts (.fieldLink RX9 10 "GyroTrainer" "now" "LGyroTrainer$State;") (List.mem_of_getElem? (i := 1) rfl)) (fun _ h9 => h9) rfl dX9_voyageNumber_131 ?_
      refine z_Rl (va_runV (As := []) (rest := []) ⟨hx, hb, hml, hown, hts⟩ (c_X7_minutesSinceDamped l D cA h5 h6 h7 h8 h9 h10 h11 h12 h13 h14 h15 h16 h17 h18 h19 h20 h21 h22 h23 h24 S) (cwV 0 hts gX9_voyageNumber_X7_minutesSinceDamped rfl rfl rfl (by decide +kernel) ⟨Nat.le_of_ble_eq_true rfl, Nat.le_of_ble_eq_true rfl⟩) (zqVR hK hP hN (z_c1 (a := [(h0, .inr (9, [.ref h5, .ref h1, .ref h2, .ref h3, .ref h4]))]) (b := []) rfl) 0 rfl rfl) rfl rfl hl.1 rfl (lv_room (Nat.le_of_ble_eq_true rfl)) dX9_voyageNumber_134 ⟨Nat.le_of_ble_eq_true rfl, Nat.le_of_ble_eq_true rfl⟩) ?_
      refine lv_l2i hx hb dX9_voyageNumber_137 rfl ?_
      have e9 : (zf_voy S x1) = ((zf_since S).toInt32) := by unfold zf_voy; simp only [if_neg (show ¬ x1 = (0 : Int32) from fun h => absurd (c_1.symm.trans h) (by decide)), if_neg (show ¬ x1 = (1 : Int32) from fun h => absurd (c_1.symm.trans h) (by decide)), if_neg (show ¬ x1 = (2 : Int32) from fun h => absurd (c_1.symm.trans h) (by decide)), if_neg (show ¬ x1 = (3 : Int32) from fun h => absurd (c_1.symm.trans h) (by decide)), if_neg (show ¬ x1 = (4 : Int32) from fun h => absurd (c_1.symm.trans h) (by decide)), if_neg (show ¬ x1 = (5 : Int32) from fun h => absurd (c_1.symm.trans h) (by decide)), if_neg (show ¬ x1 = (6 : Int32) from fun h => absurd (c_1.symm.trans h) (by decide)), if_pos c_1] <;> rfl
      subst hQ
      exact W.iret (v := ((zf_since S).toInt32)) hx hb hr (fun t ht hW => ⟨_, rfl, e9.symm, ht⟩) (fun q h => by cases h) dX9_voyageNumber_138
