def zf_tra (S : vX7) (hi : vX1) (pd : vX4) (x : Int32) : Int32 :=
  if x = 13 then S.2.2.2.1.1.2 else if x = 14 then S.2.2.2.1.2.2.2.2.2 else if x = 15 then S.2.2.2.2.1.2.1.2 else if x = 16 then S.2.2.2.2.1.2.2.2
  else if x = 17 then S.2.2.2.2.2.2.1 else if x = 18 then S.2.2.1.2.2.2.2.1 else if x = 19 then S.2.2.2.2.1.2.2.1 else if x = 20 then pd.2.2.1 else if x = 21 then hi.2.2 else -2
def zf_state (S : vX7) (hi : vX1) (pd : vX4) (x : Int32) : Int32 :=
  if zf_in x.toInt64 8 12 = 0 then (if zf_in x.toInt64 22 30 = 0 then (if 8 ≤ x then zf_tra S hi pd x else zf_voy S x) else (zf_at 9 S.1 (x - 22)).toInt32) else (zf_at 5 S.2.2.1.1 (x - 8)).toInt32
def zf_wave (x y : Int32) : Int32 :=
  if zf_isCourse x = 0 then -1000000002 else if zf_in y.toInt64 0 1 = 0 then -1000000002 else if y = 0 then (zf_sine x.toInt64).toInt32 else (zf_cosine x.toInt64).toInt32
def zf_restAt (S : vX7) (x y z : Int32) : Int32 :=
  if zf_isDegrees x = 0 then -1000000002 else if zf_isSpeed y = 0 then -1000000002 else if zf_isCourse z = 0 then -1000000002
  else (zf_free (zf_at 9 S.1 2) (x.toInt64 * 1000000) y.toInt64 z.toInt64).toInt32
def zf_comp (S : vX7) (k : Nat) (x : Int32) : Int32 :=
  if x = 0 then S.2.2.1.2.1.toInt32 else if x = 1 then S.2.2.1.2.2.1.toInt32 else if x = 2 then (zf_rest S).toInt32 else if x = 3 then S.2.2.2.1.2.2.2.2.1
  else if x = 4 then (if zf_can S.2.2.2.1 = 0 then -1000000006 else (zf_byTurns S.2.2.2.1).toInt32)
  else if x = 5 then (if zf_can S.2.2.2.1 = 0 then -1000000006 else (zf_byMean S.2.2.2.1).toInt32)
  else if x = 6 then (if S.2.2.2.1.1.2 < 2 then -1000000006 else (zf_last S.2.2.2.1).toInt32)
  else if x = 7 then (zsum S.2.2.2.2.1.2.1.1 (min k 5)).toInt32 else if x = 8 then S.2.1.2.1.toInt32 else if x = 9 then S.2.2.1.2.2.2.1 else if x = 10 then S.2.2.2.2.2.2.2.toInt32 else -1000000002
def zf_check (S : vX7) (x : Int32) : Int32 := if zf_in x.toInt64 0 (S.2.2.2.2.1.2.1.2 - 1).toInt64 = 0 then -1000000001 else (zf_at 5 S.2.2.2.2.1.2.1.1 x).toInt32
def zf_wipe (v : vX4) : Int32 × vX4 := (v.2.2.1, (v.1, v.2.1, 0, v.2.2.2))

set_option maxHeartbeats 4000000 in
set_option maxRecDepth 100000 in
theorem c_X9_trainerNumber (l : Launch) (D : va_G) (cA : Nat → ClassId) (h0 h1 h2 h3 h4 h5 h6 h7 h8 h9 h10 h11 h12 h13 h14 h15 h16 h17 h18 h19 h20 h21 h22 h23 h24 h25 h26 h27 h28 h29 h30 : Nat) (S : vX7) (hi : vX1) (pd : vX4) (x1 : Int32)  : Met l yX9_trainerNumber wsX9_trainerNumber ({ frames := 0, cells := 0, slots := 0, locals := 0 }) (va_Pc [.ref h0, .int x1] (zPreR D (zty cA) ([(h0, .inr (9, [.ref h3, .ref h1, .ref h23, .ref h2, .ref h25]))] ++ wX7 cA h3 h4 h5 h6 h7 h8 h9 h10 h11 h12 h13 h14 h15 h16 h17 h18 h19 h20 h21 h22 S ++ wX1 cA h23 h24 hi ++ wX4 cA h25 h26 h27 h28 h29 h30 pd))) (vp_Si (fun x => x = (zf_tra S hi pd x1))) 0 0 (fun _ => False) := by
  refine Met.ofW (cc := cX9_trainerNumber) (maxL := 2) (ret := (some .int)) (by decide) rfl ?_
  intro p e s m args below meth c s₁ B hml hv
  obtain ⟨rfl, hP, hK, hN⟩ := hv
  have hx := B.exec
  have hb := B.bytes
  have hr := B.returns
  have hts := atoms_spec (ws := wsX9_trainerNumber) B.pre
  have hown : s.vm.findClass RX9 = some m.cls := findClass_of_methodNamed B.named
  have hlocks := B.notSynchronized
  have hinX9 : ∀ w ∈ u_ws RX9 TX9 5, w ∈ wsX9_trainerNumber := fun w h => List.mem_cons_of_mem _ (List.mem_append_left _ (List.mem_append_left _ (List.mem_append_left _ (List.mem_append_left _ (List.mem_append_left _ (List.mem_append_left _ (List.mem_append_left _ (List.mem_append_right _ h))))))))
  have hinX7 : ∀ w ∈ u_ws RX7 TX7 8, w ∈ wsX9_trainerNumber := fun w h => List.mem_cons_of_mem _ (List.mem_append_left _ (List.mem_append_left _ (List.mem_append_left _ (List.mem_append_left _ (List.mem_append_left _ (List.mem_append_left _ (List.mem_append_right _ h)))))))
  have hinX8 : ∀ w ∈ u_ws RX8 TX8 6, w ∈ wsX9_trainerNumber := fun w h => List.mem_cons_of_mem _ (List.mem_append_left _ (List.mem_append_left _ (List.mem_append_left _ (List.mem_append_left _ (List.mem_append_left _ (List.mem_append_right _ h))))))
  have hinX2 : ∀ w ∈ u_ws RX2 TX2 2, w ∈ wsX9_trainerNumber := fun w h => List.mem_cons_of_mem _ (List.mem_append_left _ (List.mem_append_left _ (List.mem_append_left _ (List.mem_append_left _ (List.mem_append_right _ h)))))
  have hinX6 : ∀ w ∈ u_ws RX6 TX6 4, w ∈ wsX9_trainerNumber := fun w h => List.mem_cons_of_mem _ (List.mem_append_left _ (List.mem_append_left _ (List.mem_append_left _ (List.mem_append_right _ h))))
  have hinX0 : ∀ w ∈ u_ws RX0 TX0 7, w ∈ wsX9_trainerNumber := fun w h => List.mem_cons_of_mem _ (List.mem_append_left _ (List.mem_append_left _ (List.mem_append_right _ h)))
  have hinX4 : ∀ w ∈ u_ws RX4 TX4 5, w ∈ wsX9_trainerNumber := fun w h => List.mem_cons_of_mem _ (List.mem_append_left _ (List.mem_append_right _ h))
  have hinX1 : ∀ w ∈ u_ws RX1 TX1 3, w ∈ wsX9_trainerNumber := fun w h => List.mem_cons_of_mem _ (List.mem_append_right _ h)
  have hP : va_P D vwCl [(h0, .inr (9, [.ref h3, .ref h1, .ref h23, .ref h2, .ref h25])), (h3, .inr (7, [.ref h4, .ref h5, .ref h10, .ref h12, .ref h19, .long S.2.2.2.2.2.1, .int S.2.2.2.2.2.2.1, .long S.2.2.2.2.2.2.2])), (h4, .inl ((cA 0), 9, .inr (.inl S.1))), (h5, .inr (5, [.ref h6, .long S.2.1.2.1, .long S.2.1.2.2.1, .long S.2.1.2.2.2.1, .long S.2.1.2.2.2.2])), (h6, .inr (3, [.ref h7, .ref h8, .ref h9, .int S.2.1.1.2.2.2])), (h7, .inl ((cA 0), 8, .inr (.inl S.2.1.1.1))), (h8, .inl ((cA 0), 8, .inr (.inl S.2.1.1.2.1))), (h9, .inl ((cA 0), 8, .inr (.inl S.2.1.1.2.2.1))), (h10, .inr (0, [.ref h11, .long S.2.2.1.2.1, .long S.2.2.1.2.2.1, .int S.2.2.1.2.2.2.1, .int S.2.2.1.2.2.2.2.1, .int S.2.2.1.2.2.2.2.2.1, .long S.2.2.1.2.2.2.2.2.2])), (h11, .inl ((cA 0), 5, .inr (.inl S.2.2.1.1))), (h12, .inr (8, [.ref h13, .ref h15, .ref h17, .long S.2.2.2.1.2.2.2.1, .int S.2.2.2.1.2.2.2.2.1, .int S.2.2.2.1.2.2.2.2.2])), (h13, .inr (2, [.ref h14, .int S.2.2.2.1.1.2])), (h14, .inl ((cA 0), 8, .inr (.inl S.2.2.2.1.1.1))), (h15, .inr (2, [.ref h16, .int S.2.2.2.1.2.1.2])), (h16, .inl ((cA 0), 8, .inr (.inl S.2.2.2.1.2.1.1))), (h17, .inr (2, [.ref h18, .int S.2.2.2.1.2.2.1.2])), (h18, .inl ((cA 0), 8, .inr (.inl S.2.2.2.1.2.2.1.1))), (h19, .inr (6, [.ref h20, .ref h21, .int S.2.2.2.2.1.2.2.1, .int S.2.2.2.2.1.2.2.2])), (h20, .inl ((cA 0), 6, .inr (.inl S.2.2.2.2.1.1))), (h21, .inr (2, [.ref h22, .int S.2.2.2.2.1.2.1.2])), (h22, .inl ((cA 0), 5, .inr (.inl S.2.2.2.2.1.2.1.1))), (h23, .inr (1, [.ref h24, .int hi.2.1, .int hi.2.2])), (h24, .inl ((cA 4), 6, .inr (.inr (.inr (.inr hi.1))))), (h25, .inr (4, [.ref h26, .ref h27, .int pd.2.2.1, .int pd.2.2.2.1, .long pd.2.2.2.2])), (h26, .inl ((cA 3), 80, .inl pd.1)), (h27, .inr (3, [.ref h28, .ref h29, .ref h30, .int pd.2.1.2.2.2])), (h28, .inl ((cA 0), 13, .inr (.inl pd.2.1.1))), (h29, .inl ((cA 0), 13, .inr (.inl pd.2.1.2.1))), (h30, .inl ((cA 0), 13, .inr (.inl pd.2.1.2.2.1)))] s.heap := hP
  have hl := lv_entry ([.ref h0, .int x1]) (n := 2) (Nat.le_of_ble_eq_true rfl)
  rw [lg_entry_eq]
  generalize (lg_sl ([.ref h0, .int x1]) ++ List.replicate (2 - (lg_sl ([.ref h0, .int x1])).length) Slot.unset).toArray = ls at hl ⊢
  have hl : lv_has ls 2 [(0, .ref h0), (1, .int x1)] := hl
  refine z_genQ (fun Q hQ => ?_)
  refine lv_iload_n hx hb dX9_trainerNumber_0 rfl (lv_at hl 1 rfl) ?_
  rcases z_sw x1 13 21 with c_1 | ⟨j, hj, c_1⟩
  · skip
    refine lv_tableOut (tgt := 148) hx hb dX9_trainerNumber_1 c_1 (by decide) ?_
    refine lv_bipush (v := -2) hx hb dX9_trainerNumber_148 (by decide) ?_
    have e9 : (zf_tra S hi pd x1) = (-2 : Int32) := by unfold zf_tra; simp only [if_neg (z_out c_1 (13 : Int32) (by decide)), if_neg (z_out c_1 (14 : Int32) (by decide)), if_neg (z_out c_1 (15 : Int32) (by decide)), if_neg (z_out c_1 (16 : Int32) (by decide)), if_neg (z_out c_1 (17 : Int32) (by decide)), if_neg (z_out c_1 (18 : Int32) (by decide)), if_neg (z_out c_1 (19 : Int32) (by decide)), if_neg (z_out c_1 (20 : Int32) (by decide)), if_neg (z_out c_1 (21 : Int32) (by decide))] <;> rfl
    subst hQ
    exact W.iret (v := (-2 : Int32)) hx hb hr (fun t ht hW => ⟨_, rfl, e9.symm, ht⟩) (fun q h => by cases h) dX9_trainerNumber_150
  · skip
    have hj2 : j = 0 ∨ j = 1 ∨ j = 2 ∨ j = 3 ∨ j = 4 ∨ j = 5 ∨ j = 6 ∨ j = 7 ∨ j = 8 := by omega
    rcases hj2 with rfl | rfl | rfl | rfl | rfl | rfl | rfl | rfl | rfl
    · skip
      have c_1 : x1 = 13 := c_1.trans (by decide)
      refine lv_tableIn (tgt := 52) (off := 51) hx hb dX9_trainerNumber_1 (by rw [c_1]; decide) (by rw [c_1]; decide) (by rw [c_1]; decide) (by decide) ?_
      refine lv_aload_n hx hb dX9_trainerNumber_52 rfl (lv_at hl 0 rfl) ?_
      refine va_get (D := D) (ci := 9) (v := .ref h3) (C := RX9) (T := TX9) (N := 5) hx hb hts hinX9 hown hK hP 0 rfl rfl 0 (by decide) (hts (.fieldLink RX9 10 "GyroTrainer" "now" "LGyroTrainer$State;") (List.mem_of_getElem? (i := 1) rfl)) (fun _ h9 => h9) rfl dX9_trainerNumber_53 ?_
      refine va_get (D := D) (ci := 7) (v := .ref h12) (C := RX7) (T := TX7) (N := 8) hx hb hts hinX7 hown hK hP 1 rfl rfl 3 (by decide) (hts (.fieldLink RX9 150 "GyroTrainer$State" "swings" "LGyroTrainer$Swings;") (List.mem_of_getElem? (i := 2) rfl)) (fun _ h9 => h9) rfl dX9_trainerNumber_56 ?_
      refine va_get (D := D) (ci := 8) (v := .ref h13) (C := RX8) (T := TX8) (N := 6) hx hb hts hinX8 hown hK hP 10 rfl rfl 0 (by decide) (hts (.fieldLink RX9 185 "GyroTrainer$Swings" "errors" "LGyroTrainer$Latest;") (List.mem_of_getElem? (i := 3) rfl)) (fun _ h9 => h9) rfl dX9_trainerNumber_59 ?_
      refine va_get (D := D) (ci := 2) (v := .int S.2.2.2.1.1.2) (C := RX2) (T := TX2) (N := 2) hx hb hts hinX2 hown hK hP 11 rfl rfl 1 (by decide) (hts (.fieldLink RX9 189 "GyroTrainer$Latest" "count" "I") (List.mem_of_getElem? (i := 4) rfl)) (fun _ h9 => h9) rfl dX9_trainerNumber_62 ?_
      have e9 : (zf_tra S hi pd x1) = S.2.2.2.1.1.2 := by unfold zf_tra; simp only [if_pos c_1] <;> rfl
      subst hQ
      exact W.iret (v := S.2.2.2.1.1.2) hx hb hr (fun t ht hW => ⟨_, rfl, e9.symm, ht⟩) (fun q h => by cases h) dX9_trainerNumber_65
    · skip
      have c_1 : x1 = 14 := c_1.trans (by decide)
      refine lv_tableIn (tgt := 66) (off := 65) hx hb dX9_trainerNumber_1 (by rw [c_1]; decide) (by rw [c_1]; decide) (by rw [c_1]; decide) (by decide) ?_
      refine lv_aload_n hx hb dX9_trainerNumber_66 rfl (lv_at hl 0 rfl) ?_
      refine va_get (D := D) (ci := 9) (v := .ref h3) (C := RX9) (T := TX9) (N := 5) hx hb hts hinX9 hown hK hP 0 rfl rfl 0 (by decide) (hts (.fieldLink RX9 10 "GyroTrainer" "now" "LGyroTrainer$State;") (List.mem_of_getElem? (i := 1) rfl)) (fun _ h9 => h9) rfl dX9_trainerNumber_67 ?_
      refine va_get (D := D) (ci := 7) (v := .ref h12) (C := RX7) (T := TX7) (N := 8) hx hb hts hinX7 hown hK hP 1 rfl rfl 3 (by decide) (hts (.fieldLink RX9 150 "GyroTrainer$State" "swings" "LGyroTrainer$Swings;") (List.mem_of_getElem? (i := 2) rfl)) (fun _ h9 => h9) rfl dX9_trainerNumber_70 ?_
      refine va_get (D := D) (ci := 8) (v := .int S.2.2.2.1.2.2.2.2.2) (C := RX8) (T := TX8) (N := 6) hx hb hts hinX8 hown hK hP 10 rfl rfl 5 (by decide) (hts (.fieldLink RX9 154 "GyroTrainer$Swings" "found" "I") (List.mem_of_getElem? (i := 5) rfl)) (fun _ h9 => h9) rfl dX9_trainerNumber_73 ?_
      have e9 : (zf_tra S hi pd x1) = S.2.2.2.1.2.2.2.2.2 := by unfold zf_tra; simp only [if_neg (show ¬ x1 = (13 : Int32) from fun h => absurd (c_1.symm.trans h) (by decide)), if_pos c_1] <;> rfl
      subst hQ
      exact W.iret (v := S.2.2.2.1.2.2.2.2.2) hx hb hr (fun t ht hW => ⟨_, rfl, e9.symm, ht⟩) (fun q h => by cases h) dX9_trainerNumber_76
    · skip
      have c_1 : x1 = 15 := c_1.trans (by decide)
      refine lv_tableIn (tgt := 77) (off := 76) hx hb dX9_trainerNumber_1 (by rw [c_1]; decide) (by rw [c_1]; decide) (by rw [c_1]; decide) (by decide) ?_
      refine lv_aload_n hx hb dX9_trainerNumber_77 rfl (lv_at hl 0 rfl) ?_
      refine va_get (D := D) (ci := 9) (v := .ref h3) (C := RX9) (T := TX9) (N := 5) hx hb hts hinX9 hown hK hP 0 rfl rfl 0 (by decide) (hts (.fieldLink RX9 10 "GyroTrainer" "now" "LGyroTrainer$State;") (List.mem_of_getElem? (i := 1) rfl)) (fun _ h9 => h9) rfl dX9_trainerNumber_78 ?_
      refine va_get (D := D) (ci := 7) (v := .ref h19) (C := RX7) (T := TX7) (N := 8) hx hb hts hinX7 hown hK hP 1 rfl rfl 4 (by decide) (hts (.fieldLink RX9 115 "GyroTrainer$State" "sights" "LGyroTrainer$Sights;") (List.mem_of_getElem? (i := 6) rfl)) (fun _ h9 => h9) rfl dX9_trainerNumber_81 ?_
      refine va_get (D := D) (ci := 6) (v := .ref h21) (C := RX6) (T := TX6) (N := 4) hx hb hts hinX6 hown hK hP 17 rfl rfl 1 (by decide) (hts (.fieldLink RX9 246 "GyroTrainer$Sights" "checks" "LGyroTrainer$Latest;") (List.mem_of_getElem? (i := 7) rfl)) (fun _ h9 => h9) rfl dX9_trainerNumber_84 ?_
      refine va_get (D := D) (ci := 2) (v := .int S.2.2.2.2.1.2.1.2) (C := RX2) (T := TX2) (N := 2) hx hb hts hinX2 hown hK hP 19 rfl rfl 1 (by decide) (hts (.fieldLink RX9 189 "GyroTrainer$Latest" "count" "I") (List.mem_of_getElem? (i := 4) rfl)) (fun _ h9 => h9) rfl dX9_trainerNumber_87 ?_
      have e9 : (zf_tra S hi pd x1) = S.2.2.2.2.1.2.1.2 := by unfold zf_tra; simp only [if_neg (show ¬ x1 = (13 : Int32) from fun h => absurd (c_1.symm.trans h) (by decide)), if_neg (show ¬ x1 = (14 : Int32) from fun h => absurd (c_1.symm.trans h) (by decide)), if_pos c_1] <;> rfl
      subst hQ
      exact W.iret (v := S.2.2.2.2.1.2.1.2) hx hb hr (fun t ht hW => ⟨_, rfl, e9.symm, ht⟩) (fun q h => by cases h) dX9_trainerNumber_90
    · skip
      have c_1 : x1 = 16 := c_1.trans (by decide)
      refine lv_tableIn (tgt := 91) (off := 90) hx hb dX9_trainerNumber_1 (by rw [c_1]; decide) (by rw [c_1]; decide) (by rw [c_1]; decide) (by decide) ?_
      refine lv_aload_n hx hb dX9_trainerNumber_91 rfl (lv_at hl 0 rfl) ?_
      refine va_get (D := D) (ci := 9) (v := .ref h3) (C := RX9) (T := TX9) (N := 5) hx hb hts hinX9 hown hK hP 0 rfl rfl 0 (by decide) (hts (.fieldLink RX9 10 "GyroTrainer" "now" "LGyroTrainer$State;") (List.mem_of_getElem? (i := 1) rfl)) (fun _ h9 => h9) rfl dX9_trainerNumber_92 ?_
      refine va_get (D := D) (ci := 7) (v := .ref h19) (C := RX7) (T := TX7) (N := 8) hx hb hts hinX7 hown hK hP 1 rfl rfl 4 (by decide) (hts (.fieldLink RX9 115 "GyroTrainer$State" "sights" "LGyroTrainer$Sights;") (List.mem_of_getElem? (i := 6) rfl)) (fun _ h9 => h9) rfl dX9_trainerNumber_95 ?_
      refine va_get (D := D) (ci := 6) (v := .int S.2.2.2.2.1.2.2.2) (C := RX6) (T := TX6) (N := 4) hx hb hts hinX6 hown hK hP 17 rfl rfl 3 (by decide) (hts (.fieldLink RX9 340 "GyroTrainer$Sights" "observations" "I") (List.mem_of_getElem? (i := 8) rfl)) (fun _ h9 => h9) rfl dX9_trainerNumber_98 ?_
      have e9 : (zf_tra S hi pd x1) = S.2.2.2.2.1.2.2.2 := by unfold zf_tra; simp only [if_neg (show ¬ x1 = (13 : Int32) from fun h => absurd (c_1.symm.trans h) (by decide)), if_neg (show ¬ x1 = (14 : Int32) from fun h => absurd (c_1.symm.trans h) (by decide)), if_neg (show ¬ x1 = (15 : Int32) from fun h => absurd (c_1.symm.trans h) (by decide)), if_pos c_1] <;> rfl
      subst hQ
      exact W.iret (v := S.2.2.2.2.1.2.2.2) hx hb hr (fun t ht hW => ⟨_, rfl, e9.symm, ht⟩) (fun q h => by cases h) dX9_trainerNumber_101
    · skip
      have c_1 : x1 = 17 := c_1.trans (by decide)
      refine lv_tableIn (tgt := 102) (off := 101) hx hb dX9_trainerNumber_1 (by rw [c_1]; decide) (by rw [c_1]; decide) (by rw [c_1]; decide) (by decide) ?_
      refine lv_aload_n hx hb dX9_trainerNumber_102 rfl (lv_at hl 0 rfl) ?_
      refine va_get (D := D) (ci := 9) (v := .ref h3) (C := RX9) (T := TX9) (N := 5) hx hb hts hinX9 hown hK hP 0 rfl rfl 0 (by decide) (hts (.fieldLink RX9 10 "GyroTrainer" "now" "LGyroTrainer$State;") (List.mem_of_getElem? (i := 1) rfl)) (fun _ h9 => h9) rfl dX9_trainerNumber_103 ?_
      refine va_get (D := D) (ci := 7) (v := .int S.2.2.2.2.2.2.1) (C := RX7) (T := TX7) (N := 8) hx hb hts hinX7 hown hK hP 1 rfl rfl 6 (by decide) (hts (.fieldLink RX9 223 "GyroTrainer$State" "guesses" "I") (List.mem_of_getElem? (i := 9) rfl)) (fun _ h9 => h9) rfl dX9_trainerNumber_106 ?_
      have e9 : (zf_tra S hi pd x1) = S.2.2.2.2.2.2.1 := by unfold zf_tra; simp only [if_neg (show ¬ x1 = (13 : Int32) from fun h => absurd (c_1.symm.trans h) (by decide)), if_neg (show ¬ x1 = (14 : Int32) from fun h => absurd (c_1.symm.trans h) (by decide)), if_neg (show ¬ x1 = (15 : Int32) from fun h => absurd (c_1.symm.trans h) (by decide)), if_neg (show ¬ x1 = (16 : Int32) from fun h => absurd (c_1.symm.trans h) (by decide)), if_pos c_1] <;> rfl
      subst hQ
      exact W.iret (v := S.2.2.2.2.2.2.1) hx hb hr (fun t ht hW => ⟨_, rfl, e9.symm, ht⟩) (fun q h => by cases h) dX9_trainerNumber_109
    · skip
      have c_1 : x1 = 18 := c_1.trans (by decide)
      refine lv_tableIn (tgt := 110) (off := 109) hx hb dX9_trainerNumber_1 (by rw [c_1]; decide) (by rw [c_1]; decide) (by rw [c_1]; decide) (by decide) ?_
      refine lv_aload_n hx hb dX9_trainerNumber_110 rfl (lv_at hl 0 rfl) ?_
      refine va_get (D := D) (ci := 9) (v := .ref h3) (C := RX9) (T := TX9) (N := 5) hx hb hts hinX9 hown hK hP 0 rfl rfl 0 (by decide) (hts (.fieldLink RX9 10 "GyroTrainer" "now" "LGyroTrainer$State;") (List.mem_of_getElem? (i := 1) rfl)) (fun _ h9 => h9) rfl dX9_trainerNumber_111 ?_
      refine va_get (D := D) (ci := 7) (v := .ref h10) (C := RX7) (T := TX7) (N := 8) hx hb hts hinX7 hown hK hP 1 rfl rfl 2 (by decide) (hts (.fieldLink RX9 74 "GyroTrainer$State" "gyro" "LGyroTrainer$Gyro;") (List.mem_of_getElem? (i := 10) rfl)) (fun _ h9 => h9) rfl dX9_trainerNumber_114 ?_
      refine va_get (D := D) (ci := 0) (v := .int S.2.2.1.2.2.2.2.1) (C := RX0) (T := TX0) (N := 7) hx hb hts hinX0 hown hK hP 8 rfl rfl 4 (by decide) (hts (.fieldLink RX9 182 "GyroTrainer$Gyro" "setSpeed" "I") (List.mem_of_getElem? (i := 11) rfl)) (fun _ h9 => h9) rfl dX9_trainerNumber_117 ?_
      have e9 : (zf_tra S hi pd x1) = S.2.2.1.2.2.2.2.1 := by unfold zf_tra; simp only [if_neg (show ¬ x1 = (13 : Int32) from fun h => absurd (c_1.symm.trans h) (by decide)), if_neg (show ¬ x1 = (14 : Int32) from fun h => absurd (c_1.symm.trans h) (by decide)), if_neg (show ¬ x1 = (15 : Int32) from fun h => absurd (c_1.symm.trans h) (by decide)), if_neg (show ¬ x1 = (16 : Int32) from fun h => absurd (c_1.symm.trans h) (by decide)), if_neg (show ¬ x1 = (17 : Int32) from fun h => absurd (c_1.symm.trans h) (by decide)), if_pos c_1] <;> rfl
      subst hQ
      exact W.iret (v := S.2.2.1.2.2.2.2.1) hx hb hr (fun t ht hW => ⟨_, rfl, e9.symm, ht⟩) (fun q h => by cases h) dX9_trainerNumber_120
    · skip
      have c_1 : x1 = 19 := c_1.trans (by decide)
      refine lv_tableIn (tgt := 121) (off := 120) hx hb dX9_trainerNumber_1 (by rw [c_1]; decide) (by rw [c_1]; decide) (by rw [c_1]; decide) (by decide) ?_
      refine lv_aload_n hx hb dX9_trainerNumber_121 rfl (lv_at hl 0 rfl) ?_
      refine va_get (D := D) (ci := 9) (v := .ref h3) (C := RX9) (T := TX9) (N := 5) hx hb hts hinX9 hown hK hP 0 rfl rfl 0 (by decide) (hts (.fieldLink RX9 10 "GyroTrainer" "now" "LGyroTrainer$State;") (List.mem_of_getElem? (i := 1) rfl)) (fun _ h9 => h9) rfl dX9_trainerNumber_122 ?_
      refine va_get (D := D) (ci := 7) (v := .ref h19) (C := RX7) (T := TX7) (N := 8) hx hb hts hinX7 hown hK hP 1 rfl rfl 4 (by decide) (hts (.fieldLink RX9 115 "GyroTrainer$State" "sights" "LGyroTrainer$Sights;") (List.mem_of_getElem? (i := 6) rfl)) (fun _ h9 => h9) rfl dX9_trainerNumber_125 ?_
      refine va_get (D := D) (ci := 6) (v := .int S.2.2.2.2.1.2.2.1) (C := RX6) (T := TX6) (N := 4) hx hb hts hinX6 hown hK hP 17 rfl rfl 2 (by decide) (hts (.fieldLink RX9 119 "GyroTrainer$Sights" "lines" "I") (List.mem_of_getElem? (i := 12) rfl)) (fun _ h9 => h9) rfl dX9_trainerNumber_128 ?_
      have e9 : (zf_tra S hi pd x1) = S.2.2.2.2.1.2.2.1 := by unfold zf_tra; simp only [if_neg (show ¬ x1 = (13 : Int32) from fun h => absurd (c_1.symm.trans h) (by decide)), if_neg (show ¬ x1 = (14 : Int32) from fun h => absurd (c_1.symm.trans h) (by decide)), if_neg (show ¬ x1 = (15 : Int32) from fun h => absurd (c_1.symm.trans h) (by decide)), if_neg (show ¬ x1 = (16 : Int32) from fun h => absurd (c_1.symm.trans h) (by decide)), if_neg (show ¬ x1 = (17 : Int32) from fun h => absurd (c_1.symm.trans h) (by decide)), if_neg (show ¬ x1 = (18 : Int32) from fun h => absurd (c_1.symm.trans h) (by decide)), if_pos c_1] <;> rfl
      subst hQ
      exact W.iret (v := S.2.2.2.2.1.2.2.1) hx hb hr (fun t ht hW => ⟨_, rfl, e9.symm, ht⟩) (fun q h => by cases h) dX9_trainerNumber_131
    · skip
      have c_1 : x1 = 20 := c_1.trans (by decide)
      refine lv_tableIn (tgt := 132) (off := 131) hx hb dX9_trainerNumber_1 (by rw [c_1]; decide) (by rw [c_1]; decide) (by rw [c_1]; decide) (by decide) ?_
      refine lv_aload_n hx hb dX9_trainerNumber_132 rfl (lv_at hl 0 rfl) ?_
      refine va_get (D := D) (ci := 9) (v := .ref h25) (C := RX9) (T := TX9) (N := 5) hx hb hts hinX9 hown hK hP 0 rfl rfl 4 (by decide) (hts (.fieldLink RX9 33 "GyroTrainer" "pad" "LGyroTrainer$Pad;") (List.mem_of_getElem? (i := 13) rfl)) (fun _ h9 => h9) rfl dX9_trainerNumber_133 ?_
      refine va_get (D := D) (ci := 4) (v := .int pd.2.2.1) (C := RX4) (T := TX4) (N := 5) hx hb hts hinX4 hown hK hP 23 rfl rfl 2 (by decide) (hts (.fieldLink RX9 301 "GyroTrainer$Pad" "length" "I") (List.mem_of_getElem? (i := 14) rfl)) (fun _ h9 => h9) rfl dX9_trainerNumber_136 ?_
      have e9 : (zf_tra S hi pd x1) = pd.2.2.1 := by unfold zf_tra; simp only [if_neg (show ¬ x1 = (13 : Int32) from fun h => absurd (c_1.symm.trans h) (by decide)), if_neg (show ¬ x1 = (14 : Int32) from fun h => absurd (c_1.symm.trans h) (by decide)), if_neg (show ¬ x1 = (15 : Int32) from fun h => absurd (c_1.symm.trans h) (by decide)), if_neg (show ¬ x1 = (16 : Int32) from fun h => absurd (c_1.symm.trans h) (by decide)), if_neg (show ¬ x1 = (17 : Int32) from fun h => absurd (c_1.symm.trans h) (by decide)), if_neg (show ¬ x1 = (18 : Int32) from fun h => absurd (c_1.symm.trans h) (by decide)), if_neg (show ¬ x1 = (19 : Int32) from fun h => absurd (c_1.symm.trans h) (by decide)), if_pos c_1] <;> rfl
      subst hQ
      exact W.iret (v := pd.2.2.1) hx hb hr (fun t ht hW => ⟨_, rfl, e9.symm, ht⟩) (fun q h => by cases h) dX9_trainerNumber_139
    · skip
      have c_1 : x1 = 21 := c_1.trans (by decide)
      refine lv_tableIn (tgt := 140) (off := 139) hx hb dX9_trainerNumber_1 (by rw [c_1]; decide) (by rw [c_1]; decide) (by rw [c_1]; decide) (by decide) ?_
      refine lv_aload_n hx hb dX9_trainerNumber_140 rfl (lv_at hl 0 rfl) ?_
      refine va_get (D := D) (ci := 9) (v := .ref h23) (C := RX9) (T := TX9) (N := 5) hx hb hts hinX9 hown hK hP 0 rfl rfl 2 (by decide) (hts (.fieldLink RX9 22 "GyroTrainer" "history" "LGyroTrainer$History;") (List.mem_of_getElem? (i := 15) rfl)) (fun _ h9 => h9) rfl dX9_trainerNumber_141 ?_
      refine va_get (D := D) (ci := 1) (v := .int hi.2.2) (C := RX1) (T := TX1) (N := 3) hx hb hts hinX1 hown hK hP 21 rfl rfl 2 (by decide) (hts (.fieldLink RX9 323 "GyroTrainer$History" "count" "I") (List.mem_of_getElem? (i := 16) rfl)) (fun _ h9 => h9) rfl dX9_trainerNumber_144 ?_
      have e9 : (zf_tra S hi pd x1) = hi.2.2 := by unfold zf_tra; simp only [if_neg (show ¬ x1 = (13 : Int32) from fun h => absurd (c_1.symm.trans h) (by decide)), if_neg (show ¬ x1 = (14 : Int32) from fun h => absurd (c_1.symm.trans h) (by decide)), if_neg (show ¬ x1 = (15 : Int32) from fun h => absurd (c_1.symm.trans h) (by decide)), if_neg (show ¬ x1 = (16 : Int32) from fun h => absurd (c_1.symm.trans h) (by decide)), if_neg (show ¬ x1 = (17 : Int32) from fun h => absurd (c_1.symm.trans h) (by decide)), if_neg (show ¬ x1 = (18 : Int32) from fun h => absurd (c_1.symm.trans h) (by decide)), if_neg (show ¬ x1 = (19 : Int32) from fun h => absurd (c_1.symm.trans h) (by decide)), if_neg (show ¬ x1 = (20 : Int32) from fun h => absurd (c_1.symm.trans h) (by decide)), if_pos c_1] <;> rfl
      subst hQ
      exact W.iret (v := hi.2.2) hx hb hr (fun t ht hW => ⟨_, rfl, e9.symm, ht⟩) (fun q h => by cases h) dX9_trainerNumber_147
set_option maxHeartbeats 4000000 in
set_option maxRecDepth 100000 in
theorem c_X9_state (l : Launch) (D : va_G) (cA : Nat → ClassId) (h0 h1 h2 h3 h4 h5 h6 h7 h8 h9 h10 h11 h12 h13 h14 h15 h16 h17 h18 h19 h20 h21 h22 h23 h24 h25 h26 h27 h28 h29 h30 : Nat) (S : vX7) (hi : vX1) (pd : vX4) (x1 : Int32)  : Met l yX9_state wsX9_state ({ frames := 3, cells := 0, slots := 0, locals := 62 }) (va_Pc [.ref h0, .int x1] (zPreR D (zty cA) ([(h0, .inr (9, [.ref h3, .ref h1, .ref h23, .ref h2, .ref h25]))] ++ wX7 cA h3 h4 h5 h6 h7 h8 h9 h10 h11 h12 h13 h14 h15 h16 h17 h18 h19 h20 h21 h22 S ++ wX1 cA h23 h24 hi ++ wX4 cA h25 h26 h27 h28 h29 h30 pd))) (vp_Si (fun x => x = (zf_state S hi pd x1))) 0 0 (fun _ => False) := by
  refine Met.ofW (cc := cX9_state) (maxL := 2) (ret := (some .int)) (by decide) rfl ?_
  intro p e s m args below meth c s₁ B hml hv
  obtain ⟨rfl, hP, hK, hN⟩ := hv
  have hx := B.exec
  have hb := B.bytes
  have hr := B.returns
  have hts := atoms_spec (ws := wsX9_state) B.pre
  have hown : s.vm.findClass RX9 = some m.cls := findClass_of_methodNamed B.named
  have hlocks := B.notSynchronized
  have hinX9 : ∀ w ∈ u_ws RX9 TX9 5, w ∈ wsX9_state := fun w h => List.mem_cons_of_mem _ (List.mem_append_left _ (List.mem_append_left _ (List.mem_append_left _ (List.mem_append_left _ (List.mem_append_left _ (List.mem_append_left _ (List.mem_append_left _ (List.mem_append_left _ (List.mem_append_left _ (List.mem_append_right _ h))))))))))
  have hinX7 : ∀ w ∈ u_ws RX7 TX7 8, w ∈ wsX9_state := fun w h => List.mem_cons_of_mem _ (List.mem_append_left _ (List.mem_append_left _ (List.mem_append_left _ (List.mem_append_left _ (List.mem_append_left _ (List.mem_append_left _ (List.mem_append_left _ (List.mem_append_left _ (List.mem_append_right _ h)))))))))
  have hinX0 : ∀ w ∈ u_ws RX0 TX0 7, w ∈ wsX9_state := fun w h => List.mem_cons_of_mem _ (List.mem_append_left _ (List.mem_append_left _ (List.mem_append_left _ (List.mem_append_left _ (List.mem_append_left _ (List.mem_append_left _ (List.mem_append_left _ (List.mem_append_right _ h))))))))
  have hinX5 : ∀ w ∈ u_ws RX5 TX5 5, w ∈ wsX9_state := fun w h => List.mem_cons_of_mem _ (List.mem_append_left _ (List.mem_append_left _ (List.mem_append_left _ (List.mem_append_left _ (List.mem_append_left _ (List.mem_append_left _ (List.mem_append_right _ h)))))))
  have hinX3 : ∀ w ∈ u_ws RX3 TX3 4, w ∈ wsX9_state := fun w h => List.mem_cons_of_mem _ (List.mem_append_left _ (List.mem_append_left _ (List.mem_append_left _ (List.mem_append_left _ (List.mem_append_left _ (List.mem_append_right _ h))))))
  have hinX8 : ∀ w ∈ u_ws RX8 TX8 6, w ∈ wsX9_state := fun w h => List.mem_cons_of_mem _ (List.mem_append_left _ (List.mem_append_left _ (List.mem_append_left _ (List.mem_append_left _ (List.mem_append_right _ h)))))
  have hinX2 : ∀ w ∈ u_ws RX2 TX2 2, w ∈ wsX9_state := fun w h => List.mem_cons_of_mem _ (List.mem_append_left _ (List.mem_append_left _ (List.mem_append_left _ (List.mem_append_right _ h))))
  have hinX6 : ∀ w ∈ u_ws RX6 TX6 4, w ∈ wsX9_state := fun w h => List.mem_cons_of_mem _ (List.mem_append_left _ (List.mem_append_left _ (List.mem_append_right _ h)))
  have hinX4 : ∀ w ∈ u_ws RX4 TX4 5, w ∈ wsX9_state := fun w h => List.mem_cons_of_mem _ (List.mem_append_left _ (List.mem_append_right _ h))
  have hinX1 : ∀ w ∈ u_ws RX1 TX1 3, w ∈ wsX9_state := fun w h => List.mem_cons_of_mem _ (List.mem_append_right _ h)
  have hP : va_P D vwCl [(h0, .inr (9, [.ref h3, .ref h1, .ref h23, .ref h2, .ref h25])), (h3, .inr (7, [.ref h4, .ref h5, .ref h10, .ref h12, .ref h19, .long S.2.2.2.2.2.1, .int S.2.2.2.2.2.2.1, .long S.2.2.2.2.2.2.2])), (h4, .inl ((cA 0), 9, .inr (.inl S.1))), (h5, .inr (5, [.ref h6, .long S.2.1.2.1, .long S.2.1.2.2.1, .long S.2.1.2.2.2.1, .long S.2.1.2.2.2.2])), (h6, .inr (3, [.ref h7, .ref h8, .ref h9, .int S.2.1.1.2.2.2])), (h7, .inl ((cA 0), 8, .inr (.inl S.2.1.1.1))), (h8, .inl ((cA 0), 8, .inr (.inl S.2.1.1.2.1))), (h9, .inl ((cA 0), 8, .inr (.inl S.2.1.1.2.2.1))), (h10, .inr (0, [.ref h11, .long S.2.2.1.2.1, .long S.2.2.1.2.2.1, .int S.2.2.1.2.2.2.1, .int S.2.2.1.2.2.2.2.1, .int S.2.2.1.2.2.2.2.2.1, .long S.2.2.1.2.2.2.2.2.2])), (h11, .inl ((cA 0), 5, .inr (.inl S.2.2.1.1))), (h12, .inr (8, [.ref h13, .ref h15, .ref h17, .long S.2.2.2.1.2.2.2.1, .int S.2.2.2.1.2.2.2.2.1, .int S.2.2.2.1.2.2.2.2.2])), (h13, .inr (2, [.ref h14, .int S.2.2.2.1.1.2])), (h14, .inl ((cA 0), 8, .inr (.inl S.2.2.2.1.1.1))), (h15, .inr (2, [.ref h16, .int S.2.2.2.1.2.1.2])), (h16, .inl ((cA 0), 8, .inr (.inl S.2.2.2.1.2.1.1))), (h17, .inr (2, [.ref h18, .int S.2.2.2.1.2.2.1.2])), (h18, .inl ((cA 0), 8, .inr (.inl S.2.2.2.1.2.2.1.1))), (h19, .inr (6, [.ref h20, .ref h21, .int S.2.2.2.2.1.2.2.1, .int S.2.2.2.2.1.2.2.2])), (h20, .inl ((cA 0), 6, .inr (.inl S.2.2.2.2.1.1))), (h21, .inr (2, [.ref h22, .int S.2.2.2.2.1.2.1.2])), (h22, .inl ((cA 0), 5, .inr (.inl S.2.2.2.2.1.2.1.1))), (h23, .inr (1, [.ref h24, .int hi.2.1, .int hi.2.2])), (h24, .inl ((cA 4), 6, .inr (.inr (.inr (.inr hi.1))))), (h25, .inr (4, [.ref h26, .ref h27, .int pd.2.2.1, .int pd.2.2.2.1, .long pd.2.2.2.2])), (h26, .inl ((cA 3), 80, .inl pd.1)), (h27, .inr (3, [.ref h28, .ref h29, .ref h30, .int pd.2.1.2.2.2])), (h28, .inl ((cA 0), 13, .inr (.inl pd.2.1.1))), (h29, .inl ((cA 0), 13, .inr (.inl pd.2.1.2.1))), (h30, .inl ((cA 0), 13, .inr (.inl pd.2.1.2.2.1)))] s.heap := hP
  have hl := lv_entry ([.ref h0, .int x1]) (n := 2) (Nat.le_of_ble_eq_true rfl)
  rw [lg_entry_eq]
  generalize (lg_sl ([.ref h0, .int x1]) ++ List.replicate (2 - (lg_sl ([.ref h0, .int x1])).length) Slot.unset).toArray = ls at hl ⊢
  have hl : lv_has ls 2 [(0, .ref h0), (1, .int x1)] := hl
  refine z_genQ (fun Q hQ => ?_)
  refine lv_iload_n hx hb dX9_state_0 rfl (lv_at hl 1 rfl) ?_
  refine lv_i2l hx hb dX9_state_1 rfl ?_
  refine lv_ldc2 hx hb hown (hts (.constantLong RX9 37 (8)) (List.mem_of_getElem? (i := 1) rfl)) dX9_state_2 ?_
  refine lv_ldc2 hx hb hown (hts (.constantLong RX9 264 (12)) (List.mem_of_getElem? (i := 2) rfl)) dX9_state_5 ?_
  refine z_Ri (va_runS (As := [.long (x1.toInt64), .long (8 : Int64), .long (12 : Int64)]) (rest := []) ⟨hx, hb, hml, hown, hts⟩ (c_X9_isBetween l D cA  (x1.toInt64) (8 : Int64) (12 : Int64)) (va_cwS 3 hts gX9_state_X9_isBetween rfl rfl rfl (by decide +kernel) ⟨Nat.le_of_ble_eq_true rfl, Nat.le_of_ble_eq_true rfl⟩) (zqSR0 hK hN) rfl rfl hl.1 rfl (lv_room (Nat.le_of_ble_eq_true rfl)) dX9_state_8 ⟨Nat.le_of_ble_eq_true rfl, Nat.le_of_ble_eq_true rfl⟩) ?_
  refine lv_if_eq (tgt := 33) hx hb dX9_state_11 (by decide) (fun c_1 => ?_) (fun c_1 => ?_)
  · skip
    refine lv_iload_n hx hb dX9_state_33 rfl (lv_at hl 1 rfl) ?_
    refine lv_i2l hx hb dX9_state_34 rfl ?_
    refine lv_ldc2 hx hb hown (hts (.constantLong RX9 269 (22)) (List.mem_of_getElem? (i := 6) rfl)) dX9_state_35 ?_
    refine lv_ldc2 hx hb hown (hts (.constantLong RX9 271 (30)) (List.mem_of_getElem? (i := 7) rfl)) dX9_state_38 ?_
    refine z_Ri (va_runS (As := [.long (x1.toInt64), .long (22 : Int64), .long (30 : Int64)]) (rest := []) ⟨hx, hb, hml, hown, hts⟩ (c_X9_isBetween l D cA  (x1.toInt64) (22 : Int64) (30 : Int64)) (va_cwS 3 hts gX9_state_X9_isBetween rfl rfl rfl (by decide +kernel) ⟨Nat.le_of_ble_eq_true rfl, Nat.le_of_ble_eq_true rfl⟩) (zqSR0 hK hN) rfl rfl hl.1 rfl (lv_room (Nat.le_of_ble_eq_true rfl)) dX9_state_41 ⟨Nat.le_of_ble_eq_true rfl, Nat.le_of_ble_eq_true rfl⟩) ?_
    refine lv_if_eq (tgt := 63) hx hb dX9_state_44 (by decide) (fun c_2 => ?_) (fun c_2 => ?_)
    · skip
      refine lv_iload_n hx hb dX9_state_63 rfl (lv_at hl 1 rfl) ?_
      refine lv_bipush (v := 8) hx hb dX9_state_64 (by decide) ?_
      refine lv_icmp_ge (tgt := 77) hx hb dX9_state_66 (by decide) (fun c_3 => ?_) (fun c_3 => ?_)
      · skip
        refine lv_aload_n hx hb dX9_state_77 rfl (lv_at hl 0 rfl) ?_
        refine lv_iload_n hx hb dX9_state_78 rfl (lv_at hl 1 rfl) ?_
        refine z_Ri (va_runV (As := [.int x1]) (rest := []) ⟨hx, hb, hml, hown, hts⟩ (c_X9_trainerNumber l D cA h0 h1 h2 h3 h4 h5 h6 h7 h8 h9 h10 h11 h12 h13 h14 h15 h16 h17 h18 h19 h20 h21 h22 h23 h24 h25 h26 h27 h28 h29 h30 S hi pd x1) (cwV 1 hts gX9_state_X9_trainerNumber rfl rfl rfl (by decide +kernel) ⟨Nat.le_of_ble_eq_true rfl, Nat.le_of_ble_eq_true rfl⟩) (zqVR hK hP hN (z_c1 (a := []) (b := []) rfl) 0 rfl rfl) rfl rfl hl.1 rfl (lv_room (Nat.le_of_ble_eq_true rfl)) dX9_state_79 ⟨Nat.le_of_ble_eq_true rfl, Nat.le_of_ble_eq_true rfl⟩) ?_
        have e9 : (zf_state S hi pd x1) = (zf_tra S hi pd x1) := by unfold zf_state; simp only [if_pos c_1, if_pos c_2, if_pos c_3] <;> rfl
        subst hQ
        exact W.iret (v := (zf_tra S hi pd x1)) hx hb hr (fun t ht hW => ⟨_, rfl, e9.symm, ht⟩) (fun q h => by cases h) dX9_state_82
      · skip
        refine lv_aload_n hx hb dX9_state_69 rfl (lv_at hl 0 rfl) ?_
        refine lv_iload_n hx hb dX9_state_70 rfl (lv_at hl 1 rfl) ?_
        refine z_Ri (va_runV (As := [.int x1]) (rest := []) ⟨hx, hb, hml, hown, hts⟩ (c_X9_voyageNumber l D cA h0 h1 h23 h2 h25 h3 h4 h5 h6 h7 h8 h9 h10 h11 h12 h13 h14 h15 h16 h17 h18 h19 h20 h21 h22 S x1) (cwV 1 hts gX9_state_X9_voyageNumber rfl rfl rfl (by decide +kernel) ⟨Nat.le_of_ble_eq_true rfl, Nat.le_of_ble_eq_true rfl⟩) (zqVR hK hP hN (z_c1 (a := []) (b := [(h23, .inr (1, [.ref h24, .int hi.2.1, .int hi.2.2])), (h24, .inl ((cA 4), 6, .inr (.inr (.inr (.inr hi.1))))), (h25, .inr (4, [.ref h26, .ref h27, .int pd.2.2.1, .int pd.2.2.2.1, .long pd.2.2.2.2])), (h26, .inl ((cA 3), 80, .inl pd.1)), (h27, .inr (3, [.ref h28, .ref h29, .ref h30, .int pd.2.1.2.2.2])), (h28, .inl ((cA 0), 13, .inr (.inl pd.2.1.1))), (h29, .inl ((cA 0), 13, .inr (.inl pd.2.1.2.1))), (h30, .inl ((cA 0), 13, .inr (.inl pd.2.1.2.2.1)))]) rfl) 0 rfl rfl) rfl rfl hl.1 rfl (lv_room (Nat.le_of_ble_eq_true rfl)) dX9_state_71 ⟨Nat.le_of_ble_eq_true rfl, Nat.le_of_ble_eq_true rfl⟩) ?_
        refine lv_goto (tgt := 82) hx hb dX9_state_74 (by decide) ?_
        have e9 : (zf_state S hi pd x1) = (zf_voy S x1) := by unfold zf_state; simp only [if_pos c_1, if_pos c_2, if_neg c_3] <;> rfl
        subst hQ
        exact W.iret (v := (zf_voy S x1)) hx hb hr (fun t ht hW => ⟨_, rfl, e9.symm, ht⟩) (fun q h => by cases h) dX9_state_82
    · skip
      refine lv_aload_n hx hb dX9_state_47 rfl (lv_at hl 0 rfl) ?_
      refine va_get (D := D) (ci := 9) (v := .ref h3) (C := RX9) (T := TX9) (N := 5) hx hb hts hinX9 hown hK hP 0 rfl rfl 0 (by decide) (hts (.fieldLink RX9 10 "GyroTrainer" "now" "LGyroTrainer$State;") (List.mem_of_getElem? (i := 3) rfl)) (fun _ h9 => h9) rfl dX9_state_48 ?_
      refine va_get (D := D) (ci := 7) (v := .ref h4) (C := RX7) (T := TX7) (N := 8) hx hb hts hinX7 hown hK hP 1 rfl rfl 0 (by decide) (hts (.fieldLink RX9 58 "GyroTrainer$State" "settings" "[J") (List.mem_of_getElem? (i := 8) rfl)) (fun _ h9 => h9) rfl dX9_state_51 ?_
      refine lv_iload_n hx hb dX9_state_54 rfl (lv_at hl 1 rfl) ?_
      refine lv_bipush (v := 22) hx hb dX9_state_55 (by decide) ?_
      refine lv_isub hx hb dX9_state_57 ?_
      refine z_Rl (va_runS (As := [.ref h4, .int (x1 - (22 : Int32))]) (rest := []) ⟨hx, hb, hml, hown, hts⟩ (c_X9_at l D cA h4 9 S.1 (x1 - (22 : Int32)) (by decide)) (va_cwS 2 hts gX9_state_X9_at rfl rfl rfl (by decide +kernel) ⟨Nat.le_of_ble_eq_true rfl, Nat.le_of_ble_eq_true rfl⟩) (zqSR hK hP hN (z_c1 (a := [(h0, .inr (9, [.ref h3, .ref h1, .ref h23, .ref h2, .ref h25])), (h3, .inr (7, [.ref h4, .ref h5, .ref h10, .ref h12, .ref h19, .long S.2.2.2.2.2.1, .int S.2.2.2.2.2.2.1, .long S.2.2.2.2.2.2.2]))]) (b := [(h5, .inr (5, [.ref h6, .long S.2.1.2.1, .long S.2.1.2.2.1, .long S.2.1.2.2.2.1, .long S.2.1.2.2.2.2])), (h6, .inr (3, [.ref h7, .ref h8, .ref h9, .int S.2.1.1.2.2.2])), (h7, .inl ((cA 0), 8, .inr (.inl S.2.1.1.1))), (h8, .inl ((cA 0), 8, .inr (.inl S.2.1.1.2.1))), (h9, .inl ((cA 0), 8, .inr (.inl S.2.1.1.2.2.1))), (h10, .inr (0, [.ref h11, .long S.2.2.1.2.1, .long S.2.2.1.2.2.1, .int S.2.2.1.2.2.2.1, .int S.2.2.1.2.2.2.2.1, .int S.2.2.1.2.2.2.2.2.1, .long S.2.2.1.2.2.2.2.2.2])), (h11, .inl ((cA 0), 5, .inr (.inl S.2.2.1.1))), (h12, .inr (8, [.ref h13, .ref h15, .ref h17, .long S.2.2.2.1.2.2.2.1, .int S.2.2.2.1.2.2.2.2.1, .int S.2.2.2.1.2.2.2.2.2])), (h13, .inr (2, [.ref h14, .int S.2.2.2.1.1.2])), (h14, .inl ((cA 0), 8, .inr (.inl S.2.2.2.1.1.1))), (h15, .inr (2, [.ref h16, .int S.2.2.2.1.2.1.2])), (h16, .inl ((cA 0), 8, .inr (.inl S.2.2.2.1.2.1.1))), (h17, .inr (2, [.ref h18, .int S.2.2.2.1.2.2.1.2])), (h18, .inl ((cA 0), 8, .inr (.inl S.2.2.2.1.2.2.1.1))), (h19, .inr (6, [.ref h20, .ref h21, .int S.2.2.2.2.1.2.2.1, .int S.2.2.2.2.1.2.2.2])), (h20, .inl ((cA 0), 6, .inr (.inl S.2.2.2.2.1.1))), (h21, .inr (2, [.ref h22, .int S.2.2.2.2.1.2.1.2])), (h22, .inl ((cA 0), 5, .inr (.inl S.2.2.2.2.1.2.1.1))), (h23, .inr (1, [.ref h24, .int hi.2.1, .int hi.2.2])), (h24, .inl ((cA 4), 6, .inr (.inr (.inr (.inr hi.1))))), (h25, .inr (4, [.ref h26, .ref h27, .int pd.2.2.1, .int pd.2.2.2.1, .long pd.2.2.2.2])), (h26, .inl ((cA 3), 80, .inl pd.1)), (h27, .inr (3, [.ref h28, .ref h29, .ref h30, .int pd.2.1.2.2.2])), (h28, .inl ((cA 0), 13, .inr (.inl pd.2.1.1))), (h29, .inl ((cA 0), 13, .inr (.inl pd.2.1.2.1))), (h30, .inl ((cA 0), 13, .inr (.inl pd.2.1.2.2.1)))]) rfl)) rfl rfl hl.1 rfl (lv_room (Nat.le_of_ble_eq_true rfl)) dX9_state_58 ⟨Nat.le_of_ble_eq_true rfl, Nat.le_of_ble_eq_true rfl⟩) ?_
      refine lv_l2i hx hb dX9_state_61 rfl ?_
      have e9 : (zf_state S hi pd x1) = ((zf_at 9 S.1 (x1 - (22 : Int32))).toInt32) := by unfold zf_state; simp only [if_pos c_1, if_neg c_2] <;> rfl
      subst hQ
      exact W.iret (v := ((zf_at 9 S.1 (x1 - (22 : Int32))).toInt32)) hx hb hr (fun t ht hW => ⟨_, rfl, e9.symm, ht⟩) (fun q h => by cases h) dX9_state_62
  · skip
    refine lv_aload_n hx hb dX9_state_14 rfl (lv_at hl 0 rfl) ?_
    refine va_get (D := D) (ci := 9) (v := .ref h3) (C := RX9) (T := TX9) (N := 5) hx hb hts hinX9 hown hK hP 0 rfl rfl 0 (by decide) (hts (.fieldLink RX9 10 "GyroTrainer" "now" "LGyroTrainer$State;") (List.mem_of_getElem? (i := 3) rfl)) (fun _ h9 => h9) rfl dX9_state_15 ?_
    refine va_get (D := D) (ci := 7) (v := .ref h10) (C := RX7) (T := TX7) (N := 8) hx hb hts hinX7 hown hK hP 1 rfl rfl 2 (by decide) (hts (.fieldLink RX9 74 "GyroTrainer$State" "gyro" "LGyroTrainer$Gyro;") (List.mem_of_getElem? (i := 4) rfl)) (fun _ h9 => h9) rfl dX9_state_18 ?_
    refine va_get (D := D) (ci := 0) (v := .ref h11) (C := RX0) (T := TX0) (N := 7) hx hb hts hinX0 hown hK hP 8 rfl rfl 0 (by decide) (hts (.fieldLink RX9 266 "GyroTrainer$Gyro" "minutesAt" "[J") (List.mem_of_getElem? (i := 5) rfl)) (fun _ h9 => h9) rfl dX9_state_21 ?_
    refine lv_iload_n hx hb dX9_state_24 rfl (lv_at hl 1 rfl) ?_
    refine lv_bipush (v := 8) hx hb dX9_state_25 (by decide) ?_
    refine lv_isub hx hb dX9_state_27 ?_
    refine z_Rl (va_runS (As := [.ref h11, .int (x1 - (8 : Int32))]) (rest := []) ⟨hx, hb, hml, hown, hts⟩ (c_X9_at l D cA h11 5 S.2.2.1.1 (x1 - (8 : Int32)) (by decide)) (va_cwS 2 hts gX9_state_X9_at rfl rfl rfl (by decide +kernel) ⟨Nat.le_of_ble_eq_true rfl, Nat.le_of_ble_eq_true rfl⟩) (zqSR hK hP hN (z_c1 (a := [(h0, .inr (9, [.ref h3, .ref h1, .ref h23, .ref h2, .ref h25])), (h3, .inr (7, [.ref h4, .ref h5, .ref h10, .ref h12, .ref h19, .long S.2.2.2.2.2.1, .int S.2.2.2.2.2.2.1, .long S.2.2.2.2.2.2.2])), (h4, .inl ((cA 0), 9, .inr (.inl S.1))), (h5, .inr (5, [.ref h6, .long S.2.1.2.1, .long S.2.1.2.2.1, .long S.2.1.2.2.2.1, .long S.2.1.2.2.2.2])), (h6, .inr (3, [.ref h7, .ref h8, .ref h9, .int S.2.1.1.2.2.2])), (h7, .inl ((cA 0), 8, .inr (.inl S.2.1.1.1))), (h8, .inl ((cA 0), 8, .inr (.inl S.2.1.1.2.1))), (h9, .inl ((cA 0), 8, .inr (.inl S.2.1.1.2.2.1))), (h10, .inr (0, [.ref h11, .long S.2.2.1.2.1, .long S.2.2.1.2.2.1, .int S.2.2.1.2.2.2.1, .int S.2.2.1.2.2.2.2.1, .int S.2.2.1.2.2.2.2.2.1, .long S.2.2.1.2.2.2.2.2.2]))]) (b := [(h12, .inr (8, [.ref h13, .ref h15, .ref h17, .long S.2.2.2.1.2.2.2.1, .int S.2.2.2.1.2.2.2.2.1, .int S.2.2.2.1.2.2.2.2.2])), (h13, .inr (2, [.ref h14, .int S.2.2.2.1.1.2])), (h14, .inl ((cA 0), 8, .inr (.inl S.2.2.2.1.1.1))), (h15, .inr (2, [.ref h16, .int S.2.2.2.1.2.1.2])), (h16, .inl ((cA 0), 8, .inr (.inl S.2.2.2.1.2.1.1))), (h17, .inr (2, [.ref h18, .int S.2.2.2.1.2.2.1.2])), (h18, .inl ((cA 0), 8, .inr (.inl S.2.2.2.1.2.2.1.1))), (h19, .inr (6, [.ref h20, .ref h21, .int S.2.2.2.2.1.2.2.1, .int S.2.2.2.2.1.2.2.2])), (h20, .inl ((cA 0), 6, .inr (.inl S.2.2.2.2.1.1))), (h21, .inr (2, [.ref h22, .int S.2.2.2.2.1.2.1.2])), (h22, .inl ((cA 0), 5, .inr (.inl S.2.2.2.2.1.2.1.1))), (h23, .inr (1, [.ref h24, .int hi.2.1, .int hi.2.2])), (h24, .inl ((cA 4), 6, .inr (.inr (.inr (.inr hi.1))))), (h25, .inr (4, [.ref h26, .ref h27, .int pd.2.2.1, .int pd.2.2.2.1, .long pd.2.2.2.2])), (h26, .inl ((cA 3), 80, .inl pd.1)), (h27, .inr (3, [.ref h28, .ref h29, .ref h30, .int pd.2.1.2.2.2])), (h28, .inl ((cA 0), 13, .inr (.inl pd.2.1.1))), (h29, .inl ((cA 0), 13, .inr (.inl pd.2.1.2.1))), (h30, .inl ((cA 0), 13, .inr (.inl pd.2.1.2.2.1)))]) rfl)) rfl rfl hl.1 rfl (lv_room (Nat.le_of_ble_eq_true rfl)) dX9_state_28 ⟨Nat.le_of_ble_eq_true rfl, Nat.le_of_ble_eq_true rfl⟩) ?_
    refine lv_l2i hx hb dX9_state_31 rfl ?_
    have e9 : (zf_state S hi pd x1) = ((zf_at 5 S.2.2.1.1 (x1 - (8 : Int32))).toInt32) := by unfold zf_state; simp only [if_neg c_1] <;> rfl
    subst hQ
    exact W.iret (v := ((zf_at 5 S.2.2.1.1 (x1 - (8 : Int32))).toInt32)) hx hb hr (fun t ht hW => ⟨_, rfl, e9.symm, ht⟩) (fun q h => by cases h) dX9_state_32
set_option maxHeartbeats 4000000 in
set_option maxRecDepth 100000 in
theorem c_X9_wave (l : Launch) (D : va_G) (cA : Nat → ClassId) (h0 h1 h2 h3 h4 h5 : Nat) (x1 : Int32) (x2 : Int32)  : Met l yX9_wave wsX9_wave ({ frames := 2, cells := 0, slots := 0, locals := 50 }) (va_Pc [.ref h0, .int x1, .int x2] (zPreR D (zty cA) ([(h0, .inr (9, [.ref h1, .ref h2, .ref h3, .ref h4, .ref h5]))]))) (vp_Si (fun x => x = (zf_wave x1 x2))) 0 0 (fun _ => False) := by
  refine Met.ofW (cc := cX9_wave) (maxL := 3) (ret := (some .int)) (by decide) rfl ?_
  intro p e s m args below meth c s₁ B hml hv
  obtain ⟨rfl, hP, hK, hN⟩ := hv
  have hx := B.exec
  have hb := B.bytes
  have hr := B.returns
  have hts := atoms_spec (ws := wsX9_wave) B.pre
  have hown : s.vm.findClass RX9 = some m.cls := findClass_of_methodNamed B.named
  have hlocks := B.notSynchronized
  have hP : va_P D vwCl [(h0, .inr (9, [.ref h1, .ref h2, .ref h3, .ref h4, .ref h5]))] s.heap := hP
  have hl := lv_entry ([.ref h0, .int x1, .int x2]) (n := 3) (Nat.le_of_ble_eq_true rfl)
  rw [lg_entry_eq]
  generalize (lg_sl ([.ref h0, .int x1, .int x2]) ++ List.replicate (3 - (lg_sl ([.ref h0, .int x1, .int x2])).length) Slot.unset).toArray = ls at hl ⊢
  have hl : lv_has ls 3 [(0, .ref h0), (1, .int x1), (2, .int x2)] := hl
  refine z_genQ (fun Q hQ => ?_)
  refine lv_iload_n hx hb dX9_wave_0 rfl (lv_at hl 1 rfl) ?_
  refine z_Ri (va_runS (As := [.int x1]) (rest := []) ⟨hx, hb, hml, hown, hts⟩ (c_X9_isCourse l D cA  x1) (va_cwS 1 hts gX9_wave_X9_isCourse rfl rfl rfl (by decide +kernel) ⟨Nat.le_of_ble_eq_true rfl, Nat.le_of_ble_eq_true rfl⟩) (zqSR0 hK hN) rfl rfl hl.1 rfl (lv_room (Nat.le_of_ble_eq_true rfl)) dX9_wave_1 ⟨Nat.le_of_ble_eq_true rfl, Nat.le_of_ble_eq_true rfl⟩) ?_
  refine lv_if_eq (tgt := 17) hx hb dX9_wave_4 (by decide) (fun c_1 => ?_) (fun c_1 => ?_)
  · skip
    refine lv_ldc hx hb hown (hts (.constant RX9 73 (-1000000002)) (List.mem_of_getElem? (i := 1) rfl)) dX9_wave_17 ?_
    have e9 : (zf_wave x1 x2) = (-1000000002 : Int32) := by unfold zf_wave; simp only [if_pos c_1] <;> rfl
    subst hQ
    exact W.iret (v := (-1000000002 : Int32)) hx hb hr (fun t ht hW => ⟨_, rfl, e9.symm, ht⟩) (fun q h => by cases h) dX9_wave_19
  · skip
    refine lv_iload_n hx hb dX9_wave_7 rfl (lv_at hl 2 rfl) ?_
    refine lv_i2l hx hb dX9_wave_8 rfl ?_
    refine lv_lconst (v := 0) hx hb dX9_wave_9 (by decide) ?_
    refine lv_lconst (v := 1) hx hb dX9_wave_10 (by decide) ?_
    refine z_Ri (va_runS (As := [.long (x2.toInt64), .long (0 : Int64), .long (1 : Int64)]) (rest := []) ⟨hx, hb, hml, hown, hts⟩ (c_X9_isBetween l D cA  (x2.toInt64) (0 : Int64) (1 : Int64)) (va_cwS 3 hts gX9_wave_X9_isBetween rfl rfl rfl (by decide +kernel) ⟨Nat.le_of_ble_eq_true rfl, Nat.le_of_ble_eq_true rfl⟩) (zqSR0 hK hN) rfl rfl hl.1 rfl (lv_room (Nat.le_of_ble_eq_true rfl)) dX9_wave_11 ⟨Nat.le_of_ble_eq_true rfl, Nat.le_of_ble_eq_true rfl⟩) ?_
    refine lv_if_ne (tgt := 20) hx hb dX9_wave_14 (by decide) (fun c_2 => ?_) (fun c_2 => ?_)
    · skip
      refine lv_iload_n hx hb dX9_wave_20 rfl (lv_at hl 2 rfl) ?_
      refine lv_if_ne (tgt := 32) hx hb dX9_wave_21 (by decide) (fun c_3 => ?_) (fun c_3 => ?_)
      · skip
        refine lv_iload_n hx hb dX9_wave_32 rfl (lv_at hl 1 rfl) ?_
        refine lv_i2l hx hb dX9_wave_33 rfl ?_
        refine z_Rl (va_runS (As := [.long (x1.toInt64)]) (rest := []) ⟨hx, hb, hml, hown, hts⟩ (c_X9_cosine l D cA  (x1.toInt64)) (va_cwS 1 hts gX9_wave_X9_cosine rfl rfl rfl (by decide +kernel) ⟨Nat.le_of_ble_eq_true rfl, Nat.le_of_ble_eq_true rfl⟩) (zqSR0 hK hN) rfl rfl hl.1 rfl (lv_room (Nat.le_of_ble_eq_true rfl)) dX9_wave_34 ⟨Nat.le_of_ble_eq_true rfl, Nat.le_of_ble_eq_true rfl⟩) ?_
        refine lv_l2i hx hb dX9_wave_37 rfl ?_
        have e9 : (zf_wave x1 x2) = ((zf_cosine (x1.toInt64)).toInt32) := by unfold zf_wave; simp only [if_neg c_1, if_neg c_2, if_neg c_3] <;> rfl
        subst hQ
        exact W.iret (v := ((zf_cosine (x1.toInt64)).toInt32)) hx hb hr (fun t ht hW => ⟨_, rfl, e9.symm, ht⟩) (fun q h => by cases h) dX9_wave_38
      · skip
        refine lv_iload_n hx hb dX9_wave_24 rfl (lv_at hl 1 rfl) ?_
        refine lv_i2l hx hb dX9_wave_25 rfl ?_
        refine z_Rl (va_runS (As := [.long (x1.toInt64)]) (rest := []) ⟨hx, hb, hml, hown, hts⟩ (c_X9_sine l D cA  (x1.toInt64)) (va_cwS 1 hts gX9_wave_X9_sine rfl rfl rfl (by decide +kernel) ⟨Nat.le_of_ble_eq_true rfl, Nat.le_of_ble_eq_true rfl⟩) (zqSR0 hK hN) rfl rfl hl.1 rfl (lv_room (Nat.le_of_ble_eq_true rfl)) dX9_wave_26 ⟨Nat.le_of_ble_eq_true rfl, Nat.le_of_ble_eq_true rfl⟩) ?_
        refine lv_goto (tgt := 37) hx hb dX9_wave_29 (by decide) ?_
        refine lv_l2i hx hb dX9_wave_37 rfl ?_
        have e9 : (zf_wave x1 x2) = ((zf_sine (x1.toInt64)).toInt32) := by unfold zf_wave; simp only [if_neg c_1, if_neg c_2, if_pos c_3] <;> rfl
        subst hQ
        exact W.iret (v := ((zf_sine (x1.toInt64)).toInt32)) hx hb hr (fun t ht hW => ⟨_, rfl, e9.symm, ht⟩) (fun q h => by cases h) dX9_wave_38
    · skip
      refine lv_ldc hx hb hown (hts (.constant RX9 73 (-1000000002)) (List.mem_of_getElem? (i := 1) rfl)) dX9_wave_17 ?_
      have e9 : (zf_wave x1 x2) = (-1000000002 : Int32) := by unfold zf_wave; simp only [if_neg c_1, if_pos c_2] <;> rfl
      subst hQ
      exact W.iret (v := (-1000000002 : Int32)) hx hb hr (fun t ht hW => ⟨_, rfl, e9.symm, ht⟩) (fun q h => by cases h) dX9_wave_19
set_option maxHeartbeats 4000000 in
set_option maxRecDepth 100000 in
theorem c_X9_restAt (l : Launch) (D : va_G) (cA : Nat → ClassId) (h0 h1 h2 h3 h4 h5 h6 h7 h8 h9 h10 h11 h12 h13 h14 h15 h16 h17 h18 h19 h20 h21 h22 h23 h24 : Nat) (S : vX7) (x1 : Int32) (x2 : Int32) (x3 : Int32)  : Met l yX9_restAt wsX9_restAt ({ frames := 3, cells := 0, slots := 0, locals := 83 }) (va_Pc [.ref h0, .int x1, .int x2, .int x3] (zPreR D (zty cA) ([(h0, .inr (9, [.ref h5, .ref h1, .ref h2, .ref h3, .ref h4]))] ++ wX7 cA h5 h6 h7 h8 h9 h10 h11 h12 h13 h14 h15 h16 h17 h18 h19 h20 h21 h22 h23 h24 S))) (vp_Si (fun x => x = (zf_restAt S x1 x2 x3))) 0 0 (fun _ => False) := by
  refine Met.ofW (cc := cX9_restAt) (maxL := 4) (ret := (some .int)) (by decide) rfl ?_
  intro p e s m args below meth c s₁ B hml hv
  obtain ⟨rfl, hP, hK, hN⟩ := hv
  have hx := B.exec
  have hb := B.bytes
  have hr := B.returns
  have hts := atoms_spec (ws := wsX9_restAt) B.pre
  have hown : s.vm.findClass RX9 = some m.cls := findClass_of_methodNamed B.named
  have hlocks := B.notSynchronized
  have hinX9 : ∀ w ∈ u_ws RX9 TX9 5, w ∈ wsX9_restAt := fun w h => List.mem_cons_of_mem _ (List.mem_append_left _ (List.mem_append_right _ h))
  have hinX7 : ∀ w ∈ u_ws RX7 TX7 8, w ∈ wsX9_restAt := fun w h => List.mem_cons_of_mem _ (List.mem_append_right _ h)
  have hP : va_P D vwCl [(h0, .inr (9, [.ref h5, .ref h1, .ref h2, .ref h3, .ref h4])), (h5, .inr (7, [.ref h6, .ref h7, .ref h12, .ref h14, .ref h21, .long S.2.2.2.2.2.1, .int S.2.2.2.2.2.2.1, .long S.2.2.2.2.2.2.2])), (h6, .inl ((cA 0), 9, .inr (.inl S.1))), (h7, .inr (5, [.ref h8, .long S.2.1.2.1, .long S.2.1.2.2.1, .long S.2.1.2.2.2.1, .long S.2.1.2.2.2.2])), (h8, .inr (3, [.ref h9, .ref h10, .ref h11, .int S.2.1.1.2.2.2])), (h9, .inl ((cA 0), 8, .inr (.inl S.2.1.1.1))), (h10, .inl ((cA 0), 8, .inr (.inl S.2.1.1.2.1))), (h11, .inl ((cA 0), 8, .inr (.inl S.2.1.1.2.2.1))), (h12, .inr (0, [.ref h13, .long S.2.2.1.2.1, .long S.2.2.1.2.2.1, .int S.2.2.1.2.2.2.1, .int S.2.2.1.2.2.2.2.1, .int S.2.2.1.2.2.2.2.2.1, .long S.2.2.1.2.2.2.2.2.2])), (h13, .inl ((cA 0), 5, .inr (.inl S.2.2.1.1))), (h14, .inr (8, [.ref h15, .ref h17, .ref h19, .long S.2.2.2.1.2.2.2.1, .int S.2.2.2.1.2.2.2.2.1, .int S.2.2.2.1.2.2.2.2.2])), (h15, .inr (2, [.ref h16, .int S.2.2.2.1.1.2])), (h16, .inl ((cA 0), 8, .inr (.inl S.2.2.2.1.1.1))), (h17, .inr (2, [.ref h18, .int S.2.2.2.1.2.1.2])), (h18, .inl ((cA 0), 8, .inr (.inl S.2.2.2.1.2.1.1))), (h19, .inr (2, [.ref h20, .int S.2.2.2.1.2.2.1.2])), (h20, .inl ((cA 0), 8, .inr (.inl S.2.2.2.1.2.2.1.1))), (h21, .inr (6, [.ref h22, .ref h23, .int S.2.2.2.2.1.2.2.1, .int S.2.2.2.2.1.2.2.2])), (h22, .inl ((cA 0), 6, .inr (.inl S.2.2.2.2.1.1))), (h23, .inr (2, [.ref h24, .int S.2.2.2.2.1.2.1.2])), (h24, .inl ((cA 0), 5, .inr (.inl S.2.2.2.2.1.2.1.1)))] s.heap := hP
  have hl := lv_entry ([.ref h0, .int x1, .int x2, .int x3]) (n := 4) (Nat.le_of_ble_eq_true rfl)
  rw [lg_entry_eq]
  generalize (lg_sl ([.ref h0, .int x1, .int x2, .int x3]) ++ List.replicate (4 - (lg_sl ([.ref h0, .int x1, .int x2, .int x3])).length) Slot.unset).toArray = ls at hl ⊢
  have hl : lv_has ls 4 [(0, .ref h0), (1, .int x1), (2, .int x2), (3, .int x3)] := hl
  refine z_genQ (fun Q hQ => ?_)
  refine lv_iload_n hx hb dX9_restAt_0 rfl (lv_at hl 1 rfl) ?_
  refine z_Ri (va_runS (As := [.int x1]) (rest := []) ⟨hx, hb, hml, hown, hts⟩ (c_X9_isDegrees l D cA  x1) (va_cwS 1 hts gX9_restAt_X9_isDegrees rfl rfl rfl (by decide +kernel) ⟨Nat.le_of_ble_eq_true rfl, Nat.le_of_ble_eq_true rfl⟩) (zqSR0 hK hN) rfl rfl hl.1 rfl (lv_room (Nat.le_of_ble_eq_true rfl)) dX9_restAt_1 ⟨Nat.le_of_ble_eq_true rfl, Nat.le_of_ble_eq_true rfl⟩) ?_
  refine lv_if_eq (tgt := 21) hx hb dX9_restAt_4 (by decide) (fun c_1 => ?_) (fun c_1 => ?_)
  · skip
    refine lv_ldc hx hb hown (hts (.constant RX9 73 (-1000000002)) (List.mem_of_getElem? (i := 1) rfl)) dX9_restAt_21 ?_
    have e9 : (zf_restAt S x1 x2 x3) = (-1000000002 : Int32) := by unfold zf_restAt; simp only [if_pos c_1] <;> rfl
    subst hQ
    exact W.iret (v := (-1000000002 : Int32)) hx hb hr (fun t ht hW => ⟨_, rfl, e9.symm, ht⟩) (fun q h => by cases h) dX9_restAt_23
  · skip
    refine lv_iload_n hx hb dX9_restAt_7 rfl (lv_at hl 2 rfl) ?_
    refine z_Ri (va_runS (As := [.int x2]) (rest := []) ⟨hx, hb, hml, hown, hts⟩ (c_X9_isSpeed l D cA  x2) (va_cwS 1 hts gX9_restAt_X9_isSpeed rfl rfl rfl (by decide +kernel) ⟨Nat.le_of_ble_eq_true rfl, Nat.le_of_ble_eq_true rfl⟩) (zqSR0 hK hN) rfl rfl hl.1 rfl (lv_room (Nat.le_of_ble_eq_true rfl)) dX9_restAt_8 ⟨Nat.le_of_ble_eq_true rfl, Nat.le_of_ble_eq_true rfl⟩) ?_
    refine lv_if_eq (tgt := 21) hx hb dX9_restAt_11 (by decide) (fun c_2 => ?_) (fun c_2 => ?_)
    · skip
      refine lv_ldc hx hb hown (hts (.constant RX9 73 (-1000000002)) (List.mem_of_getElem? (i := 1) rfl)) dX9_restAt_21 ?_
      have e9 : (zf_restAt S x1 x2 x3) = (-1000000002 : Int32) := by unfold zf_restAt; simp only [if_neg c_1, if_pos c_2] <;> rfl
      subst hQ
      exact W.iret (v := (-1000000002 : Int32)) hx hb hr (fun t ht hW => ⟨_, rfl, e9.symm, ht⟩) (fun q h => by cases h) dX9_restAt_23
    · skip
      refine lv_iload_n hx hb dX9_restAt_14 rfl (lv_at hl 3 rfl) ?_
      refine z_Ri (va_runS (As := [.int x3]) (rest := []) ⟨hx, hb, hml, hown, hts⟩ (c_X9_isCourse l D cA  x3) (va_cwS 1 hts gX9_restAt_X9_isCourse rfl rfl rfl (by decide +kernel) ⟨Nat.le_of_ble_eq_true rfl, Nat.le_of_ble_eq_true rfl⟩) (zqSR0 hK hN) rfl rfl hl.1 rfl (lv_room (Nat.le_of_ble_eq_true rfl)) dX9_restAt_15 ⟨Nat.le_of_ble_eq_true rfl, Nat.le_of_ble_eq_true rfl⟩) ?_
      refine lv_if_ne (tgt := 24) hx hb dX9_restAt_18 (by decide) (fun c_3 => ?_) (fun c_3 => ?_)
      · skip
        refine lv_aload_n hx hb dX9_restAt_24 rfl (lv_at hl 0 rfl) ?_
        refine va_get (D := D) (ci := 9) (v := .ref h5) (C := RX9) (T := TX9) (N := 5) hx hb hts hinX9 hown hK hP 0 rfl rfl 0 (by decide) (hts (.fieldLink RX9 10 "GyroTrainer" "now" "LGyroTrainer$State;") (List.mem_of_getElem? (i := 2) rfl)) (fun _ h9 => h9) rfl dX9_restAt_25 ?_
        refine va_get (D := D) (ci := 7) (v := .ref h6) (C := RX7) (T := TX7) (N := 8) hx hb hts hinX7 hown hK hP 1 rfl rfl 0 (by decide) (hts (.fieldLink RX9 58 "GyroTrainer$State" "settings" "[J") (List.mem_of_getElem? (i := 3) rfl)) (fun _ h9 => h9) rfl dX9_restAt_28 ?_
        refine lv_iconst (v := 2) hx hb dX9_restAt_31 (by decide) ?_
        refine z_Rl (va_runS (As := [.ref h6, .int (2 : Int32)]) (rest := []) ⟨hx, hb, hml, hown, hts⟩ (c_X9_at l D cA h6 9 S.1 (2 : Int32) (by decide)) (va_cwS 2 hts gX9_restAt_X9_at rfl rfl rfl (by decide +kernel) ⟨Nat.le_of_ble_eq_true rfl, Nat.le_of_ble_eq_true rfl⟩) (zqSR hK hP hN (z_c1 (a := [(h0, .inr (9, [.ref h5, .ref h1, .ref h2, .ref h3, .ref h4])), (h5, .inr (7, [.ref h6, .ref h7, .ref h12, .ref h14, .ref h21, .long S.2.2.2.2.2.1, .int S.2.2.2.2.2.2.1, .long S.2.2.2.2.2.2.2]))]) (b := [(h7, .inr (5, [.ref h8, .long S.2.1.2.1, .long S.2.1.2.2.1, .long S.2.1.2.2.2.1, .long S.2.1.2.2.2.2])), (h8, .inr (3, [.ref h9, .ref h10, .ref h11, .int S.2.1.1.2.2.2])), (h9, .inl ((cA 0), 8, .inr (.inl S.2.1.1.1))), (h10, .inl ((cA 0), 8, .inr (.inl S.2.1.1.2.1))), (h11, .inl ((cA 0), 8, .inr (.inl S.2.1.1.2.2.1))), (h12, .inr (0, [.ref h13, .long S.2.2.1.2.1, .long S.2.2.1.2.2.1, .int S.2.2.1.2.2.2.1, .int S.2.2.1.2.2.2.2.1, .int S.2.2.1.2.2.2.2.2.1, .long S.2.2.1.2.2.2.2.2.2])), (h13, .inl ((cA 0), 5, .inr (.inl S.2.2.1.1))), (h14, .inr (8, [.ref h15, .ref h17, .ref h19, .long S.2.2.2.1.2.2.2.1, .int S.2.2.2.1.2.2.2.2.1, .int S.2.2.2.1.2.2.2.2.2])), (h15, .inr (2, [.ref h16, .int S.2.2.2.1.1.2])), (h16, .inl ((cA 0), 8, .inr (.inl S.2.2.2.1.1.1))), (h17, .inr (2, [.ref h18, .int S.2.2.2.1.2.1.2])), (h18, .inl ((cA 0), 8, .inr (.inl S.2.2.2.1.2.1.1))), (h19, .inr (2, [.ref h20, .int S.2.2.2.1.2.2.1.2])), (h20, .inl ((cA 0), 8, .inr (.inl S.2.2.2.1.2.2.1.1))), (h21, .inr (6, [.ref h22, .ref h23, .int S.2.2.2.2.1.2.2.1, .int S.2.2.2.2.1.2.2.2])), (h22, .inl ((cA 0), 6, .inr (.inl S.2.2.2.2.1.1))), (h23, .inr (2, [.ref h24, .int S.2.2.2.2.1.2.1.2])), (h24, .inl ((cA 0), 5, .inr (.inl S.2.2.2.2.1.2.1.1)))]) rfl)) rfl rfl hl.1 rfl (lv_room (Nat.le_of_ble_eq_true rfl)) dX9_restAt_32 ⟨Nat.le_of_ble_eq_true rfl, Nat.le_of_ble_eq_true rfl⟩) ?_
        refine lv_iload_n hx hb dX9_restAt_35 rfl (lv_at hl 1 rfl) ?_
        refine lv_i2l hx hb dX9_restAt_36 rfl ?_
        refine lv_ldc2 hx hb hown (hts (.constantLong RX9 107 (1000000)) (List.mem_of_getElem? (i := 4) rfl)) dX9_restAt_37 ?_
        refine lv_lmul hx hb dX9_restAt_40 ?_
        refine lv_iload_n hx hb dX9_restAt_41 rfl (lv_at hl 2 rfl) ?_
        refine lv_i2l hx hb dX9_restAt_42 rfl ?_
        refine lv_iload_n hx hb dX9_restAt_43 rfl (lv_at hl 3 rfl) ?_
        refine lv_i2l hx hb dX9_restAt_44 rfl ?_
        refine z_Rl (va_runS (As := [.long (zf_at 9 S.1 (2 : Int32)), .long ((x1.toInt64) * (1000000 : Int64)), .long (x2.toInt64), .long (x3.toInt64)]) (rest := []) ⟨hx, hb, hml, hown, hts⟩ (c_X9_freeRest l D cA  (zf_at 9 S.1 (2 : Int32)) ((x1.toInt64) * (1000000 : Int64)) (x2.toInt64) (x3.toInt64)) (va_cwS 4 hts gX9_restAt_X9_freeRest rfl rfl rfl (by decide +kernel) ⟨Nat.le_of_ble_eq_true rfl, Nat.le_of_ble_eq_true rfl⟩) (zqSR0 hK hN) rfl rfl hl.1 rfl (lv_room (Nat.le_of_ble_eq_true rfl)) dX9_restAt_45 ⟨Nat.le_of_ble_eq_true rfl, Nat.le_of_ble_eq_true rfl⟩) ?_
        refine lv_l2i hx hb dX9_restAt_48 rfl ?_
        have e9 : (zf_restAt S x1 x2 x3) = ((zf_free (zf_at 9 S.1 (2 : Int32)) ((x1.toInt64) * (1000000 : Int64)) (x2.toInt64) (x3.toInt64)).toInt32) := by unfold zf_restAt; simp only [if_neg c_1, if_neg c_2, if_neg c_3] <;> rfl
        subst hQ
        exact W.iret (v := ((zf_free (zf_at 9 S.1 (2 : Int32)) ((x1.toInt64) * (1000000 : Int64)) (x2.toInt64) (x3.toInt64)).toInt32)) hx hb hr (fun t ht hW => ⟨_, rfl, e9.symm, ht⟩) (fun q h => by cases h) dX9_restAt_49
      · skip
        refine lv_ldc hx hb hown (hts (.constant RX9 73 (-1000000002)) (List.mem_of_getElem? (i := 1) rfl)) dX9_restAt_21 ?_
        have e9 : (zf_restAt S x1 x2 x3) = (-1000000002 : Int32) := by unfold zf_restAt; simp only [if_neg c_1, if_neg c_2, if_pos c_3] <;> rfl
        subst hQ
        exact W.iret (v := (-1000000002 : Int32)) hx hb hr (fun t ht hW => ⟨_, rfl, e9.symm, ht⟩) (fun q h => by cases h) dX9_restAt_23
set_option maxHeartbeats 4000000 in
set_option maxRecDepth 100000 in
theorem c_X9_compass (l : Launch) (D : va_G) (cA : Nat → ClassId) (h0 h1 h2 h3 h4 h5 h6 h7 h8 h9 h10 h11 h12 h13 h14 h15 h16 h17 h18 h19 h20 h21 h22 h23 h24 : Nat) (kc : Nat) (S : vX7) (x1 : Int32) (hck : S.2.2.2.2.1.2.1.2 = nI kc) (hc5 : kc ≤ 5) : Met l yX9_compass wsX9_compass ({ frames := 4, cells := 0, slots := 0, locals := 105 }) (va_Pc [.ref h0, .int x1] (zPreR D (zty cA) ([(h0, .inr (9, [.ref h5, .ref h1, .ref h2, .ref h3, .ref h4]))] ++ wX7 cA h5 h6 h7 h8 h9 h10 h11 h12 h13 h14 h15 h16 h17 h18 h19 h20 h21 h22 h23 h24 S))) (vp_Si (fun x => x = (zf_comp S kc x1))) 0 0 (fun _ => False) := by
  refine Met.ofW (cc := cX9_compass) (maxL := 2) (ret := (some .int)) (by decide) rfl ?_
  intro p e s m args below meth c s₁ B hml hv
  obtain ⟨rfl, hP, hK, hN⟩ := hv
  have hx := B.exec
  have hb := B.bytes
  have hr := B.returns
  have hts := atoms_spec (ws := wsX9_compass) B.pre
  have hown : s.vm.findClass RX9 = some m.cls := findClass_of_methodNamed B.named
  have hlocks := B.notSynchronized
  have hinX9 : ∀ w ∈ u_ws RX9 TX9 5, w ∈ wsX9_compass := fun w h => List.mem_cons_of_mem _ (List.mem_append_left _ (List.mem_append_left _ (List.mem_append_left _ (List.mem_append_left _ (List.mem_append_left _ (List.mem_append_left _ (List.mem_append_right _ h)))))))
  have hinX7 : ∀ w ∈ u_ws RX7 TX7 8, w ∈ wsX9_compass := fun w h => List.mem_cons_of_mem _ (List.mem_append_left _ (List.mem_append_left _ (List.mem_append_left _ (List.mem_append_left _ (List.mem_append_left _ (List.mem_append_right _ h))))))
  have hinX0 : ∀ w ∈ u_ws RX0 TX0 7, w ∈ wsX9_compass := fun w h => List.mem_cons_of_mem _ (List.mem_append_left _ (List.mem_append_left _ (List.mem_append_left _ (List.mem_append_left _ (List.mem_append_right _ h)))))
  have hinX8 : ∀ w ∈ u_ws RX8 TX8 6, w ∈ wsX9_compass := fun w h => List.mem_cons_of_mem _ (List.mem_append_left _ (List.mem_append_left _ (List.mem_append_left _ (List.mem_append_right _ h))))
  have hinX2 : ∀ w ∈ u_ws RX2 TX2 2, w ∈ wsX9_compass := fun w h => List.mem_cons_of_mem _ (List.mem_append_left _ (List.mem_append_left _ (List.mem_append_right _ h)))
  have hinX6 : ∀ w ∈ u_ws RX6 TX6 4, w ∈ wsX9_compass := fun w h => List.mem_cons_of_mem _ (List.mem_append_left _ (List.mem_append_right _ h))
  have hinX5 : ∀ w ∈ u_ws RX5 TX5 5, w ∈ wsX9_compass := fun w h => List.mem_cons_of_mem _ (List.mem_append_right _ h)
  have hP : va_P D vwCl [(h0, .inr (9, [.ref h5, .ref h1, .ref h2, .ref h3, .ref h4])), (h5, .inr (7, [.ref h6, .ref h7, .ref h12, .ref h14, .ref h21, .long S.2.2.2.2.2.1, .int S.2.2.2.2.2.2.1, .long S.2.2.2.2.2.2.2])), (h6, .inl ((cA 0), 9, .inr (.inl S.1))), (h7, .inr (5, [.ref h8, .long S.2.1.2.1, .long S.2.1.2.2.1, .long S.2.1.2.2.2.1, .long S.2.1.2.2.2.2])), (h8, .inr (3, [.ref h9, .ref h10, .ref h11, .int S.2.1.1.2.2.2])), (h9, .inl ((cA 0), 8, .inr (.inl S.2.1.1.1))), (h10, .inl ((cA 0), 8, .inr (.inl S.2.1.1.2.1))), (h11, .inl ((cA 0), 8, .inr (.inl S.2.1.1.2.2.1))), (h12, .inr (0, [.ref h13, .long S.2.2.1.2.1, .long S.2.2.1.2.2.1, .int S.2.2.1.2.2.2.1, .int S.2.2.1.2.2.2.2.1, .int S.2.2.1.2.2.2.2.2.1, .long S.2.2.1.2.2.2.2.2.2])), (h13, .inl ((cA 0), 5, .inr (.inl S.2.2.1.1))), (h14, .inr (8, [.ref h15, .ref h17, .ref h19, .long S.2.2.2.1.2.2.2.1, .int S.2.2.2.1.2.2.2.2.1, .int S.2.2.2.1.2.2.2.2.2])), (h15, .inr (2, [.ref h16, .int S.2.2.2.1.1.2])), (h16, .inl ((cA 0), 8, .inr (.inl S.2.2.2.1.1.1))), (h17, .inr (2, [.ref h18, .int S.2.2.2.1.2.1.2])), (h18, .inl ((cA 0), 8, .inr (.inl S.2.2.2.1.2.1.1))), (h19, .inr (2, [.ref h20, .int S.2.2.2.1.2.2.1.2])), (h20, .inl ((cA 0), 8, .inr (.inl S.2.2.2.1.2.2.1.1))), (h21, .inr (6, [.ref h22, .ref h23, .int S.2.2.2.2.1.2.2.1, .int S.2.2.2.2.1.2.2.2])), (h22, .inl ((cA 0), 6, .inr (.inl S.2.2.2.2.1.1))), (h23, .inr (2, [.ref h24, .int S.2.2.2.2.1.2.1.2])), (h24, .inl ((cA 0), 5, .inr (.inl S.2.2.2.2.1.2.1.1)))] s.heap := hP
  have hl := lv_entry ([.ref h0, .int x1]) (n := 2) (Nat.le_of_ble_eq_true rfl)
  rw [lg_entry_eq]
  generalize (lg_sl ([.ref h0, .int x1]) ++ List.replicate (2 - (lg_sl ([.ref h0, .int x1])).length) Slot.unset).toArray = ls at hl ⊢
  have hl : lv_has ls 2 [(0, .ref h0), (1, .int x1)] := hl
  refine z_genQ (fun Q hQ => ?_)
  refine lv_iload_n hx hb dX9_compass_0 rfl (lv_at hl 1 rfl) ?_
  rcases z_sw x1 0 10 with c_1 | ⟨j, hj, c_1⟩
  · skip
    refine lv_tableOut (tgt := 246) hx hb dX9_compass_1 c_1 (by decide) ?_
    refine lv_ldc hx hb hown (hts (.constant RX9 73 (-1000000002)) (List.mem_of_getElem? (i := 16) rfl)) dX9_compass_246 ?_
    have e9 : (zf_comp S kc x1) = (-1000000002 : Int32) := by unfold zf_comp; simp only [if_neg (z_out c_1 (0 : Int32) (by decide)), if_neg (z_out c_1 (1 : Int32) (by decide)), if_neg (z_out c_1 (2 : Int32) (by decide)), if_neg (z_out c_1 (3 : Int32) (by decide)), if_neg (z_out c_1 (4 : Int32) (by decide)), if_neg (z_out c_1 (5 : Int32) (by decide)), if_neg (z_out c_1 (6 : Int32) (by decide)), if_neg (z_out c_1 (7 : Int32) (by decide)), if_neg (z_out c_1 (8 : Int32) (by decide)), if_neg (z_out c_1 (9 : Int32) (by decide)), if_neg (z_out c_1 (10 : Int32) (by decide))] <;> rfl
    subst hQ
    exact W.iret (v := (-1000000002 : Int32)) hx hb hr (fun t ht hW => ⟨_, rfl, e9.symm, ht⟩) (fun q h => by cases h) dX9_compass_248
  · skip
    have hj2 : j = 0 ∨ j = 1 ∨ j = 2 ∨ j = 3 ∨ j = 4 ∨ j = 5 ∨ j = 6 ∨ j = 7 ∨ j = 8 ∨ j = 9 ∨ j = 10 := by omega
    rcases hj2 with rfl | rfl | rfl | rfl | rfl | rfl | rfl | rfl | rfl | rfl | rfl
    · skip
      have c_1 : x1 = 0 := c_1.trans (by decide)
      refine lv_tableIn (tgt := 60) (off := 59) hx hb dX9_compass_1 (by rw [c_1]; decide) (by rw [c_1]; decide) (by rw [c_1]; decide) (by decide) ?_
      refine lv_aload_n hx hb dX9_compass_60 rfl (lv_at hl 0 rfl) ?_
      refine va_get (D := D) (ci := 9) (v := .ref h5) (C := RX9) (T := TX9) (N := 5) hx hb hts hinX9 hown hK hP 0 rfl rfl 0 (by decide) (hts (.fieldLink RX9 10 "GyroTrainer" "now" "LGyroTrainer$State;") (List.mem_of_getElem? (i := 1) rfl)) (fun _ h9 => h9) rfl dX9_compass_61 ?_
      refine va_get (D := D) (ci := 7) (v := .ref h12) (C := RX7) (T := TX7) (N := 8) hx hb hts hinX7 hown hK hP 1 rfl rfl 2 (by decide) (hts (.fieldLink RX9 74 "GyroTrainer$State" "gyro" "LGyroTrainer$Gyro;") (List.mem_of_getElem? (i := 2) rfl)) (fun _ h9 => h9) rfl dX9_compass_64 ?_
      refine va_get (D := D) (ci := 0) (v := .long S.2.2.1.2.1) (C := RX0) (T := TX0) (N := 7) hx hb hts hinX0 hown hK hP 8 rfl rfl 1 (by decide) (hts (.fieldLink RX9 78 "GyroTrainer$Gyro" "error" "J") (List.mem_of_getElem? (i := 3) rfl)) (fun _ h9 => h9) rfl dX9_compass_67 ?_
      refine lv_l2i hx hb dX9_compass_70 rfl ?_
      have e9 : (zf_comp S kc x1) = (S.2.2.1.2.1.toInt32) := by unfold zf_comp; simp only [if_pos c_1] <;> rfl
      subst hQ
      exact W.iret (v := (S.2.2.1.2.1.toInt32)) hx hb hr (fun t ht hW => ⟨_, rfl, e9.symm, ht⟩) (fun q h => by cases h) dX9_compass_71
    · skip
      have c_1 : x1 = 1 := c_1.trans (by decide)
      refine lv_tableIn (tgt := 72) (off := 71) hx hb dX9_compass_1 (by rw [c_1]; decide) (by rw [c_1]; decide) (by rw [c_1]; decide) (by decide) ?_
      refine lv_aload_n hx hb dX9_compass_72 rfl (lv_at hl 0 rfl) ?_
      refine va_get (D := D) (ci := 9) (v := .ref h5) (C := RX9) (T := TX9) (N := 5) hx hb hts hinX9 hown hK hP 0 rfl rfl 0 (by decide) (hts (.fieldLink RX9 10 "GyroTrainer" "now" "LGyroTrainer$State;") (List.mem_of_getElem? (i := 1) rfl)) (fun _ h9 => h9) rfl dX9_compass_73 ?_
      refine va_get (D := D) (ci := 7) (v := .ref h12) (C := RX7) (T := TX7) (N := 8) hx hb hts hinX7 hown hK hP 1 rfl rfl 2 (by decide) (hts (.fieldLink RX9 74 "GyroTrainer$State" "gyro" "LGyroTrainer$Gyro;") (List.mem_of_getElem? (i := 2) rfl)) (fun _ h9 => h9) rfl dX9_compass_76 ?_
      refine va_get (D := D) (ci := 0) (v := .long S.2.2.1.2.2.1) (C := RX0) (T := TX0) (N := 7) hx hb hts hinX0 hown hK hP 8 rfl rfl 2 (by decide) (hts (.fieldLink RX9 84 "GyroTrainer$Gyro" "tilt" "J") (List.mem_of_getElem? (i := 4) rfl)) (fun _ h9 => h9) rfl dX9_compass_79 ?_
      refine lv_l2i hx hb dX9_compass_82 rfl ?_
      have e9 : (zf_comp S kc x1) = (S.2.2.1.2.2.1.toInt32) := by unfold zf_comp; simp only [if_neg (show ¬ x1 = (0 : Int32) from fun h => absurd (c_1.symm.trans h) (by decide)), if_pos c_1] <;> rfl
      subst hQ
      exact W.iret (v := (S.2.2.1.2.2.1.toInt32)) hx hb hr (fun t ht hW => ⟨_, rfl, e9.symm, ht⟩) (fun q h => by cases h) dX9_compass_83
    · skip
      have c_1 : x1 = 2 := c_1.trans (by decide)
      refine lv_tableIn (tgt := 84) (off := 83) hx hb dX9_compass_1 (by rw [c_1]; decide) (by rw [c_1]; decide) (by rw [c_1]; decide) (by decide) ?_
      refine lv_aload_n hx hb dX9_compass_84 rfl (lv_at hl 0 rfl) ?_
      refine va_get (D := D) (ci := 9) (v := .ref h5) (C := RX9) (T := TX9) (N := 5) hx hb hts hinX9 hown hK hP 0 rfl rfl 0 (by decide) (hts (.fieldLink RX9 10 "GyroTrainer" "now" "LGyroTrainer$State;") (List.mem_of_getElem? (i := 1) rfl)) (fun _ h9 => h9) rfl dX9_compass_85 ?_
      refine z_Rl (va_runV (As := []) (rest := []) ⟨hx, hb, hml, hown, hts⟩ (c_X7_rest l D cA h5 h6 h7 h8 h9 h10 h11 h12 h13 h14 h15 h16 h17 h18 h19 h20 h21 h22 h23 h24 S) (cwV 0 hts gX9_compass_X7_rest rfl rfl rfl (by decide +kernel) ⟨Nat.le_of_ble_eq_true rfl, Nat.le_of_ble_eq_true rfl⟩) (zqVR hK hP hN (z_c1 (a := [(h0, .inr (9, [.ref h5, .ref h1, .ref h2, .ref h3, .ref h4]))]) (b := []) rfl) 0 rfl rfl) rfl rfl hl.1 rfl (lv_room (Nat.le_of_ble_eq_true rfl)) dX9_compass_88 ⟨Nat.le_of_ble_eq_true rfl, Nat.le_of_ble_eq_true rfl⟩) ?_
      refine lv_l2i hx hb dX9_compass_91 rfl ?_
      have e9 : (zf_comp S kc x1) = ((zf_rest S).toInt32) := by unfold zf_comp; simp only [if_neg (show ¬ x1 = (0 : Int32) from fun h => absurd (c_1.symm.trans h) (by decide)), if_neg (show ¬ x1 = (1 : Int32) from fun h => absurd (c_1.symm.trans h) (by decide)), if_pos c_1] <;> rfl
      subst hQ
      exact W.iret (v := ((zf_rest S).toInt32)) hx hb hr (fun t ht hW => ⟨_, rfl, e9.symm, ht⟩) (fun q h => by cases h) dX9_compass_92
    · skip
      have c_1 : x1 = 3 := c_1.trans (by decide)
      refine lv_tableIn (tgt := 93) (off := 92) hx hb dX9_compass_1 (by rw [c_1]; decide) (by rw [c_1]; decide) (by rw [c_1]; decide) (by decide) ?_
      refine lv_aload_n hx hb dX9_compass_93 rfl (lv_at hl 0 rfl) ?_
      refine va_get (D := D) (ci := 9) (v := .ref h5) (C := RX9) (T := TX9) (N := 5) hx hb hts hinX9 hown hK hP 0 rfl rfl 0 (by decide) (hts (.fieldLink RX9 10 "GyroTrainer" "now" "LGyroTrainer$State;") (List.mem_of_getElem? (i := 1) rfl)) (fun _ h9 => h9) rfl dX9_compass_94 ?_
      refine va_get (D := D) (ci := 7) (v := .ref h14) (C := RX7) (T := TX7) (N := 8) hx hb hts hinX7 hown hK hP 1 rfl rfl 3 (by decide) (hts (.fieldLink RX9 150 "GyroTrainer$State" "swings" "LGyroTrainer$Swings;") (List.mem_of_getElem? (i := 5) rfl)) (fun _ h9 => h9) rfl dX9_compass_97 ?_
      refine va_get (D := D) (ci := 8) (v := .int S.2.2.2.1.2.2.2.2.1) (C := RX8) (T := TX8) (N := 6) hx hb hts hinX8 hown hK hP 10 rfl rfl 4 (by decide) (hts (.fieldLink RX9 229 "GyroTrainer$Swings" "direction" "I") (List.mem_of_getElem? (i := 6) rfl)) (fun _ h9 => h9) rfl dX9_compass_100 ?_
      have e9 : (zf_comp S kc x1) = S.2.2.2.1.2.2.2.2.1 := by unfold zf_comp; simp only [if_neg (show ¬ x1 = (0 : Int32) from fun h => absurd (c_1.symm.trans h) (by decide)), if_neg (show ¬ x1 = (1 : Int32) from fun h => absurd (c_1.symm.trans h) (by decide)), if_neg (show ¬ x1 = (2 : Int32) from fun h => absurd (c_1.symm.trans h) (by decide)), if_pos c_1] <;> rfl
      subst hQ
      exact W.iret (v := S.2.2.2.1.2.2.2.2.1) hx hb hr (fun t ht hW => ⟨_, rfl, e9.symm, ht⟩) (fun q h => by cases h) dX9_compass_103
    · skip
      have c_1 : x1 = 4 := c_1.trans (by decide)
      refine lv_tableIn (tgt := 104) (off := 103) hx hb dX9_compass_1 (by rw [c_1]; decide) (by rw [c_1]; decide) (by rw [c_1]; decide) (by decide) ?_
      refine lv_aload_n hx hb dX9_compass_104 rfl (lv_at hl 0 rfl) ?_
      refine va_get (D := D) (ci := 9) (v := .ref h5) (C := RX9) (T := TX9) (N := 5) hx hb hts hinX9 hown hK hP 0 rfl rfl 0 (by decide) (hts (.fieldLink RX9 10 "GyroTrainer" "now" "LGyroTrainer$State;") (List.mem_of_getElem? (i := 1) rfl)) (fun _ h9 => h9) rfl dX9_compass_105 ?_
      refine va_get (D := D) (ci := 7) (v := .ref h14) (C := RX7) (T := TX7) (N := 8) hx hb hts hinX7 hown hK hP 1 rfl rfl 3 (by decide) (hts (.fieldLink RX9 150 "GyroTrainer$State" "swings" "LGyroTrainer$Swings;") (List.mem_of_getElem? (i := 5) rfl)) (fun _ h9 => h9) rfl dX9_compass_108 ?_
      refine z_Ri (va_runV (As := []) (rest := []) ⟨hx, hb, hml, hown, hts⟩ (c_X8_canSettle l D cA h14 h15 h16 h17 h18 h19 h20 S.2.2.2.1) (cwV 0 hts gX9_compass_X8_canSettle rfl rfl rfl (by decide +kernel) ⟨Nat.le_of_ble_eq_true rfl, Nat.le_of_ble_eq_true rfl⟩) (zqVR hK hP hN (z_c1 (a := [(h0, .inr (9, [.ref h5, .ref h1, .ref h2, .ref h3, .ref h4])), (h5, .inr (7, [.ref h6, .ref h7, .ref h12, .ref h14, .ref h21, .long S.2.2.2.2.2.1, .int S.2.2.2.2.2.2.1, .long S.2.2.2.2.2.2.2])), (h6, .inl ((cA 0), 9, .inr (.inl S.1))), (h7, .inr (5, [.ref h8, .long S.2.1.2.1, .long S.2.1.2.2.1, .long S.2.1.2.2.2.1, .long S.2.1.2.2.2.2])), (h8, .inr (3, [.ref h9, .ref h10, .ref h11, .int S.2.1.1.2.2.2])), (h9, .inl ((cA 0), 8, .inr (.inl S.2.1.1.1))), (h10, .inl ((cA 0), 8, .inr (.inl S.2.1.1.2.1))), (h11, .inl ((cA 0), 8, .inr (.inl S.2.1.1.2.2.1))), (h12, .inr (0, [.ref h13, .long S.2.2.1.2.1, .long S.2.2.1.2.2.1, .int S.2.2.1.2.2.2.1, .int S.2.2.1.2.2.2.2.1, .int S.2.2.1.2.2.2.2.2.1, .long S.2.2.1.2.2.2.2.2.2])), (h13, .inl ((cA 0), 5, .inr (.inl S.2.2.1.1)))]) (b := [(h21, .inr (6, [.ref h22, .ref h23, .int S.2.2.2.2.1.2.2.1, .int S.2.2.2.2.1.2.2.2])), (h22, .inl ((cA 0), 6, .inr (.inl S.2.2.2.2.1.1))), (h23, .inr (2, [.ref h24, .int S.2.2.2.2.1.2.1.2])), (h24, .inl ((cA 0), 5, .inr (.inl S.2.2.2.2.1.2.1.1)))]) rfl) 0 rfl rfl) rfl rfl hl.1 rfl (lv_room (Nat.le_of_ble_eq_true rfl)) dX9_compass_111 ⟨Nat.le_of_ble_eq_true rfl, Nat.le_of_ble_eq_true rfl⟩) ?_
      refine lv_if_eq (tgt := 131) hx hb dX9_compass_114 (by decide) (fun c_2 => ?_) (fun c_2 => ?_)
      · skip
        refine lv_ldc hx hb hown (hts (.constant RX9 239 (-1000000006)) (List.mem_of_getElem? (i := 7) rfl)) dX9_compass_131 ?_
        have e9 : (zf_comp S kc x1) = (-1000000006 : Int32) := by unfold zf_comp; simp only [if_neg (show ¬ x1 = (0 : Int32) from fun h => absurd (c_1.symm.trans h) (by decide)), if_neg (show ¬ x1 = (1 : Int32) from fun h => absurd (c_1.symm.trans h) (by decide)), if_neg (show ¬ x1 = (2 : Int32) from fun h => absurd (c_1.symm.trans h) (by decide)), if_neg (show ¬ x1 = (3 : Int32) from fun h => absurd (c_1.symm.trans h) (by decide)), if_pos c_1, if_pos c_2] <;> rfl
        subst hQ
        exact W.iret (v := (-1000000006 : Int32)) hx hb hr (fun t ht hW => ⟨_, rfl, e9.symm, ht⟩) (fun q h => by cases h) dX9_compass_133
      · skip
        refine lv_aload_n hx hb dX9_compass_117 rfl (lv_at hl 0 rfl) ?_
        refine va_get (D := D) (ci := 9) (v := .ref h5) (C := RX9) (T := TX9) (N := 5) hx hb hts hinX9 hown hK hP 0 rfl rfl 0 (by decide) (hts (.fieldLink RX9 10 "GyroTrainer" "now" "LGyroTrainer$State;") (List.mem_of_getElem? (i := 1) rfl)) (fun _ h9 => h9) rfl dX9_compass_118 ?_
        refine va_get (D := D) (ci := 7) (v := .ref h14) (C := RX7) (T := TX7) (N := 8) hx hb hts hinX7 hown hK hP 1 rfl rfl 3 (by decide) (hts (.fieldLink RX9 150 "GyroTrainer$State" "swings" "LGyroTrainer$Swings;") (List.mem_of_getElem? (i := 5) rfl)) (fun _ h9 => h9) rfl dX9_compass_121 ?_
        refine z_Rl (va_runV (As := []) (rest := []) ⟨hx, hb, hml, hown, hts⟩ (c_X8_settledByTurns l D cA h14 h15 h16 h17 h18 h19 h20 S.2.2.2.1) (cwV 0 hts gX9_compass_X8_settledByTurns rfl rfl rfl (by decide +kernel) ⟨Nat.le_of_ble_eq_true rfl, Nat.le_of_ble_eq_true rfl⟩) (zqVR hK hP hN (z_c1 (a := [(h0, .inr (9, [.ref h5, .ref h1, .ref h2, .ref h3, .ref h4])), (h5, .inr (7, [.ref h6, .ref h7, .ref h12, .ref h14, .ref h21, .long S.2.2.2.2.2.1, .int S.2.2.2.2.2.2.1, .long S.2.2.2.2.2.2.2])), (h6, .inl ((cA 0), 9, .inr (.inl S.1))), (h7, .inr (5, [.ref h8, .long S.2.1.2.1, .long S.2.1.2.2.1, .long S.2.1.2.2.2.1, .long S.2.1.2.2.2.2])), (h8, .inr (3, [.ref h9, .ref h10, .ref h11, .int S.2.1.1.2.2.2])), (h9, .inl ((cA 0), 8, .inr (.inl S.2.1.1.1))), (h10, .inl ((cA 0), 8, .inr (.inl S.2.1.1.2.1))), (h11, .inl ((cA 0), 8, .inr (.inl S.2.1.1.2.2.1))), (h12, .inr (0, [.ref h13, .long S.2.2.1.2.1, .long S.2.2.1.2.2.1, .int S.2.2.1.2.2.2.1, .int S.2.2.1.2.2.2.2.1, .int S.2.2.1.2.2.2.2.2.1, .long S.2.2.1.2.2.2.2.2.2])), (h13, .inl ((cA 0), 5, .inr (.inl S.2.2.1.1)))]) (b := [(h21, .inr (6, [.ref h22, .ref h23, .int S.2.2.2.2.1.2.2.1, .int S.2.2.2.2.1.2.2.2])), (h22, .inl ((cA 0), 6, .inr (.inl S.2.2.2.2.1.1))), (h23, .inr (2, [.ref h24, .int S.2.2.2.2.1.2.1.2])), (h24, .inl ((cA 0), 5, .inr (.inl S.2.2.2.2.1.2.1.1)))]) rfl) 0 rfl rfl) rfl rfl hl.1 rfl (lv_room (Nat.le_of_ble_eq_true rfl)) dX9_compass_124 ⟨Nat.le_of_ble_eq_true rfl, Nat.le_of_ble_eq_true rfl⟩) ?_
        refine lv_l2i hx hb dX9_compass_127 rfl ?_
        refine lv_goto (tgt := 133) hx hb dX9_compass_128 (by decide) ?_
        have e9 : (zf_comp S kc x1) = ((zf_byTurns S.2.2.2.1).toInt32) := by unfold zf_comp; simp only [if_neg (show ¬ x1 = (0 : Int32) from fun h => absurd (c_1.symm.trans h) (by decide)), if_neg (show ¬ x1 = (1 : Int32) from fun h => absurd (c_1.symm.trans h) (by decide)), if_neg (show ¬ x1 = (2 : Int32) from fun h => absurd (c_1.symm.trans h) (by decide)), if_neg (show ¬ x1 = (3 : Int32) from fun h => absurd (c_1.symm.trans h) (by decide)), if_pos c_1, if_neg c_2] <;> rfl
        subst hQ
        exact W.iret (v := ((zf_byTurns S.2.2.2.1).toInt32)) hx hb hr (fun t ht hW => ⟨_, rfl, e9.symm, ht⟩) (fun q h => by cases h) dX9_compass_133
    · skip
      have c_1 : x1 = 5 := c_1.trans (by decide)
      refine lv_tableIn (tgt := 134) (off := 133) hx hb dX9_compass_1 (by rw [c_1]; decide) (by rw [c_1]; decide) (by rw [c_1]; decide) (by decide) ?_
      refine lv_aload_n hx hb dX9_compass_134 rfl (lv_at hl 0 rfl) ?_
      refine va_get (D := D) (ci := 9) (v := .ref h5) (C := RX9) (T := TX9) (N := 5) hx hb hts hinX9 hown hK hP 0 rfl rfl 0 (by decide) (hts (.fieldLink RX9 10 "GyroTrainer" "now" "LGyroTrainer$State;") (List.mem_of_getElem? (i := 1) rfl)) (fun _ h9 => h9) rfl dX9_compass_135 ?_
      refine va_get (D := D) (ci := 7) (v := .ref h14) (C := RX7) (T := TX7) (N := 8) hx hb hts hinX7 hown hK hP 1 rfl rfl 3 (by decide) (hts (.fieldLink RX9 150 "GyroTrainer$State" "swings" "LGyroTrainer$Swings;") (List.mem_of_getElem? (i := 5) rfl)) (fun _ h9 => h9) rfl dX9_compass_138 ?_
      refine z_Ri (va_runV (As := []) (rest := []) ⟨hx, hb, hml, hown, hts⟩ (c_X8_canSettle l D cA h14 h15 h16 h17 h18 h19 h20 S.2.2.2.1) (cwV 0 hts gX9_compass_X8_canSettle rfl rfl rfl (by decide +kernel) ⟨Nat.le_of_ble_eq_true rfl, Nat.le_of_ble_eq_true rfl⟩) (zqVR hK hP hN (z_c1 (a := [(h0, .inr (9, [.ref h5, .ref h1, .ref h2, .ref h3, .ref h4])), (h5, .inr (7, [.ref h6, .ref h7, .ref h12, .ref h14, .ref h21, .long S.2.2.2.2.2.1, .int S.2.2.2.2.2.2.1, .long S.2.2.2.2.2.2.2])), (h6, .inl ((cA 0), 9, .inr (.inl S.1))), (h7, .inr (5, [.ref h8, .long S.2.1.2.1, .long S.2.1.2.2.1, .long S.2.1.2.2.2.1, .long S.2.1.2.2.2.2])), (h8, .inr (3, [.ref h9, .ref h10, .ref h11, .int S.2.1.1.2.2.2])), (h9, .inl ((cA 0), 8, .inr (.inl S.2.1.1.1))), (h10, .inl ((cA 0), 8, .inr (.inl S.2.1.1.2.1))), (h11, .inl ((cA 0), 8, .inr (.inl S.2.1.1.2.2.1))), (h12, .inr (0, [.ref h13, .long S.2.2.1.2.1, .long S.2.2.1.2.2.1, .int S.2.2.1.2.2.2.1, .int S.2.2.1.2.2.2.2.1, .int S.2.2.1.2.2.2.2.2.1, .long S.2.2.1.2.2.2.2.2.2])), (h13, .inl ((cA 0), 5, .inr (.inl S.2.2.1.1)))]) (b := [(h21, .inr (6, [.ref h22, .ref h23, .int S.2.2.2.2.1.2.2.1, .int S.2.2.2.2.1.2.2.2])), (h22, .inl ((cA 0), 6, .inr (.inl S.2.2.2.2.1.1))), (h23, .inr (2, [.ref h24, .int S.2.2.2.2.1.2.1.2])), (h24, .inl ((cA 0), 5, .inr (.inl S.2.2.2.2.1.2.1.1)))]) rfl) 0 rfl rfl) rfl rfl hl.1 rfl (lv_room (Nat.le_of_ble_eq_true rfl)) dX9_compass_141 ⟨Nat.le_of_ble_eq_true rfl, Nat.le_of_ble_eq_true rfl⟩) ?_
      refine lv_if_eq (tgt := 161) hx hb dX9_compass_144 (by decide) (fun c_3 => ?_) (fun c_3 => ?_)
      · skip
        refine lv_ldc hx hb hown (hts (.constant RX9 239 (-1000000006)) (List.mem_of_getElem? (i := 7) rfl)) dX9_compass_161 ?_
        have e9 : (zf_comp S kc x1) = (-1000000006 : Int32) := by unfold zf_comp; simp only [if_neg (show ¬ x1 = (0 : Int32) from fun h => absurd (c_1.symm.trans h) (by decide)), if_neg (show ¬ x1 = (1 : Int32) from fun h => absurd (c_1.symm.trans h) (by decide)), if_neg (show ¬ x1 = (2 : Int32) from fun h => absurd (c_1.symm.trans h) (by decide)), if_neg (show ¬ x1 = (3 : Int32) from fun h => absurd (c_1.symm.trans h) (by decide)), if_neg (show ¬ x1 = (4 : Int32) from fun h => absurd (c_1.symm.trans h) (by decide)), if_pos c_1, if_pos c_3] <;> rfl
        subst hQ
        exact W.iret (v := (-1000000006 : Int32)) hx hb hr (fun t ht hW => ⟨_, rfl, e9.symm, ht⟩) (fun q h => by cases h) dX9_compass_163
      · skip
        refine lv_aload_n hx hb dX9_compass_147 rfl (lv_at hl 0 rfl) ?_
        refine va_get (D := D) (ci := 9) (v := .ref h5) (C := RX9) (T := TX9) (N := 5) hx hb hts hinX9 hown hK hP 0 rfl rfl 0 (by decide) (hts (.fieldLink RX9 10 "GyroTrainer" "now" "LGyroTrainer$State;") (List.mem_of_getElem? (i := 1) rfl)) (fun _ h9 => h9) rfl dX9_compass_148 ?_
        refine va_get (D := D) (ci := 7) (v := .ref h14) (C := RX7) (T := TX7) (N := 8) hx hb hts hinX7 hown hK hP 1 rfl rfl 3 (by decide) (hts (.fieldLink RX9 150 "GyroTrainer$State" "swings" "LGyroTrainer$Swings;") (List.mem_of_getElem? (i := 5) rfl)) (fun _ h9 => h9) rfl dX9_compass_151 ?_
        refine z_Rl (va_runV (As := []) (rest := []) ⟨hx, hb, hml, hown, hts⟩ (c_X8_settledByMean l D cA h14 h15 h16 h17 h18 h19 h20 S.2.2.2.1) (cwV 0 hts gX9_compass_X8_settledByMean rfl rfl rfl (by decide +kernel) ⟨Nat.le_of_ble_eq_true rfl, Nat.le_of_ble_eq_true rfl⟩) (zqVR hK hP hN (z_c1 (a := [(h0, .inr (9, [.ref h5, .ref h1, .ref h2, .ref h3, .ref h4])), (h5, .inr (7, [.ref h6, .ref h7, .ref h12, .ref h14, .ref h21, .long S.2.2.2.2.2.1, .int S.2.2.2.2.2.2.1, .long S.2.2.2.2.2.2.2])), (h6, .inl ((cA 0), 9, .inr (.inl S.1))), (h7, .inr (5, [.ref h8, .long S.2.1.2.1, .long S.2.1.2.2.1, .long S.2.1.2.2.2.1, .long S.2.1.2.2.2.2])), (h8, .inr (3, [.ref h9, .ref h10, .ref h11, .int S.2.1.1.2.2.2])), (h9, .inl ((cA 0), 8, .inr (.inl S.2.1.1.1))), (h10, .inl ((cA 0), 8, .inr (.inl S.2.1.1.2.1))), (h11, .inl ((cA 0), 8, .inr (.inl S.2.1.1.2.2.1))), (h12, .inr (0, [.ref h13, .long S.2.2.1.2.1, .long S.2.2.1.2.2.1, .int S.2.2.1.2.2.2.1, .int S.2.2.1.2.2.2.2.1, .int S.2.2.1.2.2.2.2.2.1, .long S.2.2.1.2.2.2.2.2.2])), (h13, .inl ((cA 0), 5, .inr (.inl S.2.2.1.1)))]) (b := [(h21, .inr (6, [.ref h22, .ref h23, .int S.2.2.2.2.1.2.2.1, .int S.2.2.2.2.1.2.2.2])), (h22, .inl ((cA 0), 6, .inr (.inl S.2.2.2.2.1.1))), (h23, .inr (2, [.ref h24, .int S.2.2.2.2.1.2.1.2])), (h24, .inl ((cA 0), 5, .inr (.inl S.2.2.2.2.1.2.1.1)))]) rfl) 0 rfl rfl) rfl rfl hl.1 rfl (lv_room (Nat.le_of_ble_eq_true rfl)) dX9_compass_154 ⟨Nat.le_of_ble_eq_true rfl, Nat.le_of_ble_eq_true rfl⟩) ?_
        refine lv_l2i hx hb dX9_compass_157 rfl ?_
        refine lv_goto (tgt := 163) hx hb dX9_compass_158 (by decide) ?_
        have e9 : (zf_comp S kc x1) = ((zf_byMean S.2.2.2.1).toInt32) := by unfold zf_comp; simp only [if_neg (show ¬ x1 = (0 : Int32) from fun h => absurd (c_1.symm.trans h) (by decide)), if_neg (show ¬ x1 = (1 : Int32) from fun h => absurd (c_1.symm.trans h) (by decide)), if_neg (show ¬ x1 = (2 : Int32) from fun h => absurd (c_1.symm.trans h) (by decide)), if_neg (show ¬ x1 = (3 : Int32) from fun h => absurd (c_1.symm.trans h) (by decide)), if_neg (show ¬ x1 = (4 : Int32) from fun h => absurd (c_1.symm.trans h) (by decide)), if_pos c_1, if_neg c_3] <;> rfl
        subst hQ
        exact W.iret (v := ((zf_byMean S.2.2.2.1).toInt32)) hx hb hr (fun t ht hW => ⟨_, rfl, e9.symm, ht⟩) (fun q h => by cases h) dX9_compass_163
    · skip
      have c_1 : x1 = 6 := c_1.trans (by decide)
      refine lv_tableIn (tgt := 164) (off := 163) hx hb dX9_compass_1 (by rw [c_1]; decide) (by rw [c_1]; decide) (by rw [c_1]; decide) (by decide) ?_
      refine lv_aload_n hx hb dX9_compass_164 rfl (lv_at hl 0 rfl) ?_
      refine va_get (D := D) (ci := 9) (v := .ref h5) (C := RX9) (T := TX9) (N := 5) hx hb hts hinX9 hown hK hP 0 rfl rfl 0 (by decide) (hts (.fieldLink RX9 10 "GyroTrainer" "now" "LGyroTrainer$State;") (List.mem_of_getElem? (i := 1) rfl)) (fun _ h9 => h9) rfl dX9_compass_165 ?_
      refine va_get (D := D) (ci := 7) (v := .ref h14) (C := RX7) (T := TX7) (N := 8) hx hb hts hinX7 hown hK hP 1 rfl rfl 3 (by decide) (hts (.fieldLink RX9 150 "GyroTrainer$State" "swings" "LGyroTrainer$Swings;") (List.mem_of_getElem? (i := 5) rfl)) (fun _ h9 => h9) rfl dX9_compass_168 ?_
      refine va_get (D := D) (ci := 8) (v := .ref h15) (C := RX8) (T := TX8) (N := 6) hx hb hts hinX8 hown hK hP 10 rfl rfl 0 (by decide) (hts (.fieldLink RX9 185 "GyroTrainer$Swings" "errors" "LGyroTrainer$Latest;") (List.mem_of_getElem? (i := 8) rfl)) (fun _ h9 => h9) rfl dX9_compass_171 ?_
      refine va_get (D := D) (ci := 2) (v := .int S.2.2.2.1.1.2) (C := RX2) (T := TX2) (N := 2) hx hb hts hinX2 hown hK hP 11 rfl rfl 1 (by decide) (hts (.fieldLink RX9 189 "GyroTrainer$Latest" "count" "I") (List.mem_of_getElem? (i := 9) rfl)) (fun _ h9 => h9) rfl dX9_compass_174 ?_
      refine lv_iconst (v := 2) hx hb dX9_compass_177 (by decide) ?_
      refine lv_icmp_lt (tgt := 195) hx hb dX9_compass_178 (by decide) (fun c_4 => ?_) (fun c_4 => ?_)
      · skip
        refine lv_ldc hx hb hown (hts (.constant RX9 239 (-1000000006)) (List.mem_of_getElem? (i := 7) rfl)) dX9_compass_195 ?_
        have e9 : (zf_comp S kc x1) = (-1000000006 : Int32) := by unfold zf_comp; simp only [if_neg (show ¬ x1 = (0 : Int32) from fun h => absurd (c_1.symm.trans h) (by decide)), if_neg (show ¬ x1 = (1 : Int32) from fun h => absurd (c_1.symm.trans h) (by decide)), if_neg (show ¬ x1 = (2 : Int32) from fun h => absurd (c_1.symm.trans h) (by decide)), if_neg (show ¬ x1 = (3 : Int32) from fun h => absurd (c_1.symm.trans h) (by decide)), if_neg (show ¬ x1 = (4 : Int32) from fun h => absurd (c_1.symm.trans h) (by decide)), if_neg (show ¬ x1 = (5 : Int32) from fun h => absurd (c_1.symm.trans h) (by decide)), if_pos c_1, if_pos c_4] <;> rfl
        subst hQ
        exact W.iret (v := (-1000000006 : Int32)) hx hb hr (fun t ht hW => ⟨_, rfl, e9.symm, ht⟩) (fun q h => by cases h) dX9_compass_197
      · skip
        refine lv_aload_n hx hb dX9_compass_181 rfl (lv_at hl 0 rfl) ?_
        refine va_get (D := D) (ci := 9) (v := .ref h5) (C := RX9) (T := TX9) (N := 5) hx hb hts hinX9 hown hK hP 0 rfl rfl 0 (by decide) (hts (.fieldLink RX9 10 "GyroTrainer" "now" "LGyroTrainer$State;") (List.mem_of_getElem? (i := 1) rfl)) (fun _ h9 => h9) rfl dX9_compass_182 ?_
        refine va_get (D := D) (ci := 7) (v := .ref h14) (C := RX7) (T := TX7) (N := 8) hx hb hts hinX7 hown hK hP 1 rfl rfl 3 (by decide) (hts (.fieldLink RX9 150 "GyroTrainer$State" "swings" "LGyroTrainer$Swings;") (List.mem_of_getElem? (i := 5) rfl)) (fun _ h9 => h9) rfl dX9_compass_185 ?_
        refine z_Rl (va_runV (As := []) (rest := []) ⟨hx, hb, hml, hown, hts⟩ (c_X8_lastSwing l D cA h14 h15 h16 h17 h18 h19 h20 S.2.2.2.1) (cwV 0 hts gX9_compass_X8_lastSwing rfl rfl rfl (by decide +kernel) ⟨Nat.le_of_ble_eq_true rfl, Nat.le_of_ble_eq_true rfl⟩) (zqVR hK hP hN (z_c1 (a := [(h0, .inr (9, [.ref h5, .ref h1, .ref h2, .ref h3, .ref h4])), (h5, .inr (7, [.ref h6, .ref h7, .ref h12, .ref h14, .ref h21, .long S.2.2.2.2.2.1, .int S.2.2.2.2.2.2.1, .long S.2.2.2.2.2.2.2])), (h6, .inl ((cA 0), 9, .inr (.inl S.1))), (h7, .inr (5, [.ref h8, .long S.2.1.2.1, .long S.2.1.2.2.1, .long S.2.1.2.2.2.1, .long S.2.1.2.2.2.2])), (h8, .inr (3, [.ref h9, .ref h10, .ref h11, .int S.2.1.1.2.2.2])), (h9, .inl ((cA 0), 8, .inr (.inl S.2.1.1.1))), (h10, .inl ((cA 0), 8, .inr (.inl S.2.1.1.2.1))), (h11, .inl ((cA 0), 8, .inr (.inl S.2.1.1.2.2.1))), (h12, .inr (0, [.ref h13, .long S.2.2.1.2.1, .long S.2.2.1.2.2.1, .int S.2.2.1.2.2.2.1, .int S.2.2.1.2.2.2.2.1, .int S.2.2.1.2.2.2.2.2.1, .long S.2.2.1.2.2.2.2.2.2])), (h13, .inl ((cA 0), 5, .inr (.inl S.2.2.1.1)))]) (b := [(h21, .inr (6, [.ref h22, .ref h23, .int S.2.2.2.2.1.2.2.1, .int S.2.2.2.2.1.2.2.2])), (h22, .inl ((cA 0), 6, .inr (.inl S.2.2.2.2.1.1))), (h23, .inr (2, [.ref h24, .int S.2.2.2.2.1.2.1.2])), (h24, .inl ((cA 0), 5, .inr (.inl S.2.2.2.2.1.2.1.1)))]) rfl) 0 rfl rfl) rfl rfl hl.1 rfl (lv_room (Nat.le_of_ble_eq_true rfl)) dX9_compass_188 ⟨Nat.le_of_ble_eq_true rfl, Nat.le_of_ble_eq_true rfl⟩) ?_
        refine lv_l2i hx hb dX9_compass_191 rfl ?_
        refine lv_goto (tgt := 197) hx hb dX9_compass_192 (by decide) ?_
        have e9 : (zf_comp S kc x1) = ((zf_last S.2.2.2.1).toInt32) := by unfold zf_comp; simp only [if_neg (show ¬ x1 = (0 : Int32) from fun h => absurd (c_1.symm.trans h) (by decide)), if_neg (show ¬ x1 = (1 : Int32) from fun h => absurd (c_1.symm.trans h) (by decide)), if_neg (show ¬ x1 = (2 : Int32) from fun h => absurd (c_1.symm.trans h) (by decide)), if_neg (show ¬ x1 = (3 : Int32) from fun h => absurd (c_1.symm.trans h) (by decide)), if_neg (show ¬ x1 = (4 : Int32) from fun h => absurd (c_1.symm.trans h) (by decide)), if_neg (show ¬ x1 = (5 : Int32) from fun h => absurd (c_1.symm.trans h) (by decide)), if_pos c_1, if_neg c_4] <;> rfl
        subst hQ
        exact W.iret (v := ((zf_last S.2.2.2.1).toInt32)) hx hb hr (fun t ht hW => ⟨_, rfl, e9.symm, ht⟩) (fun q h => by cases h) dX9_compass_197
    · skip
      have c_1 : x1 = 7 := c_1.trans (by decide)
      refine lv_tableIn (tgt := 198) (off := 197) hx hb dX9_compass_1 (by rw [c_1]; decide) (by rw [c_1]; decide) (by rw [c_1]; decide) (by decide) ?_
      refine lv_aload_n hx hb dX9_compass_198 rfl (lv_at hl 0 rfl) ?_
      refine va_get (D := D) (ci := 9) (v := .ref h5) (C := RX9) (T := TX9) (N := 5) hx hb hts hinX9 hown hK hP 0 rfl rfl 0 (by decide) (hts (.fieldLink RX9 10 "GyroTrainer" "now" "LGyroTrainer$State;") (List.mem_of_getElem? (i := 1) rfl)) (fun _ h9 => h9) rfl dX9_compass_199 ?_
      refine va_get (D := D) (ci := 7) (v := .ref h21) (C := RX7) (T := TX7) (N := 8) hx hb hts hinX7 hown hK hP 1 rfl rfl 4 (by decide) (hts (.fieldLink RX9 115 "GyroTrainer$State" "sights" "LGyroTrainer$Sights;") (List.mem_of_getElem? (i := 10) rfl)) (fun _ h9 => h9) rfl dX9_compass_202 ?_
      refine va_get (D := D) (ci := 6) (v := .ref h23) (C := RX6) (T := TX6) (N := 4) hx hb hts hinX6 hown hK hP 17 rfl rfl 1 (by decide) (hts (.fieldLink RX9 246 "GyroTrainer$Sights" "checks" "LGyroTrainer$Latest;") (List.mem_of_getElem? (i := 11) rfl)) (fun _ h9 => h9) rfl dX9_compass_205 ?_
      refine lv_iconst (v := 5) hx hb dX9_compass_208 (by decide) ?_
      refine z_Rl (va_runV (As := [.int (5 : Int32)]) (rest := []) ⟨hx, hb, hml, hown, hts⟩ (c_X2_sumOf l D cA h23 h24 5 S.2.2.2.2.1.2.1 kc 5 (by decide) hck hc5 (by decide)) (cwV 1 hts gX9_compass_X2_sumOf rfl rfl rfl (by decide +kernel) ⟨Nat.le_of_ble_eq_true rfl, Nat.le_of_ble_eq_true rfl⟩) (zqVR hK hP hN (z_c1 (a := [(h0, .inr (9, [.ref h5, .ref h1, .ref h2, .ref h3, .ref h4])), (h5, .inr (7, [.ref h6, .ref h7, .ref h12, .ref h14, .ref h21, .long S.2.2.2.2.2.1, .int S.2.2.2.2.2.2.1, .long S.2.2.2.2.2.2.2])), (h6, .inl ((cA 0), 9, .inr (.inl S.1))), (h7, .inr (5, [.ref h8, .long S.2.1.2.1, .long S.2.1.2.2.1, .long S.2.1.2.2.2.1, .long S.2.1.2.2.2.2])), (h8, .inr (3, [.ref h9, .ref h10, .ref h11, .int S.2.1.1.2.2.2])), (h9, .inl ((cA 0), 8, .inr (.inl S.2.1.1.1))), (h10, .inl ((cA 0), 8, .inr (.inl S.2.1.1.2.1))), (h11, .inl ((cA 0), 8, .inr (.inl S.2.1.1.2.2.1))), (h12, .inr (0, [.ref h13, .long S.2.2.1.2.1, .long S.2.2.1.2.2.1, .int S.2.2.1.2.2.2.1, .int S.2.2.1.2.2.2.2.1, .int S.2.2.1.2.2.2.2.2.1, .long S.2.2.1.2.2.2.2.2.2])), (h13, .inl ((cA 0), 5, .inr (.inl S.2.2.1.1))), (h14, .inr (8, [.ref h15, .ref h17, .ref h19, .long S.2.2.2.1.2.2.2.1, .int S.2.2.2.1.2.2.2.2.1, .int S.2.2.2.1.2.2.2.2.2])), (h15, .inr (2, [.ref h16, .int S.2.2.2.1.1.2])), (h16, .inl ((cA 0), 8, .inr (.inl S.2.2.2.1.1.1))), (h17, .inr (2, [.ref h18, .int S.2.2.2.1.2.1.2])), (h18, .inl ((cA 0), 8, .inr (.inl S.2.2.2.1.2.1.1))), (h19, .inr (2, [.ref h20, .int S.2.2.2.1.2.2.1.2])), (h20, .inl ((cA 0), 8, .inr (.inl S.2.2.2.1.2.2.1.1))), (h21, .inr (6, [.ref h22, .ref h23, .int S.2.2.2.2.1.2.2.1, .int S.2.2.2.2.1.2.2.2])), (h22, .inl ((cA 0), 6, .inr (.inl S.2.2.2.2.1.1)))]) (b := []) rfl) 0 rfl rfl) rfl rfl hl.1 rfl (lv_room (Nat.le_of_ble_eq_true rfl)) dX9_compass_209 ⟨Nat.le_of_ble_eq_true rfl, Nat.le_of_ble_eq_true rfl⟩) ?_
      refine lv_l2i hx hb dX9_compass_212 rfl ?_
      have e9 : (zf_comp S kc x1) = ((zsum S.2.2.2.2.1.2.1.1 (min kc 5)).toInt32) := by unfold zf_comp; simp only [if_neg (show ¬ x1 = (0 : Int32) from fun h => absurd (c_1.symm.trans h) (by decide)), if_neg (show ¬ x1 = (1 : Int32) from fun h => absurd (c_1.symm.trans h) (by decide)), if_neg (show ¬ x1 = (2 : Int32) from fun h => absurd (c_1.symm.trans h) (by decide)), if_neg (show ¬ x1 = (3 : Int32) from fun h => absurd (c_1.symm.trans h) (by decide)), if_neg (show ¬ x1 = (4 : Int32) from fun h => absurd (c_1.symm.trans h) (by decide)), if_neg (show ¬ x1 = (5 : Int32) from fun h => absurd (c_1.symm.trans h) (by decide)), if_neg (show ¬ x1 = (6 : Int32) from fun h => absurd (c_1.symm.trans h) (by decide)), if_pos c_1] <;> rfl
      subst hQ
      exact W.iret (v := ((zsum S.2.2.2.2.1.2.1.1 (min kc 5)).toInt32)) hx hb hr (fun t ht hW => ⟨_, rfl, e9.symm, ht⟩) (fun q h => by cases h) dX9_compass_213
    · skip
      have c_1 : x1 = 8 := c_1.trans (by decide)
      refine lv_tableIn (tgt := 214) (off := 213) hx hb dX9_compass_1 (by rw [c_1]; decide) (by rw [c_1]; decide) (by rw [c_1]; decide) (by decide) ?_
      refine lv_aload_n hx hb dX9_compass_214 rfl (lv_at hl 0 rfl) ?_
      refine va_get (D := D) (ci := 9) (v := .ref h5) (C := RX9) (T := TX9) (N := 5) hx hb hts hinX9 hown hK hP 0 rfl rfl 0 (by decide) (hts (.fieldLink RX9 10 "GyroTrainer" "now" "LGyroTrainer$State;") (List.mem_of_getElem? (i := 1) rfl)) (fun _ h9 => h9) rfl dX9_compass_215 ?_
      refine va_get (D := D) (ci := 7) (v := .ref h7) (C := RX7) (T := TX7) (N := 8) hx hb hts hinX7 hown hK hP 1 rfl rfl 1 (by decide) (hts (.fieldLink RX9 91 "GyroTrainer$State" "ship" "LGyroTrainer$Ship;") (List.mem_of_getElem? (i := 12) rfl)) (fun _ h9 => h9) rfl dX9_compass_218 ?_
      refine va_get (D := D) (ci := 5) (v := .long S.2.1.2.1) (C := RX5) (T := TX5) (N := 5) hx hb hts hinX5 hown hK hP 3 rfl rfl 1 (by decide) (hts (.fieldLink RX9 109 "GyroTrainer$Ship" "latitude" "J") (List.mem_of_getElem? (i := 13) rfl)) (fun _ h9 => h9) rfl dX9_compass_221 ?_
      refine lv_l2i hx hb dX9_compass_224 rfl ?_
      have e9 : (zf_comp S kc x1) = (S.2.1.2.1.toInt32) := by unfold zf_comp; simp only [if_neg (show ¬ x1 = (0 : Int32) from fun h => absurd (c_1.symm.trans h) (by decide)), if_neg (show ¬ x1 = (1 : Int32) from fun h => absurd (c_1.symm.trans h) (by decide)), if_neg (show ¬ x1 = (2 : Int32) from fun h => absurd (c_1.symm.trans h) (by decide)), if_neg (show ¬ x1 = (3 : Int32) from fun h => absurd (c_1.symm.trans h) (by decide)), if_neg (show ¬ x1 = (4 : Int32) from fun h => absurd (c_1.symm.trans h) (by decide)), if_neg (show ¬ x1 = (5 : Int32) from fun h => absurd (c_1.symm.trans h) (by decide)), if_neg (show ¬ x1 = (6 : Int32) from fun h => absurd (c_1.symm.trans h) (by decide)), if_neg (show ¬ x1 = (7 : Int32) from fun h => absurd (c_1.symm.trans h) (by decide)), if_pos c_1] <;> rfl
      subst hQ
      exact W.iret (v := (S.2.1.2.1.toInt32)) hx hb hr (fun t ht hW => ⟨_, rfl, e9.symm, ht⟩) (fun q h => by cases h) dX9_compass_225
    · skip
      have c_1 : x1 = 9 := c_1.trans (by decide)
      refine lv_tableIn (tgt := 226) (off := 225) hx hb dX9_compass_1 (by rw [c_1]; decide) (by rw [c_1]; decide) (by rw [c_1]; decide) (by decide) ?_
      refine lv_aload_n hx hb dX9_compass_226 rfl (lv_at hl 0 rfl) ?_
      refine va_get (D := D) (ci := 9) (v := .ref h5) (C := RX9) (T := TX9) (N := 5) hx hb hts hinX9 hown hK hP 0 rfl rfl 0 (by decide) (hts (.fieldLink RX9 10 "GyroTrainer" "now" "LGyroTrainer$State;") (List.mem_of_getElem? (i := 1) rfl)) (fun _ h9 => h9) rfl dX9_compass_227 ?_
      refine va_get (D := D) (ci := 7) (v := .ref h12) (C := RX7) (T := TX7) (N := 8) hx hb hts hinX7 hown hK hP 1 rfl rfl 2 (by decide) (hts (.fieldLink RX9 74 "GyroTrainer$State" "gyro" "LGyroTrainer$Gyro;") (List.mem_of_getElem? (i := 2) rfl)) (fun _ h9 => h9) rfl dX9_compass_230 ?_
      refine va_get (D := D) (ci := 0) (v := .int S.2.2.1.2.2.2.1) (C := RX0) (T := TX0) (N := 7) hx hb hts hinX0 hown hK hP 8 rfl rfl 3 (by decide) (hts (.fieldLink RX9 179 "GyroTrainer$Gyro" "setDegrees" "I") (List.mem_of_getElem? (i := 14) rfl)) (fun _ h9 => h9) rfl dX9_compass_233 ?_
      have e9 : (zf_comp S kc x1) = S.2.2.1.2.2.2.1 := by unfold zf_comp; simp only [if_neg (show ¬ x1 = (0 : Int32) from fun h => absurd (c_1.symm.trans h) (by decide)), if_neg (show ¬ x1 = (1 : Int32) from fun h => absurd (c_1.symm.trans h) (by decide)), if_neg (show ¬ x1 = (2 : Int32) from fun h => absurd (c_1.symm.trans h) (by decide)), if_neg (show ¬ x1 = (3 : Int32) from fun h => absurd (c_1.symm.trans h) (by decide)), if_neg (show ¬ x1 = (4 : Int32) from fun h => absurd (c_1.symm.trans h) (by decide)), if_neg (show ¬ x1 = (5 : Int32) from fun h => absurd (c_1.symm.trans h) (by decide)), if_neg (show ¬ x1 = (6 : Int32) from fun h => absurd (c_1.symm.trans h) (by decide)), if_neg (show ¬ x1 = (7 : Int32) from fun h => absurd (c_1.symm.trans h) (by decide)), if_neg (show ¬ x1 = (8 : Int32) from fun h => absurd (c_1.symm.trans h) (by decide)), if_pos c_1] <;> rfl
      subst hQ
      exact W.iret (v := S.2.2.1.2.2.2.1) hx hb hr (fun t ht hW => ⟨_, rfl, e9.symm, ht⟩) (fun q h => by cases h) dX9_compass_236
    · skip
      have c_1 : x1 = 10 := c_1.trans (by decide)
      refine lv_tableIn (tgt := 237) (off := 236) hx hb dX9_compass_1 (by rw [c_1]; decide) (by rw [c_1]; decide) (by rw [c_1]; decide) (by decide) ?_
      refine lv_aload_n hx hb dX9_compass_237 rfl (lv_at hl 0 rfl) ?_
      refine va_get (D := D) (ci := 9) (v := .ref h5) (C := RX9) (T := TX9) (N := 5) hx hb hts hinX9 hown hK hP 0 rfl rfl 0 (by decide) (hts (.fieldLink RX9 10 "GyroTrainer" "now" "LGyroTrainer$State;") (List.mem_of_getElem? (i := 1) rfl)) (fun _ h9 => h9) rfl dX9_compass_238 ?_
      refine va_get (D := D) (ci := 7) (v := .long S.2.2.2.2.2.2.2) (C := RX7) (T := TX7) (N := 8) hx hb hts hinX7 hown hK hP 1 rfl rfl 7 (by decide) (hts (.fieldLink RX9 226 "GyroTrainer$State" "faults" "J") (List.mem_of_getElem? (i := 15) rfl)) (fun _ h9 => h9) rfl dX9_compass_241 ?_
      refine lv_l2i hx hb dX9_compass_244 rfl ?_
      have e9 : (zf_comp S kc x1) = (S.2.2.2.2.2.2.2.toInt32) := by unfold zf_comp; simp only [if_neg (show ¬ x1 = (0 : Int32) from fun h => absurd (c_1.symm.trans h) (by decide)), if_neg (show ¬ x1 = (1 : Int32) from fun h => absurd (c_1.symm.trans h) (by decide)), if_neg (show ¬ x1 = (2 : Int32) from fun h => absurd (c_1.symm.trans h) (by decide)), if_neg (show ¬ x1 = (3 : Int32) from fun h => absurd (c_1.symm.trans h) (by decide)), if_neg (show ¬ x1 = (4 : Int32) from fun h => absurd (c_1.symm.trans h) (by decide)), if_neg (show ¬ x1 = (5 : Int32) from fun h => absurd (c_1.symm.trans h) (by decide)), if_neg (show ¬ x1 = (6 : Int32) from fun h => absurd (c_1.symm.trans h) (by decide)), if_neg (show ¬ x1 = (7 : Int32) from fun h => absurd (c_1.symm.trans h) (by decide)), if_neg (show ¬ x1 = (8 : Int32) from fun h => absurd (c_1.symm.trans h) (by decide)), if_neg (show ¬ x1 = (9 : Int32) from fun h => absurd (c_1.symm.trans h) (by decide)), if_pos c_1] <;> rfl
      subst hQ
      exact W.iret (v := (S.2.2.2.2.2.2.2.toInt32)) hx hb hr (fun t ht hW => ⟨_, rfl, e9.symm, ht⟩) (fun q h => by cases h) dX9_compass_245
set_option maxHeartbeats 4000000 in
set_option maxRecDepth 100000 in
theorem c_X9_check (l : Launch) (D : va_G) (cA : Nat → ClassId) (h0 h1 h2 h3 h4 h5 h6 h7 h8 h9 h10 h11 h12 h13 h14 h15 h16 h17 h18 h19 h20 h21 h22 h23 h24 : Nat) (S : vX7) (x1 : Int32)  : Met l yX9_check wsX9_check ({ frames := 1, cells := 0, slots := 0, locals := 25 }) (va_Pc [.ref h0, .int x1] (zPreR D (zty cA) ([(h0, .inr (9, [.ref h5, .ref h1, .ref h2, .ref h3, .ref h4]))] ++ wX7 cA h5 h6 h7 h8 h9 h10 h11 h12 h13 h14 h15 h16 h17 h18 h19 h20 h21 h22 h23 h24 S))) (vp_Si (fun x => x = (zf_check S x1))) 0 0 (fun _ => False) := by
  refine Met.ofW (cc := cX9_check) (maxL := 2) (ret := (some .int)) (by decide) rfl ?_
  intro p e s m args below meth c s₁ B hml hv
  obtain ⟨rfl, hP, hK, hN⟩ := hv
  have hx := B.exec
  have hb := B.bytes
  have hr := B.returns
  have hts := atoms_spec (ws := wsX9_check) B.pre
  have hown : s.vm.findClass RX9 = some m.cls := findClass_of_methodNamed B.named
  have hlocks := B.notSynchronized
  have hinX9 : ∀ w ∈ u_ws RX9 TX9 5, w ∈ wsX9_check := fun w h => List.mem_cons_of_mem _ (List.mem_append_left _ (List.mem_append_left _ (List.mem_append_left _ (List.mem_append_right _ h))))
  have hinX7 : ∀ w ∈ u_ws RX7 TX7 8, w ∈ wsX9_check := fun w h => List.mem_cons_of_mem _ (List.mem_append_left _ (List.mem_append_left _ (List.mem_append_right _ h)))
  have hinX6 : ∀ w ∈ u_ws RX6 TX6 4, w ∈ wsX9_check := fun w h => List.mem_cons_of_mem _ (List.mem_append_left _ (List.mem_append_right _ h))
  have hinX2 : ∀ w ∈ u_ws RX2 TX2 2, w ∈ wsX9_check := fun w h => List.mem_cons_of_mem _ (List.mem_append_right _ h)
  have hP : va_P D vwCl [(h0, .inr (9, [.ref h5, .ref h1, .ref h2, .ref h3, .ref h4])), (h5, .inr (7, [.ref h6, .ref h7, .ref h12, .ref h14, .ref h21, .long S.2.2.2.2.2.1, .int S.2.2.2.2.2.2.1, .long S.2.2.2.2.2.2.2])), (h6, .inl ((cA 0), 9, .inr (.inl S.1))), (h7, .inr (5, [.ref h8, .long S.2.1.2.1, .long S.2.1.2.2.1, .long S.2.1.2.2.2.1, .long S.2.1.2.2.2.2])), (h8, .inr (3, [.ref h9, .ref h10, .ref h11, .int S.2.1.1.2.2.2])), (h9, .inl ((cA 0), 8, .inr (.inl S.2.1.1.1))), (h10, .inl ((cA 0), 8, .inr (.inl S.2.1.1.2.1))), (h11, .inl ((cA 0), 8, .inr (.inl S.2.1.1.2.2.1))), (h12, .inr (0, [.ref h13, .long S.2.2.1.2.1, .long S.2.2.1.2.2.1, .int S.2.2.1.2.2.2.1, .int S.2.2.1.2.2.2.2.1, .int S.2.2.1.2.2.2.2.2.1, .long S.2.2.1.2.2.2.2.2.2])), (h13, .inl ((cA 0), 5, .inr (.inl S.2.2.1.1))), (h14, .inr (8, [.ref h15, .ref h17, .ref h19, .long S.2.2.2.1.2.2.2.1, .int S.2.2.2.1.2.2.2.2.1, .int S.2.2.2.1.2.2.2.2.2])), (h15, .inr (2, [.ref h16, .int S.2.2.2.1.1.2])), (h16, .inl ((cA 0), 8, .inr (.inl S.2.2.2.1.1.1))), (h17, .inr (2, [.ref h18, .int S.2.2.2.1.2.1.2])), (h18, .inl ((cA 0), 8, .inr (.inl S.2.2.2.1.2.1.1))), (h19, .inr (2, [.ref h20, .int S.2.2.2.1.2.2.1.2])), (h20, .inl ((cA 0), 8, .inr (.inl S.2.2.2.1.2.2.1.1))), (h21, .inr (6, [.ref h22, .ref h23, .int S.2.2.2.2.1.2.2.1, .int S.2.2.2.2.1.2.2.2])), (h22, .inl ((cA 0), 6, .inr (.inl S.2.2.2.2.1.1))), (h23, .inr (2, [.ref h24, .int S.2.2.2.2.1.2.1.2])), (h24, .inl ((cA 0), 5, .inr (.inl S.2.2.2.2.1.2.1.1)))] s.heap := hP
  have hl := lv_entry ([.ref h0, .int x1]) (n := 2) (Nat.le_of_ble_eq_true rfl)
  rw [lg_entry_eq]
  generalize (lg_sl ([.ref h0, .int x1]) ++ List.replicate (2 - (lg_sl ([.ref h0, .int x1])).length) Slot.unset).toArray = ls at hl ⊢
  have hl : lv_has ls 2 [(0, .ref h0), (1, .int x1)] := hl
  refine z_genQ (fun Q hQ => ?_)
  refine lv_iload_n hx hb dX9_check_0 rfl (lv_at hl 1 rfl) ?_
  refine lv_i2l hx hb dX9_check_1 rfl ?_
  refine lv_lconst (v := 0) hx hb dX9_check_2 (by decide) ?_
  refine lv_aload_n hx hb dX9_check_3 rfl (lv_at hl 0 rfl) ?_
  refine va_get (D := D) (ci := 9) (v := .ref h5) (C := RX9) (T := TX9) (N := 5) hx hb hts hinX9 hown hK hP 0 rfl rfl 0 (by decide) (hts (.fieldLink RX9 10 "GyroTrainer" "now" "LGyroTrainer$State;") (List.mem_of_getElem? (i := 1) rfl)) (fun _ h9 => h9) rfl dX9_check_4 ?_
  refine va_get (D := D) (ci := 7) (v := .ref h21) (C := RX7) (T := TX7) (N := 8) hx hb hts hinX7 hown hK hP 1 rfl rfl 4 (by decide) (hts (.fieldLink RX9 115 "GyroTrainer$State" "sights" "LGyroTrainer$Sights;") (List.mem_of_getElem? (i := 2) rfl)) (fun _ h9 => h9) rfl dX9_check_7 ?_
  refine va_get (D := D) (ci := 6) (v := .ref h23) (C := RX6) (T := TX6) (N := 4) hx hb hts hinX6 hown hK hP 17 rfl rfl 1 (by decide) (hts (.fieldLink RX9 246 "GyroTrainer$Sights" "checks" "LGyroTrainer$Latest;") (List.mem_of_getElem? (i := 3) rfl)) (fun _ h9 => h9) rfl dX9_check_10 ?_
  refine va_get (D := D) (ci := 2) (v := .int S.2.2.2.2.1.2.1.2) (C := RX2) (T := TX2) (N := 2) hx hb hts hinX2 hown hK hP 19 rfl rfl 1 (by decide) (hts (.fieldLink RX9 189 "GyroTrainer$Latest" "count" "I") (List.mem_of_getElem? (i := 4) rfl)) (fun _ h9 => h9) rfl dX9_check_13 ?_
  refine lv_iconst (v := 1) hx hb dX9_check_16 (by decide) ?_
  refine lv_isub hx hb dX9_check_17 ?_
  refine lv_i2l hx hb dX9_check_18 rfl ?_
  refine z_Ri (va_runS (As := [.long (x1.toInt64), .long (0 : Int64), .long ((S.2.2.2.2.1.2.1.2 - (1 : Int32)).toInt64)]) (rest := []) ⟨hx, hb, hml, hown, hts⟩ (c_X9_isBetween l D cA  (x1.toInt64) (0 : Int64) ((S.2.2.2.2.1.2.1.2 - (1 : Int32)).toInt64)) (va_cwS 3 hts gX9_check_X9_isBetween rfl rfl rfl (by decide +kernel) ⟨Nat.le_of_ble_eq_true rfl, Nat.le_of_ble_eq_true rfl⟩) (zqSR0 hK hN) rfl rfl hl.1 rfl (lv_room (Nat.le_of_ble_eq_true rfl)) dX9_check_19 ⟨Nat.le_of_ble_eq_true rfl, Nat.le_of_ble_eq_true rfl⟩) ?_
  refine lv_if_ne (tgt := 28) hx hb dX9_check_22 (by decide) (fun c_1 => ?_) (fun c_1 => ?_)
  · skip
    refine lv_aload_n hx hb dX9_check_28 rfl (lv_at hl 0 rfl) ?_
    refine va_get (D := D) (ci := 9) (v := .ref h5) (C := RX9) (T := TX9) (N := 5) hx hb hts hinX9 hown hK hP 0 rfl rfl 0 (by decide) (hts (.fieldLink RX9 10 "GyroTrainer" "now" "LGyroTrainer$State;") (List.mem_of_getElem? (i := 1) rfl)) (fun _ h9 => h9) rfl dX9_check_29 ?_
    refine va_get (D := D) (ci := 7) (v := .ref h21) (C := RX7) (T := TX7) (N := 8) hx hb hts hinX7 hown hK hP 1 rfl rfl 4 (by decide) (hts (.fieldLink RX9 115 "GyroTrainer$State" "sights" "LGyroTrainer$Sights;") (List.mem_of_getElem? (i := 2) rfl)) (fun _ h9 => h9) rfl dX9_check_32 ?_
    refine va_get (D := D) (ci := 6) (v := .ref h23) (C := RX6) (T := TX6) (N := 4) hx hb hts hinX6 hown hK hP 17 rfl rfl 1 (by decide) (hts (.fieldLink RX9 246 "GyroTrainer$Sights" "checks" "LGyroTrainer$Latest;") (List.mem_of_getElem? (i := 3) rfl)) (fun _ h9 => h9) rfl dX9_check_35 ?_
    refine va_get (D := D) (ci := 2) (v := .ref h24) (C := RX2) (T := TX2) (N := 2) hx hb hts hinX2 hown hK hP 19 rfl rfl 0 (by decide) (hts (.fieldLink RX9 254 "GyroTrainer$Latest" "numbers" "[J") (List.mem_of_getElem? (i := 6) rfl)) (fun _ h9 => h9) rfl dX9_check_38 ?_
    refine lv_iload_n hx hb dX9_check_41 rfl (lv_at hl 1 rfl) ?_
    refine z_Rl (va_runS (As := [.ref h24, .int x1]) (rest := []) ⟨hx, hb, hml, hown, hts⟩ (c_X9_at l D cA h24 5 S.2.2.2.2.1.2.1.1 x1 (by decide)) (va_cwS 2 hts gX9_check_X9_at rfl rfl rfl (by decide +kernel) ⟨Nat.le_of_ble_eq_true rfl, Nat.le_of_ble_eq_true rfl⟩) (zqSR hK hP hN (z_c1 (a := [(h0, .inr (9, [.ref h5, .ref h1, .ref h2, .ref h3, .ref h4])), (h5, .inr (7, [.ref h6, .ref h7, .ref h12, .ref h14, .ref h21, .long S.2.2.2.2.2.1, .int S.2.2.2.2.2.2.1, .long S.2.2.2.2.2.2.2])), (h6, .inl ((cA 0), 9, .inr (.inl S.1))), (h7, .inr (5, [.ref h8, .long S.2.1.2.1, .long S.2.1.2.2.1, .long S.2.1.2.2.2.1, .long S.2.1.2.2.2.2])), (h8, .inr (3, [.ref h9, .ref h10, .ref h11, .int S.2.1.1.2.2.2])), (h9, .inl ((cA 0), 8, .inr (.inl S.2.1.1.1))), (h10, .inl ((cA 0), 8, .inr (.inl S.2.1.1.2.1))), (h11, .inl ((cA 0), 8, .inr (.inl S.2.1.1.2.2.1))), (h12, .inr (0, [.ref h13, .long S.2.2.1.2.1, .long S.2.2.1.2.2.1, .int S.2.2.1.2.2.2.1, .int S.2.2.1.2.2.2.2.1, .int S.2.2.1.2.2.2.2.2.1, .long S.2.2.1.2.2.2.2.2.2])), (h13, .inl ((cA 0), 5, .inr (.inl S.2.2.1.1))), (h14, .inr (8, [.ref h15, .ref h17, .ref h19, .long S.2.2.2.1.2.2.2.1, .int S.2.2.2.1.2.2.2.2.1, .int S.2.2.2.1.2.2.2.2.2])), (h15, .inr (2, [.ref h16, .int S.2.2.2.1.1.2])), (h16, .inl ((cA 0), 8, .inr (.inl S.2.2.2.1.1.1))), (h17, .inr (2, [.ref h18, .int S.2.2.2.1.2.1.2])), (h18, .inl ((cA 0), 8, .inr (.inl S.2.2.2.1.2.1.1))), (h19, .inr (2, [.ref h20, .int S.2.2.2.1.2.2.1.2])), (h20, .inl ((cA 0), 8, .inr (.inl S.2.2.2.1.2.2.1.1))), (h21, .inr (6, [.ref h22, .ref h23, .int S.2.2.2.2.1.2.2.1, .int S.2.2.2.2.1.2.2.2])), (h22, .inl ((cA 0), 6, .inr (.inl S.2.2.2.2.1.1))), (h23, .inr (2, [.ref h24, .int S.2.2.2.2.1.2.1.2]))]) (b := []) rfl)) rfl rfl hl.1 rfl (lv_room (Nat.le_of_ble_eq_true rfl)) dX9_check_42 ⟨Nat.le_of_ble_eq_true rfl, Nat.le_of_ble_eq_true rfl⟩) ?_
    refine lv_l2i hx hb dX9_check_45 rfl ?_
    have e9 : (zf_check S x1) = ((zf_at 5 S.2.2.2.2.1.2.1.1 x1).toInt32) := by unfold zf_check; simp only [if_neg c_1] <;> rfl
    subst hQ
    exact W.iret (v := ((zf_at 5 S.2.2.2.2.1.2.1.1 x1).toInt32)) hx hb hr (fun t ht hW => ⟨_, rfl, e9.symm, ht⟩) (fun q h => by cases h) dX9_check_46
  · skip
    refine lv_ldc hx hb hown (hts (.constant RX9 253 (-1000000001)) (List.mem_of_getElem? (i := 5) rfl)) dX9_check_25 ?_
    have e9 : (zf_check S x1) = (-1000000001 : Int32) := by unfold zf_check; simp only [if_pos c_1] <;> rfl
    subst hQ
    exact W.iret (v := (-1000000001 : Int32)) hx hb hr (fun t ht hW => ⟨_, rfl, e9.symm, ht⟩) (fun q h => by cases h) dX9_check_27
set_option maxHeartbeats 4000000 in
set_option maxRecDepth 100000 in
theorem c_X9_reason (l : Launch) (D : va_G) (cA : Nat → ClassId) (h0 h1 h2 h3 h4 h5 h6 h7 h8 h9 h10 h11 h12 h13 h14 h15 h16 h17 h18 h19 h20 h21 h22 h23 h24 : Nat) (kc : Nat) (S : vX7) (hck : S.2.2.2.2.1.2.1.2 = nI kc) (hc5 : kc ≤ 5) : Met l yX9_reason wsX9_reason ({ frames := 3, cells := 0, slots := 0, locals := 69 }) (va_Pc [.ref h0] (zPreR D (zty cA) ([(h0, .inr (9, [.ref h5, .ref h1, .ref h2, .ref h3, .ref h4]))] ++ wX7 cA h5 h6 h7 h8 h9 h10 h11 h12 h13 h14 h15 h16 h17 h18 h19 h20 h21 h22 h23 h24 S))) (vp_Si (fun x => x = (zf_reason kc S))) 0 0 (fun _ => False) := by
  refine Met.ofW (cc := cX9_reason) (maxL := 1) (ret := (some .int)) (by decide) rfl ?_
  intro p e s m args below meth c s₁ B hml hv
  obtain ⟨rfl, hP, hK, hN⟩ := hv
  have hx := B.exec
  have hb := B.bytes
  have hr := B.returns
  have hts := atoms_spec (ws := wsX9_reason) B.pre
  have hown : s.vm.findClass RX9 = some m.cls := findClass_of_methodNamed B.named
  have hlocks := B.notSynchronized
  have hinX9 : ∀ w ∈ u_ws RX9 TX9 5, w ∈ wsX9_reason := fun w h => List.mem_cons_of_mem _ (List.mem_append_left _ (List.mem_append_left _ (List.mem_append_left _ (List.mem_append_left _ (List.mem_append_left _ (List.mem_append_right _ h))))))
  have hinX7 : ∀ w ∈ u_ws RX7 TX7 8, w ∈ wsX9_reason := fun w h => List.mem_cons_of_mem _ (List.mem_append_left _ (List.mem_append_left _ (List.mem_append_left _ (List.mem_append_left _ (List.mem_append_right _ h)))))
  have hinX6 : ∀ w ∈ u_ws RX6 TX6 4, w ∈ wsX9_reason := fun w h => List.mem_cons_of_mem _ (List.mem_append_left _ (List.mem_append_left _ (List.mem_append_left _ (List.mem_append_right _ h))))
  have hinX2 : ∀ w ∈ u_ws RX2 TX2 2, w ∈ wsX9_reason := fun w h => List.mem_cons_of_mem _ (List.mem_append_left _ (List.mem_append_left _ (List.mem_append_right _ h)))
  have hinX0 : ∀ w ∈ u_ws RX0 TX0 7, w ∈ wsX9_reason := fun w h => List.mem_cons_of_mem _ (List.mem_append_left _ (List.mem_append_right _ h))
  have hinX8 : ∀ w ∈ u_ws RX8 TX8 6, w ∈ wsX9_reason := fun w h => List.mem_cons_of_mem _ (List.mem_append_right _ h)
  have hP : va_P D vwCl [(h0, .inr (9, [.ref h5, .ref h1, .ref h2, .ref h3, .ref h4])), (h5, .inr (7, [.ref h6, .ref h7, .ref h12, .ref h14, .ref h21, .long S.2.2.2.2.2.1, .int S.2.2.2.2.2.2.1, .long S.2.2.2.2.2.2.2])), (h6, .inl ((cA 0), 9, .inr (.inl S.1))), (h7, .inr (5, [.ref h8, .long S.2.1.2.1, .long S.2.1.2.2.1, .long S.2.1.2.2.2.1, .long S.2.1.2.2.2.2])), (h8, .inr (3, [.ref h9, .ref h10, .ref h11, .int S.2.1.1.2.2.2])), (h9, .inl ((cA 0), 8, .inr (.inl S.2.1.1.1))), (h10, .inl ((cA 0), 8, .inr (.inl S.2.1.1.2.1))), (h11, .inl ((cA 0), 8, .inr (.inl S.2.1.1.2.2.1))), (h12, .inr (0, [.ref h13, .long S.2.2.1.2.1, .long S.2.2.1.2.2.1, .int S.2.2.1.2.2.2.1, .int S.2.2.1.2.2.2.2.1, .int S.2.2.1.2.2.2.2.2.1, .long S.2.2.1.2.2.2.2.2.2])), (h13, .inl ((cA 0), 5, .inr (.inl S.2.2.1.1))), (h14, .inr (8, [.ref h15, .ref h17, .ref h19, .long S.2.2.2.1.2.2.2.1, .int S.2.2.2.1.2.2.2.2.1, .int S.2.2.2.1.2.2.2.2.2])), (h15, .inr (2, [.ref h16, .int S.2.2.2.1.1.2])), (h16, .inl ((cA 0), 8, .inr (.inl S.2.2.2.1.1.1))), (h17, .inr (2, [.ref h18, .int S.2.2.2.1.2.1.2])), (h18, .inl ((cA 0), 8, .inr (.inl S.2.2.2.1.2.1.1))), (h19, .inr (2, [.ref h20, .int S.2.2.2.1.2.2.1.2])), (h20, .inl ((cA 0), 8, .inr (.inl S.2.2.2.1.2.2.1.1))), (h21, .inr (6, [.ref h22, .ref h23, .int S.2.2.2.2.1.2.2.1, .int S.2.2.2.2.1.2.2.2])), (h22, .inl ((cA 0), 6, .inr (.inl S.2.2.2.2.1.1))), (h23, .inr (2, [.ref h24, .int S.2.2.2.2.1.2.1.2])), (h24, .inl ((cA 0), 5, .inr (.inl S.2.2.2.2.1.2.1.1)))] s.heap := hP
  have hl := lv_entry ([.ref h0]) (n := 1) (Nat.le_of_ble_eq_true rfl)
  rw [lg_entry_eq]
  generalize (lg_sl ([.ref h0]) ++ List.replicate (1 - (lg_sl ([.ref h0])).length) Slot.unset).toArray = ls at hl ⊢
  have hl : lv_has ls 1 [(0, .ref h0)] := hl
  refine z_genQ (fun Q hQ => ?_)
  refine lv_aload_n hx hb dX9_reason_0 rfl (lv_at hl 0 rfl) ?_
  refine va_get (D := D) (ci := 9) (v := .ref h5) (C := RX9) (T := TX9) (N := 5) hx hb hts hinX9 hown hK hP 0 rfl rfl 0 (by decide) (hts (.fieldLink RX9 10 "GyroTrainer" "now" "LGyroTrainer$State;") (List.mem_of_getElem? (i := 1) rfl)) (fun _ h9 => h9) rfl dX9_reason_1 ?_
  refine z_Ri (va_runV (As := []) (rest := []) ⟨hx, hb, hml, hown, hts⟩ (c_X7_reasonOfDistrust l D cA h5 h6 h7 h8 h9 h10 h11 h12 h13 h14 h15 h16 h17 h18 h19 h20 h21 h22 h23 h24 kc S hck hc5) (cwV 0 hts gX9_reason_X7_reasonOfDistrust rfl rfl rfl (by decide +kernel) ⟨Nat.le_of_ble_eq_true rfl, Nat.le_of_ble_eq_true rfl⟩) (zqVR hK hP hN (z_c1 (a := [(h0, .inr (9, [.ref h5, .ref h1, .ref h2, .ref h3, .ref h4]))]) (b := []) rfl) 0 rfl rfl) rfl rfl hl.1 rfl (lv_room (Nat.le_of_ble_eq_true rfl)) dX9_reason_4 ⟨Nat.le_of_ble_eq_true rfl, Nat.le_of_ble_eq_true rfl⟩) ?_
  have e9 : (zf_reason kc S) = (zf_reason kc S) := rfl
  subst hQ
  exact W.iret (v := (zf_reason kc S)) hx hb hr (fun t ht hW => ⟨_, rfl, e9.symm, ht⟩) (fun q h => by cases h) dX9_reason_7
set_option maxHeartbeats 4000000 in
set_option maxRecDepth 100000 in
theorem c_X9_fault (l : Launch) (D : va_G) (cA : Nat → ClassId) (h0 h1 h2 h3 h4 h5 h6 h7 h8 h9 h10 : Nat) (sz : Nat) (v : vX4) (hch : hCh v.1) : Met l yX9_fault wsX9_fault ({ frames := 5, cells := 0, slots := 0, locals := 111 }) (va_Pc [.ref h0] (zPre D (zty cA) ([(h0, .inr (9, [.ref h1, .ref h2, .ref h3, .ref h4, .ref h5]))] ++ wX4 cA h5 h6 h7 h8 h9 h10 v) sz)) (va_Qi (fun (x : Int32) (u : vX4) => (x, u) = (fc_readLegs v)) (fun u => zPost D (zty cA) (va_A ([(h0, .inr (9, [.ref h1, .ref h2, .ref h3, .ref h4, .ref h5]))] ++ wX4 cA h5 h6 h7 h8 h9 h10 v) sz) ([(h0, .inr (9, [.ref h1, .ref h2, .ref h3, .ref h4, .ref h5]))] ++ wX4 cA h5 h6 h7 h8 h9 h10 u)) (va_A ([(h0, .inr (9, [.ref h1, .ref h2, .ref h3, .ref h4, .ref h5]))] ++ wX4 cA h5 h6 h7 h8 h9 h10 v) sz)) 0 0 (va_A ([(h0, .inr (9, [.ref h1, .ref h2, .ref h3, .ref h4, .ref h5]))] ++ wX4 cA h5 h6 h7 h8 h9 h10 v) sz) := by
  refine Met.ofW (cc := cX9_fault) (maxL := 1) (ret := (some .int)) (by decide) rfl ?_
  intro p e s m args below meth c s₁ B hml hv
  obtain ⟨rfl, hsz, hP, hK, hD0, hE⟩ := hv
  have hx := B.exec
  have hb := B.bytes
  have hr := B.returns
  have hts := atoms_spec (ws := wsX9_fault) B.pre
  have hown : s.vm.findClass RX9 = some m.cls := findClass_of_methodNamed B.named
  have hlocks := B.notSynchronized
  have hinX9 : ∀ w ∈ u_ws RX9 TX9 5, w ∈ wsX9_fault := fun w h => List.mem_cons_of_mem _ (List.mem_append_left _ (List.mem_append_left _ (List.mem_append_right _ h)))
  have hinX4 : ∀ w ∈ u_ws RX4 TX4 5, w ∈ wsX9_fault := fun w h => List.mem_cons_of_mem _ (List.mem_append_left _ (List.mem_append_right _ h))
  have hinX3 : ∀ w ∈ u_ws RX3 TX3 4, w ∈ wsX9_fault := fun w h => List.mem_cons_of_mem _ (List.mem_append_right _ h)
  subst hsz
  have hD := hD0.self (sz := s.heap.size)
  generalize hAe : va_A ([(h0, .inr (9, [.ref h1, .ref h2, .ref h3, .ref h4, .ref h5]))] ++ wX4 cA h5 h6 h7 h8 h9 h10 v) s.heap.size = A at hD hE ⊢
  have hA : ∀ q : Nat, s.heap.size ≤ q → A q := fun q h => by rw [← hAe]; exact Or.inr h
  have hS : va_S A s.heap s.heap [] := va_S.rf
  have hN : zN s := hE.1
  have hP : va_P D vwCl [(h0, .inr (9, [.ref h1, .ref h2, .ref h3, .ref h4, .ref h5])), (h5, .inr (4, [.ref h6, .ref h7, .int v.2.2.1, .int v.2.2.2.1, .long v.2.2.2.2])), (h6, .inl ((cA 3), 80, .inl v.1)), (h7, .inr (3, [.ref h8, .ref h9, .ref h10, .int v.2.1.2.2.2])), (h8, .inl ((cA 0), 13, .inr (.inl v.2.1.1))), (h9, .inl ((cA 0), 13, .inr (.inl v.2.1.2.1))), (h10, .inl ((cA 0), 13, .inr (.inl v.2.1.2.2.1)))] s.heap := hP
  have hD : va_D A [(h0, .inr (9, [.ref h1, .ref h2, .ref h3, .ref h4, .ref h5])), (h5, .inr (4, [.ref h6, .ref h7, .int v.2.2.1, .int v.2.2.2.1, .long v.2.2.2.2])), (h6, .inl ((cA 3), 80, .inl v.1)), (h7, .inr (3, [.ref h8, .ref h9, .ref h10, .int v.2.1.2.2.2])), (h8, .inl ((cA 0), 13, .inr (.inl v.2.1.1))), (h9, .inl ((cA 0), 13, .inr (.inl v.2.1.2.1))), (h10, .inl ((cA 0), 13, .inr (.inl v.2.1.2.2.1)))] := hD
  have hl := lv_entry ([.ref h0]) (n := 1) (Nat.le_of_ble_eq_true rfl)
  rw [lg_entry_eq]
  generalize (lg_sl ([.ref h0]) ++ List.replicate (1 - (lg_sl ([.ref h0])).length) Slot.unset).toArray = ls at hl ⊢
  have hl : lv_has ls 1 [(0, .ref h0)] := hl
  refine z_genQ (fun Q hQ => ?_)
  refine lv_aload_n hx hb dX9_fault_0 rfl (lv_at hl 0 rfl) ?_
  refine va_get (D := D) (ci := 9) (v := .ref h5) (C := RX9) (T := TX9) (N := 5) hx hb hts hinX9 hown hK hP 0 rfl rfl 4 (by decide) (hts (.fieldLink RX9 33 "GyroTrainer" "pad" "LGyroTrainer$Pad;") (List.mem_of_getElem? (i := 1) rfl)) (fun _ h9 => h9) rfl dX9_fault_1 ?_
  refine z_Hi (wt := fun (u_1 : vX4) => [(h0, .inr (9, [.ref h1, .ref h2, .ref h3, .ref h4, .ref h5])), (h5, .inr (4, [.ref h6, .ref h7, .int u_1.2.2.1, .int u_1.2.2.2.1, .long u_1.2.2.2.2])), (h6, .inl ((cA 3), 80, .inl u_1.1)), (h7, .inr (3, [.ref h8, .ref h9, .ref h10, .int u_1.2.1.2.2.2])), (h8, .inl ((cA 0), 13, .inr (.inl u_1.2.1.1))), (h9, .inl ((cA 0), 13, .inr (.inl u_1.2.1.2.1))), (h10, .inl ((cA 0), 13, .inr (.inl u_1.2.1.2.2.1)))]) (va_runV (As := []) (rest := []) ⟨hx, hb, hml, hown, hts⟩ (c_X4_readLegs l D cA h5 h6 h7 h8 h9 h10 s.heap.size v hch) (cwV 0 hts gX9_fault_X4_readLegs rfl rfl rfl (by decide +kernel) ⟨Nat.le_of_ble_eq_true rfl, Nat.le_of_ble_eq_true rfl⟩) (zqV hK hP hD hS hA hE (z_c1 (a := [(h0, .inr (9, [.ref h1, .ref h2, .ref h3, .ref h4, .ref h5]))]) (b := []) rfl) 0 rfl rfl) rfl rfl hl.1 rfl (lv_room (Nat.le_of_ble_eq_true rfl)) dX9_fault_4 ⟨Nat.le_of_ble_eq_true rfl, Nat.le_of_ble_eq_true rfl⟩) hP hD hS hA (z_c1 (a := [(h0, .inr (9, [.ref h1, .ref h2, .ref h3, .ref h4, .ref h5]))]) (b := []) rfl) (fun u_1 => (z_c1' (a := [(h0, .inr (9, [.ref h1, .ref h2, .ref h3, .ref h4, .ref h5]))]) (b := []) rfl)) (fun r_2 u_1 H locs eu_1 hP hD hS => ?_)
  have hP : va_P D vwCl [(h0, .inr (9, [.ref h1, .ref h2, .ref h3, .ref h4, .ref h5])), (h5, .inr (4, [.ref h6, .ref h7, .int u_1.2.2.1, .int u_1.2.2.2.1, .long u_1.2.2.2.2])), (h6, .inl ((cA 3), 80, .inl u_1.1)), (h7, .inr (3, [.ref h8, .ref h9, .ref h10, .int u_1.2.1.2.2.2])), (h8, .inl ((cA 0), 13, .inr (.inl u_1.2.1.1))), (h9, .inl ((cA 0), 13, .inr (.inl u_1.2.1.2.1))), (h10, .inl ((cA 0), 13, .inr (.inl u_1.2.1.2.2.1)))] H := hP
  have hD : va_D A [(h0, .inr (9, [.ref h1, .ref h2, .ref h3, .ref h4, .ref h5])), (h5, .inr (4, [.ref h6, .ref h7, .int u_1.2.2.1, .int u_1.2.2.2.1, .long u_1.2.2.2.2])), (h6, .inl ((cA 3), 80, .inl u_1.1)), (h7, .inr (3, [.ref h8, .ref h9, .ref h10, .int u_1.2.1.2.2.2])), (h8, .inl ((cA 0), 13, .inr (.inl u_1.2.1.1))), (h9, .inl ((cA 0), 13, .inr (.inl u_1.2.1.2.1))), (h10, .inl ((cA 0), 13, .inr (.inl u_1.2.1.2.2.1)))] := hD
  obtain ⟨er_2, eu_1⟩ := z_pr eu_1
  have e9 : (fc_readLegs v) = (r_2, u_1) := (Prod.ext er_2 eu_1).symm
  have hP9 : va_P D vwCl ([(h0, .inr (9, [.ref h1, .ref h2, .ref h3, .ref h4, .ref h5]))] ++ wX4 cA h5 h6 h7 h8 h9 h10 (u_1 : vX4)) H := hP
  have hD9 : va_D A ([(h0, .inr (9, [.ref h1, .ref h2, .ref h3, .ref h4, .ref h5]))] ++ wX4 cA h5 h6 h7 h8 h9 h10 (u_1 : vX4)) := hD
  subst hQ
  exact W.iret (v := r_2) hx hb hr (fun t ht hW => ⟨⟨r_2, u_1, rfl, e9.symm, ⟨by rw [ht]; exact hP9, va_K.moved hW.alike hK, hD9⟩⟩, hS.F ht⟩) hS.2.2 dX9_fault_7
set_option maxHeartbeats 4000000 in
set_option maxRecDepth 100000 in
theorem c_X9_wipe (l : Launch) (D : va_G) (cA : Nat → ClassId) (h0 h1 h2 h3 h4 h5 h6 h7 h8 h9 h10 : Nat) (sz : Nat) (v : vX4)  : Met l yX9_wipe wsX9_wipe ({ frames := 0, cells := 0, slots := 0, locals := 0 }) (va_Pc [.ref h0] (zPre D (zty cA) ([(h0, .inr (9, [.ref h1, .ref h2, .ref h3, .ref h4, .ref h5]))] ++ wX4 cA h5 h6 h7 h8 h9 h10 v) sz)) (va_Qi (fun (x : Int32) (u : vX4) => (x, u) = (zf_wipe v)) (fun u => zPost D (zty cA) (va_A ([(h0, .inr (9, [.ref h1, .ref h2, .ref h3, .ref h4, .ref h5]))] ++ wX4 cA h5 h6 h7 h8 h9 h10 v) sz) ([(h0, .inr (9, [.ref h1, .ref h2, .ref h3, .ref h4, .ref h5]))] ++ wX4 cA h5 h6 h7 h8 h9 h10 u)) (va_A ([(h0, .inr (9, [.ref h1, .ref h2, .ref h3, .ref h4, .ref h5]))] ++ wX4 cA h5 h6 h7 h8 h9 h10 v) sz)) 0 0 (va_A ([(h0, .inr (9, [.ref h1, .ref h2, .ref h3, .ref h4, .ref h5]))] ++ wX4 cA h5 h6 h7 h8 h9 h10 v) sz) := by
  refine Met.ofW (cc := cX9_wipe) (maxL := 2) (ret := (some .int)) (by decide) rfl ?_
  intro p e s m args below meth c s₁ B hml hv
  obtain ⟨rfl, hsz, hP, hK, hD0, hE⟩ := hv
  have hx := B.exec
  have hb := B.bytes
  have hr := B.returns
  have hts := atoms_spec (ws := wsX9_wipe) B.pre
  have hown : s.vm.findClass RX9 = some m.cls := findClass_of_methodNamed B.named
  have hlocks := B.notSynchronized
  have hinX9 : ∀ w ∈ u_ws RX9 TX9 5, w ∈ wsX9_wipe := fun w h => List.mem_cons_of_mem _ (List.mem_append_left _ (List.mem_append_right _ h))
  have hinX4 : ∀ w ∈ u_ws RX4 TX4 5, w ∈ wsX9_wipe := fun w h => List.mem_cons_of_mem _ (List.mem_append_right _ h)
  subst hsz
  have hD := hD0.self (sz := s.heap.size)
  generalize hAe : va_A ([(h0, .inr (9, [.ref h1, .ref h2, .ref h3, .ref h4, .ref h5]))] ++ wX4 cA h5 h6 h7 h8 h9 h10 v) s.heap.size = A at hD hE ⊢
  have hA : ∀ q : Nat, s.heap.size ≤ q → A q := fun q h => by rw [← hAe]; exact Or.inr h
  have hS : va_S A s.heap s.heap [] := va_S.rf
  have hN : zN s := hE.1
  have hP : va_P D vwCl [(h0, .inr (9, [.ref h1, .ref h2, .ref h3, .ref h4, .ref h5])), (h5, .inr (4, [.ref h6, .ref h7, .int v.2.2.1, .int v.2.2.2.1, .long v.2.2.2.2])), (h6, .inl ((cA 3), 80, .inl v.1)), (h7, .inr (3, [.ref h8, .ref h9, .ref h10, .int v.2.1.2.2.2])), (h8, .inl ((cA 0), 13, .inr (.inl v.2.1.1))), (h9, .inl ((cA 0), 13, .inr (.inl v.2.1.2.1))), (h10, .inl ((cA 0), 13, .inr (.inl v.2.1.2.2.1)))] s.heap := hP
  have hD : va_D A [(h0, .inr (9, [.ref h1, .ref h2, .ref h3, .ref h4, .ref h5])), (h5, .inr (4, [.ref h6, .ref h7, .int v.2.2.1, .int v.2.2.2.1, .long v.2.2.2.2])), (h6, .inl ((cA 3), 80, .inl v.1)), (h7, .inr (3, [.ref h8, .ref h9, .ref h10, .int v.2.1.2.2.2])), (h8, .inl ((cA 0), 13, .inr (.inl v.2.1.1))), (h9, .inl ((cA 0), 13, .inr (.inl v.2.1.2.1))), (h10, .inl ((cA 0), 13, .inr (.inl v.2.1.2.2.1)))] := hD
  have hl := lv_entry ([.ref h0]) (n := 2) (Nat.le_of_ble_eq_true rfl)
  rw [lg_entry_eq]
  generalize (lg_sl ([.ref h0]) ++ List.replicate (2 - (lg_sl ([.ref h0])).length) Slot.unset).toArray = ls at hl ⊢
  have hl : lv_has ls 2 [(0, .ref h0)] := hl
  refine z_genQ (fun Q hQ => ?_)
  refine lv_aload_n hx hb dX9_wipe_0 rfl (lv_at hl 0 rfl) ?_
  refine va_get (D := D) (ci := 9) (v := .ref h5) (C := RX9) (T := TX9) (N := 5) hx hb hts hinX9 hown hK hP 0 rfl rfl 4 (by decide) (hts (.fieldLink RX9 33 "GyroTrainer" "pad" "LGyroTrainer$Pad;") (List.mem_of_getElem? (i := 1) rfl)) (fun _ h9 => h9) rfl dX9_wipe_1 ?_
  refine va_get (D := D) (ci := 4) (v := .int v.2.2.1) (C := RX4) (T := TX4) (N := 5) hx hb hts hinX4 hown hK hP 1 rfl rfl 2 (by decide) (hts (.fieldLink RX9 301 "GyroTrainer$Pad" "length" "I") (List.mem_of_getElem? (i := 2) rfl)) (fun _ h9 => h9) rfl dX9_wipe_4 ?_
  refine lv_istore_n (lv' := [(1, .int v.2.2.1), (0, .ref h0)]) hx hb dX9_wipe_7 rfl hl (by decide) rfl (fun ls hl => ?_)
  refine lv_aload_n hx hb dX9_wipe_8 rfl (lv_at hl 1 rfl) ?_
  refine va_get (D := D) (ci := 9) (v := .ref h5) (C := RX9) (T := TX9) (N := 5) hx hb hts hinX9 hown hK hP 0 rfl rfl 4 (by decide) (hts (.fieldLink RX9 33 "GyroTrainer" "pad" "LGyroTrainer$Pad;") (List.mem_of_getElem? (i := 1) rfl)) (fun _ h9 => h9) rfl dX9_wipe_9 ?_
  refine lv_iconst (v := 0) hx hb dX9_wipe_12 (by decide) ?_
  refine va_put (D := D) (ci := 4) (v := .int (0 : Int32)) (ty := .int) (C := RX4) (T := TX4) (N := 5) hx hb hts hinX4 tyX4 tyX4_ok nmX4 hown hK hP hD hS 1 rfl rfl 2 (by decide) (hts (.fieldLink RX9 301 "GyroTrainer$Pad" "length" "I") (List.mem_of_getElem? (i := 2) rfl)) (fun _ h9 => h9) rfl (by decide +kernel) rfl rfl (Nat.le_of_ble_eq_true rfl) dX9_wipe_13 (fun H locs hP hD hS => ?_)
  have hP : va_P D vwCl [(h0, .inr (9, [.ref h1, .ref h2, .ref h3, .ref h4, .ref h5])), (h5, .inr (4, [.ref h6, .ref h7, .int (0 : Int32), .int v.2.2.2.1, .long v.2.2.2.2])), (h6, .inl ((cA 3), 80, .inl v.1)), (h7, .inr (3, [.ref h8, .ref h9, .ref h10, .int v.2.1.2.2.2])), (h8, .inl ((cA 0), 13, .inr (.inl v.2.1.1))), (h9, .inl ((cA 0), 13, .inr (.inl v.2.1.2.1))), (h10, .inl ((cA 0), 13, .inr (.inl v.2.1.2.2.1)))] H := hP
  have hD : va_D A [(h0, .inr (9, [.ref h1, .ref h2, .ref h3, .ref h4, .ref h5])), (h5, .inr (4, [.ref h6, .ref h7, .int (0 : Int32), .int v.2.2.2.1, .long v.2.2.2.2])), (h6, .inl ((cA 3), 80, .inl v.1)), (h7, .inr (3, [.ref h8, .ref h9, .ref h10, .int v.2.1.2.2.2])), (h8, .inl ((cA 0), 13, .inr (.inl v.2.1.1))), (h9, .inl ((cA 0), 13, .inr (.inl v.2.1.2.1))), (h10, .inl ((cA 0), 13, .inr (.inl v.2.1.2.2.1)))] := hD
  refine lv_iload_n hx hb dX9_wipe_16 rfl (lv_at hl 0 rfl) ?_
  have e9 : (zf_wipe v) = (v.2.2.1, (v.1, v.2.1, (0 : Int32), v.2.2.2)) := by rfl
  have hP9 : va_P D vwCl ([(h0, .inr (9, [.ref h1, .ref h2, .ref h3, .ref h4, .ref h5]))] ++ wX4 cA h5 h6 h7 h8 h9 h10 ((v.1, v.2.1, (0 : Int32), v.2.2.2) : vX4)) H := hP
  have hD9 : va_D A ([(h0, .inr (9, [.ref h1, .ref h2, .ref h3, .ref h4, .ref h5]))] ++ wX4 cA h5 h6 h7 h8 h9 h10 ((v.1, v.2.1, (0 : Int32), v.2.2.2) : vX4)) := hD
  subst hQ
  exact W.iret (v := v.2.2.1) hx hb hr (fun t ht hW => ⟨⟨v.2.2.1, (v.1, v.2.1, (0 : Int32), v.2.2.2), rfl, e9.symm, ⟨by rw [ht]; exact hP9, va_K.moved hW.alike hK, hD9⟩⟩, hS.F ht⟩) hS.2.2 dX9_wipe_17
