def zf_turn (S : vX7) (x y : Int32) : Int32 :=
  if zf_in x.toInt64 0 (S.2.2.2.1.1.2 - 1).toInt64 = 0 then -1000000001 else if y = 0 then (zf_at 8 S.2.2.2.1.1.1 x).toInt32 else if y = 1 then (zf_at 8 S.2.2.2.1.2.1.1 x).toInt32 else -1000000002
/-! the class's forecast -/
def zf_lv (S : vX7) (x : Int32) : vX7 := (S.1, S.2.1, (S.2.2.1.1, S.2.2.1.2.1, S.2.2.1.2.2.1, S.2.2.1.2.2.2.1, S.2.2.1.2.2.2.2.1, x, S.2.2.1.2.2.2.2.2.2), S.2.2.2)
def zf_m1 (S : vX7) : vX7 := zf_minute (nT S.2.1.1.2.2.2) S
def zf_it : Nat → vX7 → vX7
  | 0, S => S
  | k + 1, S => zf_m1 (zf_it k S)
def okC (S : vX7) : Prop := 0 ≤ S.2.1.1.2.2.2.toInt ∧ S.2.1.1.2.2.2.toInt ≤ 8
def fc_lk (b : Int64) : Nat → Nat → vX7 → Int32 × vX7
  | 0, _, S => (-6, S)
  | d + 1, k, S => if zf_calm S b = 0 then fc_lk b d (k + 1) (zf_m1 S) else (nI k, S)
theorem fc_lk_s {b : Int64} {d k : Nat} {S : vX7} (h : 0 < d) (c : zf_calm S b = 0) : fc_lk b d k S = fc_lk b (d - 1) (k + 1) (zf_m1 S) := by
  obtain ⟨j, rfl⟩ : ∃ j, d = j + 1 := ⟨d - 1, by omega⟩
  show (if zf_calm S b = 0 then _ else _) = _
  rw [if_pos c, Nat.add_sub_cancel]
theorem fc_lk_e {b : Int64} {d k : Nat} {S : vX7} (h : 0 < d) (c : ¬ zf_calm S b = 0) : fc_lk b d k S = (nI k, S) := by
  obtain ⟨j, rfl⟩ : ∃ j, d = j + 1 := ⟨d - 1, by omega⟩
  show (if zf_calm S b = 0 then _ else _) = _
  rw [if_neg c]

set_option maxHeartbeats 4000000 in
set_option maxRecDepth 100000 in
theorem c_X9_turn (l : Launch) (D : va_G) (cA : Nat → ClassId) (h0 h1 h2 h3 h4 h5 h6 h7 h8 h9 h10 h11 h12 h13 h14 h15 h16 h17 h18 h19 h20 h21 h22 h23 h24 : Nat) (S : vX7) (x1 : Int32) (x2 : Int32)  : Met l yX9_turn wsX9_turn ({ frames := 1, cells := 0, slots := 0, locals := 25 }) (va_Pc [.ref h0, .int x1, .int x2] (zPreR D (zty cA) ([(h0, .inr (9, [.ref h5, .ref h1, .ref h2, .ref h3, .ref h4]))] ++ wX7 cA h5 h6 h7 h8 h9 h10 h11 h12 h13 h14 h15 h16 h17 h18 h19 h20 h21 h22 h23 h24 S))) (vp_Si (fun x => x = (zf_turn S x1 x2))) 0 0 (fun _ => False) := by
  refine Met.ofW (cc := cX9_turn) (maxL := 3) (ret := (some .int)) (by decide) rfl ?_
  intro p e s m args below meth c s₁ B hml hv
  obtain ⟨rfl, hP, hK, hN⟩ := hv
  have hx := B.exec
  have hb := B.bytes
  have hr := B.returns
  have hts := atoms_spec (ws := wsX9_turn) B.pre
  have hown : s.vm.findClass RX9 = some m.cls := findClass_of_methodNamed B.named
  have hlocks := B.notSynchronized
  have hinX9 : ∀ w ∈ u_ws RX9 TX9 5, w ∈ wsX9_turn := fun w h => List.mem_cons_of_mem _ (List.mem_append_left _ (List.mem_append_left _ (List.mem_append_left _ (List.mem_append_right _ h))))
  have hinX7 : ∀ w ∈ u_ws RX7 TX7 8, w ∈ wsX9_turn := fun w h => List.mem_cons_of_mem _ (List.mem_append_left _ (List.mem_append_left _ (List.mem_append_right _ h)))
  have hinX8 : ∀ w ∈ u_ws RX8 TX8 6, w ∈ wsX9_turn := fun w h => List.mem_cons_of_mem _ (List.mem_append_left _ (List.mem_append_right _ h))
  have hinX2 : ∀ w ∈ u_ws RX2 TX2 2, w ∈ wsX9_turn := fun w h => List.mem_cons_of_mem _ (List.mem_append_right _ h)
  have hP : va_P D vwCl [(h0, .inr (9, [.ref h5, .ref h1, .ref h2, .ref h3, .ref h4])), (h5, .inr (7, [.ref h6, .ref h7, .ref h12, .ref h14, .ref h21, .long S.2.2.2.2.2.1, .int S.2.2.2.2.2.2.1, .long S.2.2.2.2.2.2.2])), (h6, .inl ((cA 0), 9, .inr (.inl S.1))), (h7, .inr (5, [.ref h8, .long S.2.1.2.1, .long S.2.1.2.2.1, .long S.2.1.2.2.2.1, .long S.2.1.2.2.2.2])), (h8, .inr (3, [.ref h9, .ref h10, .ref h11, .int S.2.1.1.2.2.2])), (h9, .inl ((cA 0), 8, .inr (.inl S.2.1.1.1))), (h10, .inl ((cA 0), 8, .inr (.inl S.2.1.1.2.1))), (h11, .inl ((cA 0), 8, .inr (.inl S.2.1.1.2.2.1))), (h12, .inr (0, [.ref h13, .long S.2.2.1.2.1, .long S.2.2.1.2.2.1, .int S.2.2.1.2.2.2.1, .int S.2.2.1.2.2.2.2.1, .int S.2.2.1.2.2.2.2.2.1, .long S.2.2.1.2.2.2.2.2.2])), (h13, .inl ((cA 0), 5, .inr (.inl S.2.2.1.1))), (h14, .inr (8, [.ref h15, .ref h17, .ref h19, .long S.2.2.2.1.2.2.2.1, .int S.2.2.2.1.2.2.2.2.1, .int S.2.2.2.1.2.2.2.2.2])), (h15, .inr (2, [.ref h16, .int S.2.2.2.1.1.2])), (h16, .inl ((cA 0), 8, .inr (.inl S.2.2.2.1.1.1))), (h17, .inr (2, [.ref h18, .int S.2.2.2.1.2.1.2])), (h18, .inl ((cA 0), 8, .inr (.inl S.2.2.2.1.2.1.1))), (h19, .inr (2, [.ref h20, .int S.2.2.2.1.2.2.1.2])), (h20, .inl ((cA 0), 8, .inr (.inl S.2.2.2.1.2.2.1.1))), (h21, .inr (6, [.ref h22, .ref h23, .int S.2.2.2.2.1.2.2.1, .int S.2.2.2.2.1.2.2.2])), (h22, .inl ((cA 0), 6, .inr (.inl S.2.2.2.2.1.1))), (h23, .inr (2, [.ref h24, .int S.2.2.2.2.1.2.1.2])), (h24, .inl ((cA 0), 5, .inr (.inl S.2.2.2.2.1.2.1.1)))] s.heap := hP
  have hl := lv_entry ([.ref h0, .int x1, .int x2]) (n := 3) (Nat.le_of_ble_eq_true rfl)
  rw [lg_entry_eq]
  generalize (lg_sl ([.ref h0, .int x1, .int x2]) ++ List.replicate (3 - (lg_sl ([.ref h0, .int x1, .int x2])).length) Slot.unset).toArray = ls at hl ⊢
  have hl : lv_has ls 3 [(0, .ref h0), (1, .int x1), (2, .int x2)] := hl
  refine z_genQ (fun Q hQ => ?_)
  refine lv_iload_n hx hb dX9_turn_0 rfl (lv_at hl 1 rfl) ?_
  refine lv_i2l hx hb dX9_turn_1 rfl ?_
  refine lv_lconst (v := 0) hx hb dX9_turn_2 (by decide) ?_
  refine lv_aload_n hx hb dX9_turn_3 rfl (lv_at hl 0 rfl) ?_
  refine va_get (D := D) (ci := 9) (v := .ref h5) (C := RX9) (T := TX9) (N := 5) hx hb hts hinX9 hown hK hP 0 rfl rfl 0 (by decide) (hts (.fieldLink RX9 10 "GyroTrainer" "now" "LGyroTrainer$State;") (List.mem_of_getElem? (i := 1) rfl)) (fun _ h9 => h9) rfl dX9_turn_4 ?_
  refine va_get (D := D) (ci := 7) (v := .ref h14) (C := RX7) (T := TX7) (N := 8) hx hb hts hinX7 hown hK hP 1 rfl rfl 3 (by decide) (hts (.fieldLink RX9 150 "GyroTrainer$State" "swings" "LGyroTrainer$Swings;") (List.mem_of_getElem? (i := 2) rfl)) (fun _ h9 => h9) rfl dX9_turn_7 ?_
  refine va_get (D := D) (ci := 8) (v := .ref h15) (C := RX8) (T := TX8) (N := 6) hx hb hts hinX8 hown hK hP 10 rfl rfl 0 (by decide) (hts (.fieldLink RX9 185 "GyroTrainer$Swings" "errors" "LGyroTrainer$Latest;") (List.mem_of_getElem? (i := 3) rfl)) (fun _ h9 => h9) rfl dX9_turn_10 ?_
  refine va_get (D := D) (ci := 2) (v := .int S.2.2.2.1.1.2) (C := RX2) (T := TX2) (N := 2) hx hb hts hinX2 hown hK hP 11 rfl rfl 1 (by decide) (hts (.fieldLink RX9 189 "GyroTrainer$Latest" "count" "I") (List.mem_of_getElem? (i := 4) rfl)) (fun _ h9 => h9) rfl dX9_turn_13 ?_
  refine lv_iconst (v := 1) hx hb dX9_turn_16 (by decide) ?_
  refine lv_isub hx hb dX9_turn_17 ?_
  refine lv_i2l hx hb dX9_turn_18 rfl ?_
  refine z_Ri (va_runS (As := [.long (x1.toInt64), .long (0 : Int64), .long ((S.2.2.2.1.1.2 - (1 : Int32)).toInt64)]) (rest := []) ⟨hx, hb, hml, hown, hts⟩ (c_X9_isBetween l D cA  (x1.toInt64) (0 : Int64) ((S.2.2.2.1.1.2 - (1 : Int32)).toInt64)) (va_cwS 3 hts gX9_turn_X9_isBetween rfl rfl rfl (by decide +kernel) ⟨Nat.le_of_ble_eq_true rfl, Nat.le_of_ble_eq_true rfl⟩) (zqSR0 hK hN) rfl rfl hl.1 rfl (lv_room (Nat.le_of_ble_eq_true rfl)) dX9_turn_19 ⟨Nat.le_of_ble_eq_true rfl, Nat.le_of_ble_eq_true rfl⟩) ?_
  refine lv_if_ne (tgt := 28) hx hb dX9_turn_22 (by decide) (fun c_1 => ?_) (fun c_1 => ?_)
  · skip
    refine lv_iload_n hx hb dX9_turn_28 rfl (lv_at hl 2 rfl) ?_
    by_cases c_2 : x2 = (0 : Int32)
    · skip
      refine lv_lookup (tgt := 56) (off := 27) hx hb dX9_turn_29 (by decide) (by rw [c_2]; decide) (by decide) ?_
      refine lv_aload_n hx hb dX9_turn_56 rfl (lv_at hl 0 rfl) ?_
      refine va_get (D := D) (ci := 9) (v := .ref h5) (C := RX9) (T := TX9) (N := 5) hx hb hts hinX9 hown hK hP 0 rfl rfl 0 (by decide) (hts (.fieldLink RX9 10 "GyroTrainer" "now" "LGyroTrainer$State;") (List.mem_of_getElem? (i := 1) rfl)) (fun _ h9 => h9) rfl dX9_turn_57 ?_
      refine va_get (D := D) (ci := 7) (v := .ref h14) (C := RX7) (T := TX7) (N := 8) hx hb hts hinX7 hown hK hP 1 rfl rfl 3 (by decide) (hts (.fieldLink RX9 150 "GyroTrainer$State" "swings" "LGyroTrainer$Swings;") (List.mem_of_getElem? (i := 2) rfl)) (fun _ h9 => h9) rfl dX9_turn_60 ?_
      refine va_get (D := D) (ci := 8) (v := .ref h15) (C := RX8) (T := TX8) (N := 6) hx hb hts hinX8 hown hK hP 10 rfl rfl 0 (by decide) (hts (.fieldLink RX9 185 "GyroTrainer$Swings" "errors" "LGyroTrainer$Latest;") (List.mem_of_getElem? (i := 3) rfl)) (fun _ h9 => h9) rfl dX9_turn_63 ?_
      refine va_get (D := D) (ci := 2) (v := .ref h16) (C := RX2) (T := TX2) (N := 2) hx hb hts hinX2 hown hK hP 11 rfl rfl 0 (by decide) (hts (.fieldLink RX9 254 "GyroTrainer$Latest" "numbers" "[J") (List.mem_of_getElem? (i := 6) rfl)) (fun _ h9 => h9) rfl dX9_turn_66 ?_
      refine lv_iload_n hx hb dX9_turn_69 rfl (lv_at hl 1 rfl) ?_
      refine z_Rl (va_runS (As := [.ref h16, .int x1]) (rest := []) ⟨hx, hb, hml, hown, hts⟩ (c_X9_at l D cA h16 8 S.2.2.2.1.1.1 x1 (by decide)) (va_cwS 2 hts gX9_turn_X9_at rfl rfl rfl (by decide +kernel) ⟨Nat.le_of_ble_eq_true rfl, Nat.le_of_ble_eq_true rfl⟩) (zqSR hK hP hN (z_c1 (a := [(h0, .inr (9, [.ref h5, .ref h1, .ref h2, .ref h3, .ref h4])), (h5, .inr (7, [.ref h6, .ref h7, .ref h12, .ref h14, .ref h21, .long S.2.2.2.2.2.1, .int S.2.2.2.2.2.2.1, .long S.2.2.2.2.2.2.2])), (h6, .inl ((cA 0), 9, .inr (.inl S.1))), (h7, .inr (5, [.ref h8, .long S.2.1.2.1, .long S.2.1.2.2.1, .long S.2.1.2.2.2.1, .long S.2.1.2.2.2.2])), (h8, .inr (3, [.ref h9, .ref h10, .ref h11, .int S.2.1.1.2.2.2])), (h9, .inl ((cA 0), 8, .inr (.inl S.2.1.1.1))), (h10, .inl ((cA 0), 8, .inr (.inl S.2.1.1.2.1))), (h11, .inl ((cA 0), 8, .inr (.inl S.2.1.1.2.2.1))), (h12, .inr (0, [.ref h13, .long S.2.2.1.2.1, .long S.2.2.1.2.2.1, .int S.2.2.1.2.2.2.1, .int S.2.2.1.2.2.2.2.1, .int S.2.2.1.2.2.2.2.2.1, .long S.2.2.1.2.2.2.2.2.2])), (h13, .inl ((cA 0), 5, .inr (.inl S.2.2.1.1))), (h14, .inr (8, [.ref h15, .ref h17, .ref h19, .long S.2.2.2.1.2.2.2.1, .int S.2.2.2.1.2.2.2.2.1, .int S.2.2.2.1.2.2.2.2.2])), (h15, .inr (2, [.ref h16, .int S.2.2.2.1.1.2]))]) (b := [(h17, .inr (2, [.ref h18, .int S.2.2.2.1.2.1.2])), (h18, .inl ((cA 0), 8, .inr (.inl S.2.2.2.1.2.1.1))), (h19, .inr (2, [.ref h20, .int S.2.2.2.1.2.2.1.2])), (h20, .inl ((cA 0), 8, .inr (.inl S.2.2.2.1.2.2.1.1))), (h21, .inr (6, [.ref h22, .ref h23, .int S.2.2.2.2.1.2.2.1, .int S.2.2.2.2.1.2.2.2])), (h22, .inl ((cA 0), 6, .inr (.inl S.2.2.2.2.1.1))), (h23, .inr (2, [.ref h24, .int S.2.2.2.2.1.2.1.2])), (h24, .inl ((cA 0), 5, .inr (.inl S.2.2.2.2.1.2.1.1)))]) rfl)) rfl rfl hl.1 rfl (lv_room (Nat.le_of_ble_eq_true rfl)) dX9_turn_70 ⟨Nat.le_of_ble_eq_true rfl, Nat.le_of_ble_eq_true rfl⟩) ?_
      refine lv_l2i hx hb dX9_turn_73 rfl ?_
      have e9 : (zf_turn S x1 x2) = ((zf_at 8 S.2.2.2.1.1.1 x1).toInt32) := by unfold zf_turn; rw [if_neg c_1, if_pos c_2]
      subst hQ
      exact W.iret (v := ((zf_at 8 S.2.2.2.1.1.1 x1).toInt32)) hx hb hr (fun t ht hW => ⟨_, rfl, e9.symm, ht⟩) (fun q h => by cases h) dX9_turn_74
    · skip
      by_cases c_3 : x2 = (1 : Int32)
      · skip
        refine lv_lookup (tgt := 75) (off := 46) hx hb dX9_turn_29 (by decide) (by rw [c_3]; decide) (by decide) ?_
        refine lv_aload_n hx hb dX9_turn_75 rfl (lv_at hl 0 rfl) ?_
        refine va_get (D := D) (ci := 9) (v := .ref h5) (C := RX9) (T := TX9) (N := 5) hx hb hts hinX9 hown hK hP 0 rfl rfl 0 (by decide) (hts (.fieldLink RX9 10 "GyroTrainer" "now" "LGyroTrainer$State;") (List.mem_of_getElem? (i := 1) rfl)) (fun _ h9 => h9) rfl dX9_turn_76 ?_
        refine va_get (D := D) (ci := 7) (v := .ref h14) (C := RX7) (T := TX7) (N := 8) hx hb hts hinX7 hown hK hP 1 rfl rfl 3 (by decide) (hts (.fieldLink RX9 150 "GyroTrainer$State" "swings" "LGyroTrainer$Swings;") (List.mem_of_getElem? (i := 2) rfl)) (fun _ h9 => h9) rfl dX9_turn_79 ?_
        refine va_get (D := D) (ci := 8) (v := .ref h17) (C := RX8) (T := TX8) (N := 6) hx hb hts hinX8 hown hK hP 10 rfl rfl 1 (by decide) (hts (.fieldLink RX9 257 "GyroTrainer$Swings" "times" "LGyroTrainer$Latest;") (List.mem_of_getElem? (i := 7) rfl)) (fun _ h9 => h9) rfl dX9_turn_82 ?_
        refine va_get (D := D) (ci := 2) (v := .ref h18) (C := RX2) (T := TX2) (N := 2) hx hb hts hinX2 hown hK hP 13 rfl rfl 0 (by decide) (hts (.fieldLink RX9 254 "GyroTrainer$Latest" "numbers" "[J") (List.mem_of_getElem? (i := 6) rfl)) (fun _ h9 => h9) rfl dX9_turn_85 ?_
        refine lv_iload_n hx hb dX9_turn_88 rfl (lv_at hl 1 rfl) ?_
        refine z_Rl (va_runS (As := [.ref h18, .int x1]) (rest := []) ⟨hx, hb, hml, hown, hts⟩ (c_X9_at l D cA h18 8 S.2.2.2.1.2.1.1 x1 (by decide)) (va_cwS 2 hts gX9_turn_X9_at rfl rfl rfl (by decide +kernel) ⟨Nat.le_of_ble_eq_true rfl, Nat.le_of_ble_eq_true rfl⟩) (zqSR hK hP hN (z_c1 (a := [(h0, .inr (9, [.ref h5, .ref h1, .ref h2, .ref h3, .ref h4])), (h5, .inr (7, [.ref h6, .ref h7, .ref h12, .ref h14, .ref h21, .long S.2.2.2.2.2.1, .int S.2.2.2.2.2.2.1, .long S.2.2.2.2.2.2.2])), (h6, .inl ((cA 0), 9, .inr (.inl S.1))), (h7, .inr (5, [.ref h8, .long S.2.1.2.1, .long S.2.1.2.2.1, .long S.2.1.2.2.2.1, .long S.2.1.2.2.2.2])), (h8, .inr (3, [.ref h9, .ref h10, .ref h11, .int S.2.1.1.2.2.2])), (h9, .inl ((cA 0), 8, .inr (.inl S.2.1.1.1))), (h10, .inl ((cA 0), 8, .inr (.inl S.2.1.1.2.1))), (h11, .inl ((cA 0), 8, .inr (.inl S.2.1.1.2.2.1))), (h12, .inr (0, [.ref h13, .long S.2.2.1.2.1, .long S.2.2.1.2.2.1, .int S.2.2.1.2.2.2.1, .int S.2.2.1.2.2.2.2.1, .int S.2.2.1.2.2.2.2.2.1, .long S.2.2.1.2.2.2.2.2.2])), (h13, .inl ((cA 0), 5, .inr (.inl S.2.2.1.1))), (h14, .inr (8, [.ref h15, .ref h17, .ref h19, .long S.2.2.2.1.2.2.2.1, .int S.2.2.2.1.2.2.2.2.1, .int S.2.2.2.1.2.2.2.2.2])), (h15, .inr (2, [.ref h16, .int S.2.2.2.1.1.2])), (h16, .inl ((cA 0), 8, .inr (.inl S.2.2.2.1.1.1))), (h17, .inr (2, [.ref h18, .int S.2.2.2.1.2.1.2]))]) (b := [(h19, .inr (2, [.ref h20, .int S.2.2.2.1.2.2.1.2])), (h20, .inl ((cA 0), 8, .inr (.inl S.2.2.2.1.2.2.1.1))), (h21, .inr (6, [.ref h22, .ref h23, .int S.2.2.2.2.1.2.2.1, .int S.2.2.2.2.1.2.2.2])), (h22, .inl ((cA 0), 6, .inr (.inl S.2.2.2.2.1.1))), (h23, .inr (2, [.ref h24, .int S.2.2.2.2.1.2.1.2])), (h24, .inl ((cA 0), 5, .inr (.inl S.2.2.2.2.1.2.1.1)))]) rfl)) rfl rfl hl.1 rfl (lv_room (Nat.le_of_ble_eq_true rfl)) dX9_turn_89 ⟨Nat.le_of_ble_eq_true rfl, Nat.le_of_ble_eq_true rfl⟩) ?_
        refine lv_l2i hx hb dX9_turn_92 rfl ?_
        have e9 : (zf_turn S x1 x2) = ((zf_at 8 S.2.2.2.1.2.1.1 x1).toInt32) := by unfold zf_turn; rw [if_neg c_1, if_neg c_2, if_pos c_3]
        subst hQ
        exact W.iret (v := ((zf_at 8 S.2.2.2.1.2.1.1 x1).toInt32)) hx hb hr (fun t ht hW => ⟨_, rfl, e9.symm, ht⟩) (fun q h => by cases h) dX9_turn_93
      · skip
        refine lv_lookup (tgt := 94) (off := 65) hx hb dX9_turn_29 (by decide) (by show (if (0 : Int) = x2.toInt then _ else if (1 : Int) = x2.toInt then _ else _) = _; rw [if_neg (fun h => c_2 (Int32.toInt_inj.mp (h.symm.trans (by decide)))), if_neg (fun h => c_3 (Int32.toInt_inj.mp (h.symm.trans (by decide))))] <;> rfl) (by decide) ?_
        refine lv_ldc hx hb hown (hts (.constant RX9 73 (-1000000002)) (List.mem_of_getElem? (i := 8) rfl)) dX9_turn_94 ?_
        have e9 : (zf_turn S x1 x2) = (-1000000002 : Int32) := by unfold zf_turn; rw [if_neg c_1, if_neg c_2, if_neg c_3]
        subst hQ
        exact W.iret (v := (-1000000002 : Int32)) hx hb hr (fun t ht hW => ⟨_, rfl, e9.symm, ht⟩) (fun q h => by cases h) dX9_turn_96
  · skip
    refine lv_ldc hx hb hown (hts (.constant RX9 253 (-1000000001)) (List.mem_of_getElem? (i := 5) rfl)) dX9_turn_25 ?_
    have e9 : (zf_turn S x1 x2) = (-1000000001 : Int32) := by unfold zf_turn; rw [if_pos c_1]
    subst hQ
    exact W.iret (v := (-1000000001 : Int32)) hx hb hr (fun t ht hW => ⟨_, rfl, e9.symm, ht⟩) (fun q h => by cases h) dX9_turn_27
