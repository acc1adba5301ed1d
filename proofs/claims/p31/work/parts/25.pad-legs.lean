def fc_dl (f : Nat → Int32) (ln hi : Int32) : Nat → Int32 → Int64 → Int32 × Int64
  | 0, ix, n => (ix, n)
  | d + 1, ix, n => if fc_td (fc_sg f ln ix) n hi = 0 then (ix, n) else fc_dl f ln hi d (ix + 1) (n * 10 + (fc_sg f ln ix - 48).toInt64)
theorem fc_dl_s {f : Nat → Int32} {ln hi ix : Int32} {n : Int64} {d : Nat} (h : 0 < d) (c1 : ¬ fc_td (fc_sg f ln ix) n hi = 0) : fc_dl f ln hi d ix n = fc_dl f ln hi (d - 1) (ix + 1) (n * 10 + (fc_sg f ln ix - 48).toInt64) := by
  obtain ⟨j, rfl⟩ : ∃ j, d = j + 1 := ⟨d - 1, by omega⟩
  show (if _ = (0 : Int32) then _ else _) = _
  rw [if_neg c1, Nat.add_sub_cancel]
theorem fc_dl_e {f : Nat → Int32} {ln hi ix : Int32} {n : Int64} {d : Nat} (c1 : d = 0 ∨ fc_td (fc_sg f ln ix) n hi = 0) : fc_dl f ln hi d ix n = (ix, n) := by
  cases d
  · rfl
  · show (if _ = (0 : Int32) then _ else _) = _
    rw [if_pos (c1.resolve_left (by omega))]
def fc_n0 (v : vX4) : vX4 := (v.1, v.2.1, v.2.2.1, v.2.2.2.1, 0)
def fc_rn (v : vX4) (lo hi : Int32) : Int32 × vX4 :=
  if fc_sg v.1 v.2.2.1 v.2.2.2.1 = 48 then (if lo = 0 then ((if (fc_rs (fc_n0 v) 48).1 = 0 then 0 else 1), (fc_rs (fc_n0 v) 48).2) else (0, fc_n0 v))
  else ((if (fc_dl v.1 v.2.2.1 hi 80 v.2.2.2.1 0).1 ≤ v.2.2.2.1 then 0 else 1), (v.1, v.2.1, v.2.2.1, (fc_dl v.1 v.2.2.1 hi 80 v.2.2.2.1 0).1, (fc_dl v.1 v.2.2.1 hi 80 v.2.2.2.1 0).2))
theorem rs_1 (v : vX4) (x : Int32) : (fc_rs v x).2.1 = v.1 := by
  unfold fc_rs; by_cases h : fc_sg v.1 v.2.2.1 v.2.2.2.1 = x
  · rw [if_pos h]
  · rw [if_neg h]
theorem rn_1 (v : vX4) (lo hi : Int32) : (fc_rn v lo hi).2.1 = v.1 := by
  unfold fc_rn; by_cases h : fc_sg v.1 v.2.2.1 v.2.2.2.1 = 48
  · rw [if_pos h]; by_cases h2 : lo = 0
    · rw [if_pos h2]; exact rs_1 (fc_n0 v) 48
    · rw [if_neg h2]; rfl
  · rw [if_neg h]
def fc_al (v : vX4) (x y : Int64) : vX4 := (v.1, zf_gadd 13 v.2.1 x y v.2.2.2.2, v.2.2)
def fc_o3 (v : vX4) (x y : Int64) : Int32 × vX4 :=
  if (fc_rs v 109).1 = 0 then (0, (fc_rs v 109).2) else if (fc_rn (fc_rs v 109).2 1 600).1 = 0 then (0, (fc_rn (fc_rs v 109).2 1 600).2) else (1, fc_al (fc_rn (fc_rs v 109).2 1 600).2 x y)
def fc_o2 (v : vX4) (x : Int64) : Int32 × vX4 :=
  if (fc_rs v 118).1 = 0 then (0, (fc_rs v 118).2) else if (fc_rn (fc_rs v 118).2 0 400).1 = 0 then (0, (fc_rn (fc_rs v 118).2 0 400).2) else fc_o3 (fc_rn (fc_rs v 118).2 0 400).2 x (fc_rn (fc_rs v 118).2 0 400).2.2.2.2.2
def fc_o1 (v : vX4) : Int32 × vX4 :=
  if (fc_rs v 99).1 = 0 then (0, (fc_rs v 99).2) else if (fc_rn (fc_rs v 99).2 0 359).1 = 0 then (0, (fc_rn (fc_rs v 99).2 0 359).2) else fc_o2 (fc_rn (fc_rs v 99).2 0 359).2 ((fc_rn (fc_rs v 99).2 0 359).2.2.2.2.2 * 100)
theorem al_1 (v : vX4) (x y : Int64) : (fc_al v x y).1 = v.1 := rfl
theorem o3_1 (v : vX4) (x y : Int64) : (fc_o3 v x y).2.1 = v.1 := by
  unfold fc_o3; by_cases h : (fc_rs v 109).1 = 0
  · rw [if_pos h]; exact rs_1 v 109
  · rw [if_neg h]; by_cases h2 : (fc_rn (fc_rs v 109).2 1 600).1 = 0
    · rw [if_pos h2]; exact (rn_1 _ _ _).trans (rs_1 _ _)
    · rw [if_neg h2]; dsimp only; rw [al_1, rn_1, rs_1]
theorem o2_1 (v : vX4) (x : Int64) : (fc_o2 v x).2.1 = v.1 := by
  unfold fc_o2; by_cases h : (fc_rs v 118).1 = 0
  · rw [if_pos h]; exact rs_1 v 118
  · rw [if_neg h]; by_cases h2 : (fc_rn (fc_rs v 118).2 0 400).1 = 0
    · rw [if_pos h2]; exact (rn_1 _ _ _).trans (rs_1 _ _)
    · rw [if_neg h2]; exact (o3_1 _ _ _).trans ((rn_1 _ _ _).trans (rs_1 _ _))
theorem o1_1 (v : vX4) : (fc_o1 v).2.1 = v.1 := by
  unfold fc_o1; by_cases h : (fc_rs v 99).1 = 0
  · rw [if_pos h]; exact rs_1 v 99
  · rw [if_neg h]; by_cases h2 : (fc_rn (fc_rs v 99).2 0 359).1 = 0
    · rw [if_pos h2]; exact (rn_1 _ _ _).trans (rs_1 _ _)
    · rw [if_neg h2]; exact (o2_1 _ _).trans ((rn_1 _ _ _).trans (rs_1 _ _))
def fc_rl : Nat → vX4 → Int32 × vX4
  | 0, v => (v.2.2.2.1, v)
  | d + 1, v => if (fc_o1 v).1 = 0 then ((fc_o1 v).2.2.2.2.1, (fc_o1 v).2) else if (fc_o1 v).2.2.2.2.1 < (fc_o1 v).2.2.2.1 then
      (if (fc_rs (fc_o1 v).2 59).1 = 0 then ((fc_rs (fc_o1 v).2 59).2.2.2.2.1, (fc_rs (fc_o1 v).2 59).2) else fc_rl d (fc_rs (fc_o1 v).2 59).2) else (-6, (fc_o1 v).2)
def fc_r0 (v : vX4) : vX4 := (v.1, zf_gclear v.2.1, v.2.2.1, 0, v.2.2.2.2)
def fc_readLegs (v : vX4) : Int32 × vX4 := fc_rl 81 (fc_r0 v)

set_option maxHeartbeats 4000000 in
set_option maxRecDepth 100000 in
theorem c_X4_readNumber (l : Launch) (D : va_G) (cA : Nat → ClassId) (h0 h1 h2 h3 h4 h5 : Nat) (sz : Nat) (v : vX4) (x1 : Int32) (x2 : Int32) (hch : hCh v.1) : Met l yX4_readNumber wsX4_readNumber ({ frames := 2, cells := 0, slots := 0, locals := 42 }) (va_Pc [.ref h0, .int x1, .int x2] (zPre D (zty cA) (wX4 cA h0 h1 h2 h3 h4 h5 v) sz)) (va_Qi (fun (x : Int32) (u : vX4) => (x, u) = (fc_rn v x1 x2)) (fun u => zPost D (zty cA) (va_A (wX4 cA h0 h1 h2 h3 h4 h5 v) sz) (wX4 cA h0 h1 h2 h3 h4 h5 u)) (va_A (wX4 cA h0 h1 h2 h3 h4 h5 v) sz)) 0 0 (va_A (wX4 cA h0 h1 h2 h3 h4 h5 v) sz) := by
  refine Met.ofW (cc := cX4_readNumber) (maxL := 5) (ret := (some .boolean)) (by decide) rfl ?_
  intro p e s m args below meth c s₁ B hml hv
  obtain ⟨rfl, hsz, hP, hK, hD0, hE⟩ := hv
  have hx := B.exec
  have hb := B.bytes
  have hr := B.returns
  have hts := atoms_spec (ws := wsX4_readNumber) B.pre
  have hown : s.vm.findClass RX4 = some m.cls := findClass_of_methodNamed B.named
  have hlocks := B.notSynchronized
  have hinX4 : ∀ w ∈ u_ws RX4 TX4 5, w ∈ wsX4_readNumber := fun w h => List.mem_cons_of_mem _ (List.mem_append_right _ h)
  subst hsz
  have hD := hD0.self (sz := s.heap.size)
  generalize hAe : va_A (wX4 cA h0 h1 h2 h3 h4 h5 v) s.heap.size = A at hD hE ⊢
  have hA : ∀ q : Nat, s.heap.size ≤ q → A q := fun q h => by rw [← hAe]; exact Or.inr h
  have hS : va_S A s.heap s.heap [] := va_S.rf
  have hN : zN s := hE.1
  have hP : va_P D vwCl [(h0, .inr (4, [.ref h1, .ref h2, .int v.2.2.1, .int v.2.2.2.1, .long v.2.2.2.2])), (h1, .inl ((cA 3), 80, .inl v.1)), (h2, .inr (3, [.ref h3, .ref h4, .ref h5, .int v.2.1.2.2.2])), (h3, .inl ((cA 0), 13, .inr (.inl v.2.1.1))), (h4, .inl ((cA 0), 13, .inr (.inl v.2.1.2.1))), (h5, .inl ((cA 0), 13, .inr (.inl v.2.1.2.2.1)))] s.heap := hP
  have hD : va_D A [(h0, .inr (4, [.ref h1, .ref h2, .int v.2.2.1, .int v.2.2.2.1, .long v.2.2.2.2])), (h1, .inl ((cA 3), 80, .inl v.1)), (h2, .inr (3, [.ref h3, .ref h4, .ref h5, .int v.2.1.2.2.2])), (h3, .inl ((cA 0), 13, .inr (.inl v.2.1.1))), (h4, .inl ((cA 0), 13, .inr (.inl v.2.1.2.1))), (h5, .inl ((cA 0), 13, .inr (.inl v.2.1.2.2.1)))] := hD
  have hl := lv_entry ([.ref h0, .int x1, .int x2]) (n := 5) (Nat.le_of_ble_eq_true rfl)
  rw [lg_entry_eq]
  generalize (lg_sl ([.ref h0, .int x1, .int x2]) ++ List.replicate (5 - (lg_sl ([.ref h0, .int x1, .int x2])).length) Slot.unset).toArray = ls at hl ⊢
  have hl : lv_has ls 5 [(0, .ref h0), (1, .int x1), (2, .int x2)] := hl
  refine z_genQ (fun Q hQ => ?_)
  refine lv_aload_n hx hb dX4_readNumber_0 rfl (lv_at hl 0 rfl) ?_
  refine lv_lconst (v := 0) hx hb dX4_readNumber_1 (by decide) ?_
  refine va_put (D := D) (ci := 4) (v := .long (0 : Int64)) (ty := .long) (C := RX4) (T := TX4) (N := 5) hx hb hts hinX4 tyX4 tyX4_ok nmX4 hown hK hP hD hS 0 rfl rfl 4 (by decide) (hts (.fieldLink RX4 46 "GyroTrainer$Pad" "number" "J") (List.mem_of_getElem? (i := 1) rfl)) (fun _ h9 => h9) rfl (by decide +kernel) rfl rfl (Nat.le_of_ble_eq_true rfl) dX4_readNumber_2 (fun H locs hP hD hS => ?_)
  have hP : va_P D vwCl [(h0, .inr (4, [.ref h1, .ref h2, .int v.2.2.1, .int v.2.2.2.1, .long (0 : Int64)])), (h1, .inl ((cA 3), 80, .inl v.1)), (h2, .inr (3, [.ref h3, .ref h4, .ref h5, .int v.2.1.2.2.2])), (h3, .inl ((cA 0), 13, .inr (.inl v.2.1.1))), (h4, .inl ((cA 0), 13, .inr (.inl v.2.1.2.1))), (h5, .inl ((cA 0), 13, .inr (.inl v.2.1.2.2.1)))] H := hP
  have hD : va_D A [(h0, .inr (4, [.ref h1, .ref h2, .int v.2.2.1, .int v.2.2.2.1, .long (0 : Int64)])), (h1, .inl ((cA 3), 80, .inl v.1)), (h2, .inr (3, [.ref h3, .ref h4, .ref h5, .int v.2.1.2.2.2])), (h3, .inl ((cA 0), 13, .inr (.inl v.2.1.1))), (h4, .inl ((cA 0), 13, .inr (.inl v.2.1.2.1))), (h5, .inl ((cA 0), 13, .inr (.inl v.2.1.2.2.1)))] := hD
  refine lv_aload_n hx hb dX4_readNumber_5 rfl (lv_at hl 0 rfl) ?_
  refine z_Ri (va_runV (As := []) (rest := []) ⟨hx, hb, hml, hown, hts⟩ (c_X4_signAtIndex l D cA h0 h1 h2 h3 h4 h5 (v.1, v.2.1, v.2.2.1, v.2.2.2.1, (0 : Int64)) hch) (cwV 0 hts gX4_readNumber_X4_signAtIndex rfl rfl rfl (by decide +kernel) ⟨Nat.le_of_ble_eq_true rfl, Nat.le_of_ble_eq_true rfl⟩) (zqVR hK hP hN (z_c1 (a := []) (b := []) rfl) 0 rfl rfl) rfl rfl hl.1 rfl (lv_room (Nat.le_of_ble_eq_true rfl)) dX4_readNumber_6 ⟨Nat.le_of_ble_eq_true rfl, Nat.le_of_ble_eq_true rfl⟩) ?_
  refine lv_bipush (v := 48) hx hb dX4_readNumber_9 (by decide) ?_
  refine lv_icmp_ne (tgt := 33) hx hb dX4_readNumber_11 (by decide) (fun c_1 => ?_) (fun c_1 => ?_)
  · skip
    refine lv_aload_n hx hb dX4_readNumber_33 rfl (lv_at hl 0 rfl) ?_
    refine va_get (D := D) (ci := 4) (v := .int v.2.2.2.1) (C := RX4) (T := TX4) (N := 5) hx hb hts hinX4 hown hK hP 0 rfl rfl 3 (by decide) (hts (.fieldLink RX4 28 "GyroTrainer$Pad" "index" "I") (List.mem_of_getElem? (i := 2) rfl)) (fun _ h9 => h9) rfl dX4_readNumber_34 ?_
    refine lv_istore_n (lv' := [(3, .int v.2.2.2.1), (0, .ref h0), (1, .int x1), (2, .int x2)]) hx hb dX4_readNumber_37 rfl hl (by decide) rfl (fun ls hl => ?_)
    refine lv_iconst (v := 0) hx hb dX4_readNumber_38 (by decide) ?_
    refine lv_istore (lv' := [(4, .int (0 : Int32)), (3, .int v.2.2.2.1), (0, .ref h0), (1, .int x1), (2, .int x2)]) hx hb dX4_readNumber_39 hl (by decide) rfl (fun ls hl => ?_)
    have L41 : ∀ (zn : Nat) (k : Nat) (ix : Int32) (n : Int64), 80 - k < zn → (k ≤ 80) → (fc_dl v.1 v.2.2.1 x2 80 v.2.2.2.1 0 = fc_dl v.1 v.2.2.1 x2 (80 - k) ix n) → ∀ (H : Heap) (locs : List Loc), va_P D vwCl [(h0, .inr (4, [.ref h1, .ref h2, .int v.2.2.1, .int ix, .long n])), (h1, .inl ((cA 3), 80, .inl v.1)), (h2, .inr (3, [.ref h3, .ref h4, .ref h5, .int v.2.1.2.2.2])), (h3, .inl ((cA 0), 13, .inr (.inl v.2.1.1))), (h4, .inl ((cA 0), 13, .inr (.inl v.2.1.2.1))), (h5, .inl ((cA 0), 13, .inr (.inl v.2.1.2.2.1)))] H → va_D A [(h0, .inr (4, [.ref h1, .ref h2, .int v.2.2.1, .int ix, .long n])), (h1, .inl ((cA 3), 80, .inl v.1)), (h2, .inr (3, [.ref h3, .ref h4, .ref h5, .int v.2.1.2.2.2])), (h3, .inl ((cA 0), 13, .inr (.inl v.2.1.1))), (h4, .inl ((cA 0), 13, .inr (.inl v.2.1.2.1))), (h5, .inl ((cA 0), 13, .inr (.inl v.2.1.2.2.1)))] → va_S A s.heap H locs → ∀ (ls : Array Slot), lv_has ls 5 [(4, .int (nI k)), (3, .int v.2.2.2.1), (0, .ref h0), (1, .int x1), (2, .int x2)] → W p l e (headSpec wsX4_readNumber ({ frames := 2, cells := 0, slots := 0, locals := 42 })).room s m (([.ref h0, .int x1, .int x2] : List Value).toArray) below meth c H locs 0 0 Q (F0 m 41 ls []) := by
      intro zn
      induction zn with
      | zero =>
        intro k ix n hm
        exact absurd hm (Nat.not_lt_zero _)
      | succ zn ih =>
        intro k ix n hm hk hL H locs hP hD hS ls hl
        refine lv_iload hx hb dX4_readNumber_41 (lv_at hl 0 rfl) ?_
        refine lv_bipush (v := 80) hx hb dX4_readNumber_43 (by decide) ?_
        refine lv_icmp_ge (tgt := 93) hx hb dX4_readNumber_45 (by decide) (fun c_2 => ?_) (fun c_2 => ?_)
        · skip
          have ek8 : 80 ≤ k := (nI_leI (a := 80) (b := k) (by decide) (by omega)).mp c_2
          refine lv_aload_n hx hb dX4_readNumber_93 rfl (lv_at hl 2 rfl) ?_
          refine va_get (D := D) (ci := 4) (v := .int ix) (C := RX4) (T := TX4) (N := 5) hx hb hts hinX4 hown hK hP 0 rfl rfl 3 (by decide) (hts (.fieldLink RX4 28 "GyroTrainer$Pad" "index" "I") (List.mem_of_getElem? (i := 2) rfl)) (fun _ h9 => h9) rfl dX4_readNumber_94 ?_
          refine lv_iload_n hx hb dX4_readNumber_97 rfl (lv_at hl 1 rfl) ?_
          refine lv_icmp_le (tgt := 105) hx hb dX4_readNumber_98 (by decide) (fun c_3 => ?_) (fun c_3 => ?_)
          · skip
            refine lv_iconst (v := 0) hx hb dX4_readNumber_105 (by decide) ?_
            have e9 : (fc_rn v x1 x2) = ((0 : Int32), (v.1, v.2.1, v.2.2.1, ix, n)) := by unfold fc_rn; rw [if_neg c_1, hL, fc_dl_e (Or.inl (by omega)), if_pos c_3]
            have hP9 : va_P D vwCl (wX4 cA h0 h1 h2 h3 h4 h5 ((v.1, v.2.1, v.2.2.1, ix, n) : vX4)) H := hP
            have hD9 : va_D A (wX4 cA h0 h1 h2 h3 h4 h5 ((v.1, v.2.1, v.2.2.1, ix, n) : vX4)) := hD
            subst hQ
            exact W.zret (ty := .boolean) (v := (0 : Int32)) hx hb hr rfl (fun t ht hW => ⟨⟨(0 : Int32), (v.1, v.2.1, v.2.2.1, ix, n), rfl, e9.symm, ⟨by rw [ht]; exact hP9, va_K.moved hW.alike hK, hD9⟩⟩, hS.F ht⟩) hS.2.2 dX4_readNumber_106
          · skip
            refine lv_iconst (v := 1) hx hb dX4_readNumber_101 (by decide) ?_
            refine lv_goto (tgt := 106) hx hb dX4_readNumber_102 (by decide) ?_
            have e9 : (fc_rn v x1 x2) = ((1 : Int32), (v.1, v.2.1, v.2.2.1, ix, n)) := by unfold fc_rn; rw [if_neg c_1, hL, fc_dl_e (Or.inl (by omega)), if_neg c_3]
            have hP9 : va_P D vwCl (wX4 cA h0 h1 h2 h3 h4 h5 ((v.1, v.2.1, v.2.2.1, ix, n) : vX4)) H := hP
            have hD9 : va_D A (wX4 cA h0 h1 h2 h3 h4 h5 ((v.1, v.2.1, v.2.2.1, ix, n) : vX4)) := hD
            subst hQ
            exact W.zret (ty := .boolean) (v := (1 : Int32)) hx hb hr rfl (fun t ht hW => ⟨⟨(1 : Int32), (v.1, v.2.1, v.2.2.1, ix, n), rfl, e9.symm, ⟨by rw [ht]; exact hP9, va_K.moved hW.alike hK, hD9⟩⟩, hS.F ht⟩) hS.2.2 dX4_readNumber_106
        · skip
          have hkl : k < 80 := Nat.lt_of_not_le (fun h => c_2 (nI_le (a := 80) (b := k) h (by omega)))
          refine lv_aload_n hx hb dX4_readNumber_48 rfl (lv_at hl 2 rfl) ?_
          refine lv_iload_n hx hb dX4_readNumber_49 rfl (lv_at hl 4 rfl) ?_
          refine z_Ri (va_runV (As := [.int x2]) (rest := []) ⟨hx, hb, hml, hown, hts⟩ (c_X4_canTakeDigit l D cA h0 h1 h2 h3 h4 h5 (v.1, v.2.1, v.2.2.1, ix, n) x2 hch) (cwV 1 hts gX4_readNumber_X4_canTakeDigit rfl rfl rfl (by decide +kernel) ⟨Nat.le_of_ble_eq_true rfl, Nat.le_of_ble_eq_true rfl⟩) (zqVR hK hP hN (z_c1 (a := []) (b := []) rfl) 0 rfl rfl) rfl rfl hl.1 rfl (lv_room (Nat.le_of_ble_eq_true rfl)) dX4_readNumber_50 ⟨Nat.le_of_ble_eq_true rfl, Nat.le_of_ble_eq_true rfl⟩) ?_
          refine lv_if_eq (tgt := 93) hx hb dX4_readNumber_53 (by decide) (fun c_4 => ?_) (fun c_4 => ?_)
          · skip
            refine lv_aload_n hx hb dX4_readNumber_93 rfl (lv_at hl 2 rfl) ?_
            refine va_get (D := D) (ci := 4) (v := .int ix) (C := RX4) (T := TX4) (N := 5) hx hb hts hinX4 hown hK hP 0 rfl rfl 3 (by decide) (hts (.fieldLink RX4 28 "GyroTrainer$Pad" "index" "I") (List.mem_of_getElem? (i := 2) rfl)) (fun _ h9 => h9) rfl dX4_readNumber_94 ?_
            refine lv_iload_n hx hb dX4_readNumber_97 rfl (lv_at hl 1 rfl) ?_
            refine lv_icmp_le (tgt := 105) hx hb dX4_readNumber_98 (by decide) (fun c_5 => ?_) (fun c_5 => ?_)
            · skip
              refine lv_iconst (v := 0) hx hb dX4_readNumber_105 (by decide) ?_
              have e9 : (fc_rn v x1 x2) = ((0 : Int32), (v.1, v.2.1, v.2.2.1, ix, n)) := by unfold fc_rn; rw [if_neg c_1, hL, fc_dl_e (Or.inr c_4), if_pos c_5]
              have hP9 : va_P D vwCl (wX4 cA h0 h1 h2 h3 h4 h5 ((v.1, v.2.1, v.2.2.1, ix, n) : vX4)) H := hP
              have hD9 : va_D A (wX4 cA h0 h1 h2 h3 h4 h5 ((v.1, v.2.1, v.2.2.1, ix, n) : vX4)) := hD
              subst hQ
              exact W.zret (ty := .boolean) (v := (0 : Int32)) hx hb hr rfl (fun t ht hW => ⟨⟨(0 : Int32), (v.1, v.2.1, v.2.2.1, ix, n), rfl, e9.symm, ⟨by rw [ht]; exact hP9, va_K.moved hW.alike hK, hD9⟩⟩, hS.F ht⟩) hS.2.2 dX4_readNumber_106
            · skip
              refine lv_iconst (v := 1) hx hb dX4_readNumber_101 (by decide) ?_
              refine lv_goto (tgt := 106) hx hb dX4_readNumber_102 (by decide) ?_
              have e9 : (fc_rn v x1 x2) = ((1 : Int32), (v.1, v.2.1, v.2.2.1, ix, n)) := by unfold fc_rn; rw [if_neg c_1, hL, fc_dl_e (Or.inr c_4), if_neg c_5]
              have hP9 : va_P D vwCl (wX4 cA h0 h1 h2 h3 h4 h5 ((v.1, v.2.1, v.2.2.1, ix, n) : vX4)) H := hP
              have hD9 : va_D A (wX4 cA h0 h1 h2 h3 h4 h5 ((v.1, v.2.1, v.2.2.1, ix, n) : vX4)) := hD
              subst hQ
              exact W.zret (ty := .boolean) (v := (1 : Int32)) hx hb hr rfl (fun t ht hW => ⟨⟨(1 : Int32), (v.1, v.2.1, v.2.2.1, ix, n), rfl, e9.symm, ⟨by rw [ht]; exact hP9, va_K.moved hW.alike hK, hD9⟩⟩, hS.F ht⟩) hS.2.2 dX4_readNumber_106
          · skip
            refine lv_aload_n hx hb dX4_readNumber_56 rfl (lv_at hl 2 rfl) ?_
            refine lv_aload_n hx hb dX4_readNumber_57 rfl (lv_at hl 2 rfl) ?_
            refine va_get (D := D) (ci := 4) (v := .long n) (C := RX4) (T := TX4) (N := 5) hx hb hts hinX4 hown hK hP 0 rfl rfl 4 (by decide) (hts (.fieldLink RX4 46 "GyroTrainer$Pad" "number" "J") (List.mem_of_getElem? (i := 1) rfl)) (fun _ h9 => h9) rfl dX4_readNumber_58 ?_
            refine lv_ldc2 hx hb hown (hts (.constantLong RX4 64 (10)) (List.mem_of_getElem? (i := 3) rfl)) dX4_readNumber_61 ?_
            refine lv_lmul hx hb dX4_readNumber_64 ?_
            refine lv_aload_n hx hb dX4_readNumber_65 rfl (lv_at hl 2 rfl) ?_
            refine z_Ri (va_runV (As := []) (rest := [.long (n * (10 : Int64)), .ref h0]) ⟨hx, hb, hml, hown, hts⟩ (c_X4_signAtIndex l D cA h0 h1 h2 h3 h4 h5 (v.1, v.2.1, v.2.2.1, ix, n) hch) (cwV 0 hts gX4_readNumber_X4_signAtIndex rfl rfl rfl (by decide +kernel) ⟨Nat.le_of_ble_eq_true rfl, Nat.le_of_ble_eq_true rfl⟩) (zqVR hK hP hN (z_c1 (a := []) (b := []) rfl) 0 rfl rfl) rfl rfl hl.1 rfl (lv_room (Nat.le_of_ble_eq_true rfl)) dX4_readNumber_66 ⟨Nat.le_of_ble_eq_true rfl, Nat.le_of_ble_eq_true rfl⟩) ?_
            refine lv_bipush (v := 48) hx hb dX4_readNumber_69 (by decide) ?_
            refine lv_isub hx hb dX4_readNumber_71 ?_
            refine lv_i2l hx hb dX4_readNumber_72 rfl ?_
            refine lv_ladd hx hb dX4_readNumber_73 ?_
            refine lv_topl (fun g_6 eg_6 => ?_)
            refine va_put (D := D) (ci := 4) (v := .long g_6) (ty := .long) (C := RX4) (T := TX4) (N := 5) hx hb hts hinX4 tyX4 tyX4_ok nmX4 hown hK hP hD hS 0 rfl rfl 4 (by decide) (hts (.fieldLink RX4 46 "GyroTrainer$Pad" "number" "J") (List.mem_of_getElem? (i := 1) rfl)) (fun _ h9 => h9) rfl (by decide +kernel) rfl rfl (Nat.le_of_ble_eq_true rfl) dX4_readNumber_74 (fun H locs hP hD hS => ?_)
            have hP : va_P D vwCl [(h0, .inr (4, [.ref h1, .ref h2, .int v.2.2.1, .int ix, .long g_6])), (h1, .inl ((cA 3), 80, .inl v.1)), (h2, .inr (3, [.ref h3, .ref h4, .ref h5, .int v.2.1.2.2.2])), (h3, .inl ((cA 0), 13, .inr (.inl v.2.1.1))), (h4, .inl ((cA 0), 13, .inr (.inl v.2.1.2.1))), (h5, .inl ((cA 0), 13, .inr (.inl v.2.1.2.2.1)))] H := hP
            have hD : va_D A [(h0, .inr (4, [.ref h1, .ref h2, .int v.2.2.1, .int ix, .long g_6])), (h1, .inl ((cA 3), 80, .inl v.1)), (h2, .inr (3, [.ref h3, .ref h4, .ref h5, .int v.2.1.2.2.2])), (h3, .inl ((cA 0), 13, .inr (.inl v.2.1.1))), (h4, .inl ((cA 0), 13, .inr (.inl v.2.1.2.1))), (h5, .inl ((cA 0), 13, .inr (.inl v.2.1.2.2.1)))] := hD
            refine lv_aload_n hx hb dX4_readNumber_77 rfl (lv_at hl 2 rfl) ?_
            refine lv_dup hx hb dX4_readNumber_78 rfl ?_
            refine va_get (D := D) (ci := 4) (v := .int ix) (C := RX4) (T := TX4) (N := 5) hx hb hts hinX4 hown hK hP 0 rfl rfl 3 (by decide) (hts (.fieldLink RX4 28 "GyroTrainer$Pad" "index" "I") (List.mem_of_getElem? (i := 2) rfl)) (fun _ h9 => h9) rfl dX4_readNumber_79 ?_
            refine lv_iconst (v := 1) hx hb dX4_readNumber_82 (by decide) ?_
            refine lv_iadd hx hb dX4_readNumber_83 ?_
            refine lv_topi (fun g_7 eg_7 => ?_)
            refine va_put (D := D) (ci := 4) (v := .int g_7) (ty := .int) (C := RX4) (T := TX4) (N := 5) hx hb hts hinX4 tyX4 tyX4_ok nmX4 hown hK hP hD hS 0 rfl rfl 3 (by decide) (hts (.fieldLink RX4 28 "GyroTrainer$Pad" "index" "I") (List.mem_of_getElem? (i := 2) rfl)) (fun _ h9 => h9) rfl (by decide +kernel) rfl rfl (Nat.le_of_ble_eq_true rfl) dX4_readNumber_84 (fun H locs hP hD hS => ?_)
            have hP : va_P D vwCl [(h0, .inr (4, [.ref h1, .ref h2, .int v.2.2.1, .int g_7, .long g_6])), (h1, .inl ((cA 3), 80, .inl v.1)), (h2, .inr (3, [.ref h3, .ref h4, .ref h5, .int v.2.1.2.2.2])), (h3, .inl ((cA 0), 13, .inr (.inl v.2.1.1))), (h4, .inl ((cA 0), 13, .inr (.inl v.2.1.2.1))), (h5, .inl ((cA 0), 13, .inr (.inl v.2.1.2.2.1)))] H := hP
            have hD : va_D A [(h0, .inr (4, [.ref h1, .ref h2, .int v.2.2.1, .int g_7, .long g_6])), (h1, .inl ((cA 3), 80, .inl v.1)), (h2, .inr (3, [.ref h3, .ref h4, .ref h5, .int v.2.1.2.2.2])), (h3, .inl ((cA 0), 13, .inr (.inl v.2.1.1))), (h4, .inl ((cA 0), 13, .inr (.inl v.2.1.2.1))), (h5, .inl ((cA 0), 13, .inr (.inl v.2.1.2.2.1)))] := hD
            refine lv_iinc (v := (nI (k + 1))) (lv' := [(4, .int (nI (k + 1))), (3, .int v.2.2.2.1), (0, .ref h0), (1, .int x1), (2, .int x2)]) hx hb dX4_readNumber_87 hl (k := 0) rfl (nI_1 k) (by decide) rfl (fun ls hl => ?_)
            refine lv_goto (tgt := 41) hx hb dX4_readNumber_90 (by decide) ?_
            exact ih (k + 1) (g_7) (g_6) (by omega) (by omega) (by rw [eg_7, eg_6]; exact hL.trans (fc_dl_s (by omega) c_4)) _ _ hP hD hS ls (lv_sub hl [0, 1, 2, 3, 4] rfl)
    exact L41 (80 + 1) (0) (v.2.2.2.1) (0) (by omega) (Nat.zero_le _) rfl _ _ hP hD hS ls (lv_sub hl [0, 1, 2, 3, 4] rfl)
  · skip
    refine lv_iload_n hx hb dX4_readNumber_14 rfl (lv_at hl 1 rfl) ?_
    refine lv_if_ne (tgt := 31) hx hb dX4_readNumber_15 (by decide) (fun c_8 => ?_) (fun c_8 => ?_)
    · skip
      refine lv_iconst (v := 0) hx hb dX4_readNumber_31 (by decide) ?_
      have e9 : (fc_rn v x1 x2) = ((0 : Int32), (v.1, v.2.1, v.2.2.1, v.2.2.2.1, (0 : Int64))) := by unfold fc_rn fc_n0; rw [if_pos c_1, if_neg c_8]
      have hP9 : va_P D vwCl (wX4 cA h0 h1 h2 h3 h4 h5 ((v.1, v.2.1, v.2.2.1, v.2.2.2.1, (0 : Int64)) : vX4)) H := hP
      have hD9 : va_D A (wX4 cA h0 h1 h2 h3 h4 h5 ((v.1, v.2.1, v.2.2.1, v.2.2.2.1, (0 : Int64)) : vX4)) := hD
      subst hQ
      exact W.zret (ty := .boolean) (v := (0 : Int32)) hx hb hr rfl (fun t ht hW => ⟨⟨(0 : Int32), (v.1, v.2.1, v.2.2.1, v.2.2.2.1, (0 : Int64)), rfl, e9.symm, ⟨by rw [ht]; exact hP9, va_K.moved hW.alike hK, hD9⟩⟩, hS.F ht⟩) hS.2.2 dX4_readNumber_32
    · skip
      refine lv_aload_n hx hb dX4_readNumber_18 rfl (lv_at hl 0 rfl) ?_
      refine lv_bipush (v := 48) hx hb dX4_readNumber_19 (by decide) ?_
      refine z_Hi (wt := fun (u_9 : vX4) => [(h0, .inr (4, [.ref h1, .ref h2, .int u_9.2.2.1, .int u_9.2.2.2.1, .long u_9.2.2.2.2])), (h1, .inl ((cA 3), 80, .inl u_9.1)), (h2, .inr (3, [.ref h3, .ref h4, .ref h5, .int u_9.2.1.2.2.2])), (h3, .inl ((cA 0), 13, .inr (.inl u_9.2.1.1))), (h4, .inl ((cA 0), 13, .inr (.inl u_9.2.1.2.1))), (h5, .inl ((cA 0), 13, .inr (.inl u_9.2.1.2.2.1)))]) (va_runV (As := [.int (48 : Int32)]) (rest := []) ⟨hx, hb, hml, hown, hts⟩ (c_X4_readSign l D cA h0 h1 h2 h3 h4 h5 H.size (v.1, v.2.1, v.2.2.1, v.2.2.2.1, (0 : Int64)) (48 : Int32) hch) (cwV 1 hts gX4_readNumber_X4_readSign rfl rfl rfl (by decide +kernel) ⟨Nat.le_of_ble_eq_true rfl, Nat.le_of_ble_eq_true rfl⟩) (zqV hK hP hD hS hA hE (z_c1 (a := []) (b := []) rfl) 0 rfl rfl) rfl rfl hl.1 rfl (lv_room (Nat.le_of_ble_eq_true rfl)) dX4_readNumber_21 ⟨Nat.le_of_ble_eq_true rfl, Nat.le_of_ble_eq_true rfl⟩) hP hD hS hA (z_c1 (a := []) (b := []) rfl) (fun u_9 => (z_c1' (a := []) (b := []) rfl)) (fun r_10 u_9 H locs eu_9 hP hD hS => ?_)
      have hP : va_P D vwCl [(h0, .inr (4, [.ref h1, .ref h2, .int u_9.2.2.1, .int u_9.2.2.2.1, .long u_9.2.2.2.2])), (h1, .inl ((cA 3), 80, .inl u_9.1)), (h2, .inr (3, [.ref h3, .ref h4, .ref h5, .int u_9.2.1.2.2.2])), (h3, .inl ((cA 0), 13, .inr (.inl u_9.2.1.1))), (h4, .inl ((cA 0), 13, .inr (.inl u_9.2.1.2.1))), (h5, .inl ((cA 0), 13, .inr (.inl u_9.2.1.2.2.1)))] H := hP
      have hD : va_D A [(h0, .inr (4, [.ref h1, .ref h2, .int u_9.2.2.1, .int u_9.2.2.2.1, .long u_9.2.2.2.2])), (h1, .inl ((cA 3), 80, .inl u_9.1)), (h2, .inr (3, [.ref h3, .ref h4, .ref h5, .int u_9.2.1.2.2.2])), (h3, .inl ((cA 0), 13, .inr (.inl u_9.2.1.1))), (h4, .inl ((cA 0), 13, .inr (.inl u_9.2.1.2.1))), (h5, .inl ((cA 0), 13, .inr (.inl u_9.2.1.2.2.1)))] := hD
      obtain ⟨er_10, eu_9⟩ := z_pr eu_9
      refine lv_if_eq (tgt := 31) hx hb dX4_readNumber_24 (by decide) (fun c_11 => ?_) (fun c_11 => ?_)
      · skip
        refine lv_iconst (v := 0) hx hb dX4_readNumber_31 (by decide) ?_
        have e9 : (fc_rn v x1 x2) = ((0 : Int32), u_9) := by unfold fc_rn fc_n0; rw [if_pos c_1, if_pos c_8, ← er_10, ← eu_9, if_pos c_11]
        have hP9 : va_P D vwCl (wX4 cA h0 h1 h2 h3 h4 h5 (u_9 : vX4)) H := hP
        have hD9 : va_D A (wX4 cA h0 h1 h2 h3 h4 h5 (u_9 : vX4)) := hD
        subst hQ
        exact W.zret (ty := .boolean) (v := (0 : Int32)) hx hb hr rfl (fun t ht hW => ⟨⟨(0 : Int32), u_9, rfl, e9.symm, ⟨by rw [ht]; exact hP9, va_K.moved hW.alike hK, hD9⟩⟩, hS.F ht⟩) hS.2.2 dX4_readNumber_32
      · skip
        refine lv_iconst (v := 1) hx hb dX4_readNumber_27 (by decide) ?_
        refine lv_goto (tgt := 32) hx hb dX4_readNumber_28 (by decide) ?_
        have e9 : (fc_rn v x1 x2) = ((1 : Int32), u_9) := by unfold fc_rn fc_n0; rw [if_pos c_1, if_pos c_8, ← er_10, ← eu_9, if_neg c_11]
        have hP9 : va_P D vwCl (wX4 cA h0 h1 h2 h3 h4 h5 (u_9 : vX4)) H := hP
        have hD9 : va_D A (wX4 cA h0 h1 h2 h3 h4 h5 (u_9 : vX4)) := hD
        subst hQ
        exact W.zret (ty := .boolean) (v := (1 : Int32)) hx hb hr rfl (fun t ht hW => ⟨⟨(1 : Int32), u_9, rfl, e9.symm, ⟨by rw [ht]; exact hP9, va_K.moved hW.alike hK, hD9⟩⟩, hS.F ht⟩) hS.2.2 dX4_readNumber_32
set_option maxHeartbeats 4000000 in
set_option maxRecDepth 100000 in
theorem c_X4_readOneLeg (l : Launch) (D : va_G) (cA : Nat → ClassId) (h0 h1 h2 h3 h4 h5 : Nat) (sz : Nat) (v : vX4) (hch : hCh v.1) : Met l yX4_readOneLeg wsX4_readOneLeg ({ frames := 3, cells := 0, slots := 0, locals := 66 }) (va_Pc [.ref h0] (zPre D (zty cA) (wX4 cA h0 h1 h2 h3 h4 h5 v) sz)) (va_Qi (fun (x : Int32) (u : vX4) => (x, u) = (fc_o1 v)) (fun u => zPost D (zty cA) (va_A (wX4 cA h0 h1 h2 h3 h4 h5 v) sz) (wX4 cA h0 h1 h2 h3 h4 h5 u)) (va_A (wX4 cA h0 h1 h2 h3 h4 h5 v) sz)) 0 0 (va_A (wX4 cA h0 h1 h2 h3 h4 h5 v) sz) := by
  refine Met.ofW (cc := cX4_readOneLeg) (maxL := 5) (ret := (some .boolean)) (by decide) rfl ?_
  intro p e s m args below meth c s₁ B hml hv
  obtain ⟨rfl, hsz, hP, hK, hD0, hE⟩ := hv
  have hx := B.exec
  have hb := B.bytes
  have hr := B.returns
  have hts := atoms_spec (ws := wsX4_readOneLeg) B.pre
  have hown : s.vm.findClass RX4 = some m.cls := findClass_of_methodNamed B.named
  have hlocks := B.notSynchronized
  have hinX4 : ∀ w ∈ u_ws RX4 TX4 5, w ∈ wsX4_readOneLeg := fun w h => List.mem_cons_of_mem _ (List.mem_append_left _ (List.mem_append_right _ h))
  have hinX3 : ∀ w ∈ u_ws RX3 TX3 4, w ∈ wsX4_readOneLeg := fun w h => List.mem_cons_of_mem _ (List.mem_append_right _ h)
  subst hsz
  have hD := hD0.self (sz := s.heap.size)
  generalize hAe : va_A (wX4 cA h0 h1 h2 h3 h4 h5 v) s.heap.size = A at hD hE ⊢
  have hA : ∀ q : Nat, s.heap.size ≤ q → A q := fun q h => by rw [← hAe]; exact Or.inr h
  have hS : va_S A s.heap s.heap [] := va_S.rf
  have hN : zN s := hE.1
  have hP : va_P D vwCl [(h0, .inr (4, [.ref h1, .ref h2, .int v.2.2.1, .int v.2.2.2.1, .long v.2.2.2.2])), (h1, .inl ((cA 3), 80, .inl v.1)), (h2, .inr (3, [.ref h3, .ref h4, .ref h5, .int v.2.1.2.2.2])), (h3, .inl ((cA 0), 13, .inr (.inl v.2.1.1))), (h4, .inl ((cA 0), 13, .inr (.inl v.2.1.2.1))), (h5, .inl ((cA 0), 13, .inr (.inl v.2.1.2.2.1)))] s.heap := hP
  have hD : va_D A [(h0, .inr (4, [.ref h1, .ref h2, .int v.2.2.1, .int v.2.2.2.1, .long v.2.2.2.2])), (h1, .inl ((cA 3), 80, .inl v.1)), (h2, .inr (3, [.ref h3, .ref h4, .ref h5, .int v.2.1.2.2.2])), (h3, .inl ((cA 0), 13, .inr (.inl v.2.1.1))), (h4, .inl ((cA 0), 13, .inr (.inl v.2.1.2.1))), (h5, .inl ((cA 0), 13, .inr (.inl v.2.1.2.2.1)))] := hD
  have hl := lv_entry ([.ref h0]) (n := 5) (Nat.le_of_ble_eq_true rfl)
  rw [lg_entry_eq]
  generalize (lg_sl ([.ref h0]) ++ List.replicate (5 - (lg_sl ([.ref h0])).length) Slot.unset).toArray = ls at hl ⊢
  have hl : lv_has ls 5 [(0, .ref h0)] := hl
  refine z_genQ (fun Q hQ => ?_)
  refine lv_aload_n hx hb dX4_readOneLeg_0 rfl (lv_at hl 0 rfl) ?_
  refine lv_bipush (v := 99) hx hb dX4_readOneLeg_1 (by decide) ?_
  refine z_Hi (wt := fun (u_1 : vX4) => [(h0, .inr (4, [.ref h1, .ref h2, .int u_1.2.2.1, .int u_1.2.2.2.1, .long u_1.2.2.2.2])), (h1, .inl ((cA 3), 80, .inl u_1.1)), (h2, .inr (3, [.ref h3, .ref h4, .ref h5, .int u_1.2.1.2.2.2])), (h3, .inl ((cA 0), 13, .inr (.inl u_1.2.1.1))), (h4, .inl ((cA 0), 13, .inr (.inl u_1.2.1.2.1))), (h5, .inl ((cA 0), 13, .inr (.inl u_1.2.1.2.2.1)))]) (va_runV (As := [.int (99 : Int32)]) (rest := []) ⟨hx, hb, hml, hown, hts⟩ (c_X4_readSign l D cA h0 h1 h2 h3 h4 h5 s.heap.size v (99 : Int32) hch) (cwV 1 hts gX4_readOneLeg_X4_readSign rfl rfl rfl (by decide +kernel) ⟨Nat.le_of_ble_eq_true rfl, Nat.le_of_ble_eq_true rfl⟩) (zqV hK hP hD hS hA hE (z_c1 (a := []) (b := []) rfl) 0 rfl rfl) rfl rfl hl.1 rfl (lv_room (Nat.le_of_ble_eq_true rfl)) dX4_readOneLeg_3 ⟨Nat.le_of_ble_eq_true rfl, Nat.le_of_ble_eq_true rfl⟩) hP hD hS hA (z_c1 (a := []) (b := []) rfl) (fun u_1 => (z_c1' (a := []) (b := []) rfl)) (fun r_2 u_1 H locs eu_1 hP hD hS => ?_)
  have hP : va_P D vwCl [(h0, .inr (4, [.ref h1, .ref h2, .int u_1.2.2.1, .int u_1.2.2.2.1, .long u_1.2.2.2.2])), (h1, .inl ((cA 3), 80, .inl u_1.1)), (h2, .inr (3, [.ref h3, .ref h4, .ref h5, .int u_1.2.1.2.2.2])), (h3, .inl ((cA 0), 13, .inr (.inl u_1.2.1.1))), (h4, .inl ((cA 0), 13, .inr (.inl u_1.2.1.2.1))), (h5, .inl ((cA 0), 13, .inr (.inl u_1.2.1.2.2.1)))] H := hP
  have hD : va_D A [(h0, .inr (4, [.ref h1, .ref h2, .int u_1.2.2.1, .int u_1.2.2.2.1, .long u_1.2.2.2.2])), (h1, .inl ((cA 3), 80, .inl u_1.1)), (h2, .inr (3, [.ref h3, .ref h4, .ref h5, .int u_1.2.1.2.2.2])), (h3, .inl ((cA 0), 13, .inr (.inl u_1.2.1.1))), (h4, .inl ((cA 0), 13, .inr (.inl u_1.2.1.2.1))), (h5, .inl ((cA 0), 13, .inr (.inl u_1.2.1.2.2.1)))] := hD
  obtain ⟨er_2, eu_1⟩ := z_pr eu_1
  have hz1 : hCh u_1.1 := by rw [eu_1, rs_1]; exact hch
  refine lv_if_eq (tgt := 20) hx hb dX4_readOneLeg_6 (by decide) (fun c_3 => ?_) (fun c_3 => ?_)
  · skip
    refine lv_iconst (v := 0) hx hb dX4_readOneLeg_20 (by decide) ?_
    have e9 : (fc_o1 v) = ((0 : Int32), u_1) := by unfold fc_o1; simp only [if_pos c_3, ← er_2, ← eu_1]
    have hP9 : va_P D vwCl (wX4 cA h0 h1 h2 h3 h4 h5 (u_1 : vX4)) H := hP
    have hD9 : va_D A (wX4 cA h0 h1 h2 h3 h4 h5 (u_1 : vX4)) := hD
    subst hQ
    exact W.zret (ty := .boolean) (v := (0 : Int32)) hx hb hr rfl (fun t ht hW => ⟨⟨(0 : Int32), u_1, rfl, e9.symm, ⟨by rw [ht]; exact hP9, va_K.moved hW.alike hK, hD9⟩⟩, hS.F ht⟩) hS.2.2 dX4_readOneLeg_21
  · skip
    refine lv_aload_n hx hb dX4_readOneLeg_9 rfl (lv_at hl 0 rfl) ?_
    refine lv_iconst (v := 0) hx hb dX4_readOneLeg_10 (by decide) ?_
    refine lv_sipush (v := 359) hx hb dX4_readOneLeg_11 (by decide) ?_
    refine z_Hi (wt := fun (u_4 : vX4) => [(h0, .inr (4, [.ref h1, .ref h2, .int u_4.2.2.1, .int u_4.2.2.2.1, .long u_4.2.2.2.2])), (h1, .inl ((cA 3), 80, .inl u_4.1)), (h2, .inr (3, [.ref h3, .ref h4, .ref h5, .int u_4.2.1.2.2.2])), (h3, .inl ((cA 0), 13, .inr (.inl u_4.2.1.1))), (h4, .inl ((cA 0), 13, .inr (.inl u_4.2.1.2.1))), (h5, .inl ((cA 0), 13, .inr (.inl u_4.2.1.2.2.1)))]) (va_runV (As := [.int (0 : Int32), .int (359 : Int32)]) (rest := []) ⟨hx, hb, hml, hown, hts⟩ (c_X4_readNumber l D cA h0 h1 h2 h3 h4 h5 H.size u_1 (0 : Int32) (359 : Int32) hz1) (cwV 2 hts gX4_readOneLeg_X4_readNumber rfl rfl rfl (by decide +kernel) ⟨Nat.le_of_ble_eq_true rfl, Nat.le_of_ble_eq_true rfl⟩) (zqV hK hP hD hS hA hE (z_c1 (a := []) (b := []) rfl) 0 rfl rfl) rfl rfl hl.1 rfl (lv_room (Nat.le_of_ble_eq_true rfl)) dX4_readOneLeg_14 ⟨Nat.le_of_ble_eq_true rfl, Nat.le_of_ble_eq_true rfl⟩) hP hD hS hA (z_c1 (a := []) (b := []) rfl) (fun u_4 => (z_c1' (a := []) (b := []) rfl)) (fun r_5 u_4 H locs eu_4 hP hD hS => ?_)
    have hP : va_P D vwCl [(h0, .inr (4, [.ref h1, .ref h2, .int u_4.2.2.1, .int u_4.2.2.2.1, .long u_4.2.2.2.2])), (h1, .inl ((cA 3), 80, .inl u_4.1)), (h2, .inr (3, [.ref h3, .ref h4, .ref h5, .int u_4.2.1.2.2.2])), (h3, .inl ((cA 0), 13, .inr (.inl u_4.2.1.1))), (h4, .inl ((cA 0), 13, .inr (.inl u_4.2.1.2.1))), (h5, .inl ((cA 0), 13, .inr (.inl u_4.2.1.2.2.1)))] H := hP
    have hD : va_D A [(h0, .inr (4, [.ref h1, .ref h2, .int u_4.2.2.1, .int u_4.2.2.2.1, .long u_4.2.2.2.2])), (h1, .inl ((cA 3), 80, .inl u_4.1)), (h2, .inr (3, [.ref h3, .ref h4, .ref h5, .int u_4.2.1.2.2.2])), (h3, .inl ((cA 0), 13, .inr (.inl u_4.2.1.1))), (h4, .inl ((cA 0), 13, .inr (.inl u_4.2.1.2.1))), (h5, .inl ((cA 0), 13, .inr (.inl u_4.2.1.2.2.1)))] := hD
    obtain ⟨er_5, eu_4⟩ := z_pr eu_4
    have hz2 : hCh u_4.1 := by rw [eu_4, rn_1]; exact hz1
    refine lv_if_ne (tgt := 22) hx hb dX4_readOneLeg_17 (by decide) (fun c_6 => ?_) (fun c_6 => ?_)
    · skip
      refine lv_aload_n hx hb dX4_readOneLeg_22 rfl (lv_at hl 0 rfl) ?_
      refine va_get (D := D) (ci := 4) (v := .long u_4.2.2.2.2) (C := RX4) (T := TX4) (N := 5) hx hb hts hinX4 hown hK hP 0 rfl rfl 4 (by decide) (hts (.fieldLink RX4 46 "GyroTrainer$Pad" "number" "J") (List.mem_of_getElem? (i := 1) rfl)) (fun _ h9 => h9) rfl dX4_readOneLeg_23 ?_
      refine lv_ldc2 hx hb hown (hts (.constantLong RX4 50 (100)) (List.mem_of_getElem? (i := 2) rfl)) dX4_readOneLeg_26 ?_
      refine lv_lmul hx hb dX4_readOneLeg_29 ?_
      refine lv_lstore_n (lv' := [(1, .long (u_4.2.2.2.2 * (100 : Int64))), (0, .ref h0)]) hx hb dX4_readOneLeg_30 rfl hl (by decide) rfl (fun ls hl => ?_)
      refine lv_aload_n hx hb dX4_readOneLeg_31 rfl (lv_at hl 1 rfl) ?_
      refine lv_bipush (v := 118) hx hb dX4_readOneLeg_32 (by decide) ?_
      refine z_Hi (wt := fun (u_7 : vX4) => [(h0, .inr (4, [.ref h1, .ref h2, .int u_7.2.2.1, .int u_7.2.2.2.1, .long u_7.2.2.2.2])), (h1, .inl ((cA 3), 80, .inl u_7.1)), (h2, .inr (3, [.ref h3, .ref h4, .ref h5, .int u_7.2.1.2.2.2])), (h3, .inl ((cA 0), 13, .inr (.inl u_7.2.1.1))), (h4, .inl ((cA 0), 13, .inr (.inl u_7.2.1.2.1))), (h5, .inl ((cA 0), 13, .inr (.inl u_7.2.1.2.2.1)))]) (va_runV (As := [.int (118 : Int32)]) (rest := []) ⟨hx, hb, hml, hown, hts⟩ (c_X4_readSign l D cA h0 h1 h2 h3 h4 h5 H.size u_4 (118 : Int32) hz2) (cwV 1 hts gX4_readOneLeg_X4_readSign rfl rfl rfl (by decide +kernel) ⟨Nat.le_of_ble_eq_true rfl, Nat.le_of_ble_eq_true rfl⟩) (zqV hK hP hD hS hA hE (z_c1 (a := []) (b := []) rfl) 0 rfl rfl) rfl rfl hl.1 rfl (lv_room (Nat.le_of_ble_eq_true rfl)) dX4_readOneLeg_34 ⟨Nat.le_of_ble_eq_true rfl, Nat.le_of_ble_eq_true rfl⟩) hP hD hS hA (z_c1 (a := []) (b := []) rfl) (fun u_7 => (z_c1' (a := []) (b := []) rfl)) (fun r_8 u_7 H locs eu_7 hP hD hS => ?_)
      have hP : va_P D vwCl [(h0, .inr (4, [.ref h1, .ref h2, .int u_7.2.2.1, .int u_7.2.2.2.1, .long u_7.2.2.2.2])), (h1, .inl ((cA 3), 80, .inl u_7.1)), (h2, .inr (3, [.ref h3, .ref h4, .ref h5, .int u_7.2.1.2.2.2])), (h3, .inl ((cA 0), 13, .inr (.inl u_7.2.1.1))), (h4, .inl ((cA 0), 13, .inr (.inl u_7.2.1.2.1))), (h5, .inl ((cA 0), 13, .inr (.inl u_7.2.1.2.2.1)))] H := hP
      have hD : va_D A [(h0, .inr (4, [.ref h1, .ref h2, .int u_7.2.2.1, .int u_7.2.2.2.1, .long u_7.2.2.2.2])), (h1, .inl ((cA 3), 80, .inl u_7.1)), (h2, .inr (3, [.ref h3, .ref h4, .ref h5, .int u_7.2.1.2.2.2])), (h3, .inl ((cA 0), 13, .inr (.inl u_7.2.1.1))), (h4, .inl ((cA 0), 13, .inr (.inl u_7.2.1.2.1))), (h5, .inl ((cA 0), 13, .inr (.inl u_7.2.1.2.2.1)))] := hD
      obtain ⟨er_8, eu_7⟩ := z_pr eu_7
      have hz3 : hCh u_7.1 := by rw [eu_7, rs_1]; exact hz2
      refine lv_if_eq (tgt := 51) hx hb dX4_readOneLeg_37 (by decide) (fun c_9 => ?_) (fun c_9 => ?_)
      · skip
        refine lv_iconst (v := 0) hx hb dX4_readOneLeg_51 (by decide) ?_
        have e9 : (fc_o1 v) = ((0 : Int32), u_7) := by unfold fc_o1 fc_o2; simp only [if_neg c_3, if_neg c_6, if_pos c_9, ← er_2, ← eu_1, ← er_5, ← eu_4, ← er_8, ← eu_7]
        have hP9 : va_P D vwCl (wX4 cA h0 h1 h2 h3 h4 h5 (u_7 : vX4)) H := hP
        have hD9 : va_D A (wX4 cA h0 h1 h2 h3 h4 h5 (u_7 : vX4)) := hD
        subst hQ
        exact W.zret (ty := .boolean) (v := (0 : Int32)) hx hb hr rfl (fun t ht hW => ⟨⟨(0 : Int32), u_7, rfl, e9.symm, ⟨by rw [ht]; exact hP9, va_K.moved hW.alike hK, hD9⟩⟩, hS.F ht⟩) hS.2.2 dX4_readOneLeg_52
      · skip
        refine lv_aload_n hx hb dX4_readOneLeg_40 rfl (lv_at hl 1 rfl) ?_
        refine lv_iconst (v := 0) hx hb dX4_readOneLeg_41 (by decide) ?_
        refine lv_sipush (v := 400) hx hb dX4_readOneLeg_42 (by decide) ?_
        refine z_Hi (wt := fun (u_10 : vX4) => [(h0, .inr (4, [.ref h1, .ref h2, .int u_10.2.2.1, .int u_10.2.2.2.1, .long u_10.2.2.2.2])), (h1, .inl ((cA 3), 80, .inl u_10.1)), (h2, .inr (3, [.ref h3, .ref h4, .ref h5, .int u_10.2.1.2.2.2])), (h3, .inl ((cA 0), 13, .inr (.inl u_10.2.1.1))), (h4, .inl ((cA 0), 13, .inr (.inl u_10.2.1.2.1))), (h5, .inl ((cA 0), 13, .inr (.inl u_10.2.1.2.2.1)))]) (va_runV (As := [.int (0 : Int32), .int (400 : Int32)]) (rest := []) ⟨hx, hb, hml, hown, hts⟩ (c_X4_readNumber l D cA h0 h1 h2 h3 h4 h5 H.size u_7 (0 : Int32) (400 : Int32) hz3) (cwV 2 hts gX4_readOneLeg_X4_readNumber rfl rfl rfl (by decide +kernel) ⟨Nat.le_of_ble_eq_true rfl, Nat.le_of_ble_eq_true rfl⟩) (zqV hK hP hD hS hA hE (z_c1 (a := []) (b := []) rfl) 0 rfl rfl) rfl rfl hl.1 rfl (lv_room (Nat.le_of_ble_eq_true rfl)) dX4_readOneLeg_45 ⟨Nat.le_of_ble_eq_true rfl, Nat.le_of_ble_eq_true rfl⟩) hP hD hS hA (z_c1 (a := []) (b := []) rfl) (fun u_10 => (z_c1' (a := []) (b := []) rfl)) (fun r_11 u_10 H locs eu_10 hP hD hS => ?_)
        have hP : va_P D vwCl [(h0, .inr (4, [.ref h1, .ref h2, .int u_10.2.2.1, .int u_10.2.2.2.1, .long u_10.2.2.2.2])), (h1, .inl ((cA 3), 80, .inl u_10.1)), (h2, .inr (3, [.ref h3, .ref h4, .ref h5, .int u_10.2.1.2.2.2])), (h3, .inl ((cA 0), 13, .inr (.inl u_10.2.1.1))), (h4, .inl ((cA 0), 13, .inr (.inl u_10.2.1.2.1))), (h5, .inl ((cA 0), 13, .inr (.inl u_10.2.1.2.2.1)))] H := hP
        have hD : va_D A [(h0, .inr (4, [.ref h1, .ref h2, .int u_10.2.2.1, .int u_10.2.2.2.1, .long u_10.2.2.2.2])), (h1, .inl ((cA 3), 80, .inl u_10.1)), (h2, .inr (3, [.ref h3, .ref h4, .ref h5, .int u_10.2.1.2.2.2])), (h3, .inl ((cA 0), 13, .inr (.inl u_10.2.1.1))), (h4, .inl ((cA 0), 13, .inr (.inl u_10.2.1.2.1))), (h5, .inl ((cA 0), 13, .inr (.inl u_10.2.1.2.2.1)))] := hD
        obtain ⟨er_11, eu_10⟩ := z_pr eu_10
        have hz4 : hCh u_10.1 := by rw [eu_10, rn_1]; exact hz3
        refine lv_if_ne (tgt := 53) hx hb dX4_readOneLeg_48 (by decide) (fun c_12 => ?_) (fun c_12 => ?_)
        · skip
          refine lv_aload_n hx hb dX4_readOneLeg_53 rfl (lv_at hl 1 rfl) ?_
          refine va_get (D := D) (ci := 4) (v := .long u_10.2.2.2.2) (C := RX4) (T := TX4) (N := 5) hx hb hts hinX4 hown hK hP 0 rfl rfl 4 (by decide) (hts (.fieldLink RX4 46 "GyroTrainer$Pad" "number" "J") (List.mem_of_getElem? (i := 1) rfl)) (fun _ h9 => h9) rfl dX4_readOneLeg_54 ?_
          refine lv_lstore_n (lv' := [(3, .long u_10.2.2.2.2), (1, .long (u_4.2.2.2.2 * (100 : Int64))), (0, .ref h0)]) hx hb dX4_readOneLeg_57 rfl hl (by decide) rfl (fun ls hl => ?_)
          refine lv_aload_n hx hb dX4_readOneLeg_58 rfl (lv_at hl 2 rfl) ?_
          refine lv_bipush (v := 109) hx hb dX4_readOneLeg_59 (by decide) ?_
          refine z_Hi (wt := fun (u_13 : vX4) => [(h0, .inr (4, [.ref h1, .ref h2, .int u_13.2.2.1, .int u_13.2.2.2.1, .long u_13.2.2.2.2])), (h1, .inl ((cA 3), 80, .inl u_13.1)), (h2, .inr (3, [.ref h3, .ref h4, .ref h5, .int u_13.2.1.2.2.2])), (h3, .inl ((cA 0), 13, .inr (.inl u_13.2.1.1))), (h4, .inl ((cA 0), 13, .inr (.inl u_13.2.1.2.1))), (h5, .inl ((cA 0), 13, .inr (.inl u_13.2.1.2.2.1)))]) (va_runV (As := [.int (109 : Int32)]) (rest := []) ⟨hx, hb, hml, hown, hts⟩ (c_X4_readSign l D cA h0 h1 h2 h3 h4 h5 H.size u_10 (109 : Int32) hz4) (cwV 1 hts gX4_readOneLeg_X4_readSign rfl rfl rfl (by decide +kernel) ⟨Nat.le_of_ble_eq_true rfl, Nat.le_of_ble_eq_true rfl⟩) (zqV hK hP hD hS hA hE (z_c1 (a := []) (b := []) rfl) 0 rfl rfl) rfl rfl hl.1 rfl (lv_room (Nat.le_of_ble_eq_true rfl)) dX4_readOneLeg_61 ⟨Nat.le_of_ble_eq_true rfl, Nat.le_of_ble_eq_true rfl⟩) hP hD hS hA (z_c1 (a := []) (b := []) rfl) (fun u_13 => (z_c1' (a := []) (b := []) rfl)) (fun r_14 u_13 H locs eu_13 hP hD hS => ?_)
          have hP : va_P D vwCl [(h0, .inr (4, [.ref h1, .ref h2, .int u_13.2.2.1, .int u_13.2.2.2.1, .long u_13.2.2.2.2])), (h1, .inl ((cA 3), 80, .inl u_13.1)), (h2, .inr (3, [.ref h3, .ref h4, .ref h5, .int u_13.2.1.2.2.2])), (h3, .inl ((cA 0), 13, .inr (.inl u_13.2.1.1))), (h4, .inl ((cA 0), 13, .inr (.inl u_13.2.1.2.1))), (h5, .inl ((cA 0), 13, .inr (.inl u_13.2.1.2.2.1)))] H := hP
          have hD : va_D A [(h0, .inr (4, [.ref h1, .ref h2, .int u_13.2.2.1, .int u_13.2.2.2.1, .long u_13.2.2.2.2])), (h1, .inl ((cA 3), 80, .inl u_13.1)), (h2, .inr (3, [.ref h3, .ref h4, .ref h5, .int u_13.2.1.2.2.2])), (h3, .inl ((cA 0), 13, .inr (.inl u_13.2.1.1))), (h4, .inl ((cA 0), 13, .inr (.inl u_13.2.1.2.1))), (h5, .inl ((cA 0), 13, .inr (.inl u_13.2.1.2.2.1)))] := hD
          obtain ⟨er_14, eu_13⟩ := z_pr eu_13
          have hz5 : hCh u_13.1 := by rw [eu_13, rs_1]; exact hz4
          refine lv_if_eq (tgt := 78) hx hb dX4_readOneLeg_64 (by decide) (fun c_15 => ?_) (fun c_15 => ?_)
          · skip
            refine lv_iconst (v := 0) hx hb dX4_readOneLeg_78 (by decide) ?_
            have e9 : (fc_o1 v) = ((0 : Int32), u_13) := by unfold fc_o1 fc_o2 fc_o3; simp only [if_neg c_3, if_neg c_6, if_neg c_9, if_neg c_12, if_pos c_15, ← er_2, ← eu_1, ← er_5, ← eu_4, ← er_8, ← eu_7, ← er_11, ← eu_10, ← er_14, ← eu_13]
            have hP9 : va_P D vwCl (wX4 cA h0 h1 h2 h3 h4 h5 (u_13 : vX4)) H := hP
            have hD9 : va_D A (wX4 cA h0 h1 h2 h3 h4 h5 (u_13 : vX4)) := hD
            subst hQ
            exact W.zret (ty := .boolean) (v := (0 : Int32)) hx hb hr rfl (fun t ht hW => ⟨⟨(0 : Int32), u_13, rfl, e9.symm, ⟨by rw [ht]; exact hP9, va_K.moved hW.alike hK, hD9⟩⟩, hS.F ht⟩) hS.2.2 dX4_readOneLeg_79
          · skip
            refine lv_aload_n hx hb dX4_readOneLeg_67 rfl (lv_at hl 2 rfl) ?_
            refine lv_iconst (v := 1) hx hb dX4_readOneLeg_68 (by decide) ?_
            refine lv_sipush (v := 600) hx hb dX4_readOneLeg_69 (by decide) ?_
            refine z_Hi (wt := fun (u_16 : vX4) => [(h0, .inr (4, [.ref h1, .ref h2, .int u_16.2.2.1, .int u_16.2.2.2.1, .long u_16.2.2.2.2])), (h1, .inl ((cA 3), 80, .inl u_16.1)), (h2, .inr (3, [.ref h3, .ref h4, .ref h5, .int u_16.2.1.2.2.2])), (h3, .inl ((cA 0), 13, .inr (.inl u_16.2.1.1))), (h4, .inl ((cA 0), 13, .inr (.inl u_16.2.1.2.1))), (h5, .inl ((cA 0), 13, .inr (.inl u_16.2.1.2.2.1)))]) (va_runV (As := [.int (1 : Int32), .int (600 : Int32)]) (rest := []) ⟨hx, hb, hml, hown, hts⟩ (c_X4_readNumber l D cA h0 h1 h2 h3 h4 h5 H.size u_13 (1 : Int32) (600 : Int32) hz5) (cwV 2 hts gX4_readOneLeg_X4_readNumber rfl rfl rfl (by decide +kernel) ⟨Nat.le_of_ble_eq_true rfl, Nat.le_of_ble_eq_true rfl⟩) (zqV hK hP hD hS hA hE (z_c1 (a := []) (b := []) rfl) 0 rfl rfl) rfl rfl hl.1 rfl (lv_room (Nat.le_of_ble_eq_true rfl)) dX4_readOneLeg_72 ⟨Nat.le_of_ble_eq_true rfl, Nat.le_of_ble_eq_true rfl⟩) hP hD hS hA (z_c1 (a := []) (b := []) rfl) (fun u_16 => (z_c1' (a := []) (b := []) rfl)) (fun r_17 u_16 H locs eu_16 hP hD hS => ?_)
            have hP : va_P D vwCl [(h0, .inr (4, [.ref h1, .ref h2, .int u_16.2.2.1, .int u_16.2.2.2.1, .long u_16.2.2.2.2])), (h1, .inl ((cA 3), 80, .inl u_16.1)), (h2, .inr (3, [.ref h3, .ref h4, .ref h5, .int u_16.2.1.2.2.2])), (h3, .inl ((cA 0), 13, .inr (.inl u_16.2.1.1))), (h4, .inl ((cA 0), 13, .inr (.inl u_16.2.1.2.1))), (h5, .inl ((cA 0), 13, .inr (.inl u_16.2.1.2.2.1)))] H := hP
            have hD : va_D A [(h0, .inr (4, [.ref h1, .ref h2, .int u_16.2.2.1, .int u_16.2.2.2.1, .long u_16.2.2.2.2])), (h1, .inl ((cA 3), 80, .inl u_16.1)), (h2, .inr (3, [.ref h3, .ref h4, .ref h5, .int u_16.2.1.2.2.2])), (h3, .inl ((cA 0), 13, .inr (.inl u_16.2.1.1))), (h4, .inl ((cA 0), 13, .inr (.inl u_16.2.1.2.1))), (h5, .inl ((cA 0), 13, .inr (.inl u_16.2.1.2.2.1)))] := hD
            obtain ⟨er_17, eu_16⟩ := z_pr eu_16
            have hz6 : hCh u_16.1 := by rw [eu_16, rn_1]; exact hz5
            refine lv_if_ne (tgt := 80) hx hb dX4_readOneLeg_75 (by decide) (fun c_18 => ?_) (fun c_18 => ?_)
            · skip
              refine lv_aload_n hx hb dX4_readOneLeg_80 rfl (lv_at hl 2 rfl) ?_
              refine va_get (D := D) (ci := 4) (v := .ref h2) (C := RX4) (T := TX4) (N := 5) hx hb hts hinX4 hown hK hP 0 rfl rfl 1 (by decide) (hts (.fieldLink RX4 20 "GyroTrainer$Pad" "legs" "LGyroTrainer$Legs;") (List.mem_of_getElem? (i := 3) rfl)) (fun _ h9 => h9) rfl dX4_readOneLeg_81 ?_
              refine lv_lload_n hx hb dX4_readOneLeg_84 rfl (lv_at hl 1 rfl) ?_
              refine lv_lload_n hx hb dX4_readOneLeg_85 rfl (lv_at hl 0 rfl) ?_
              refine lv_aload_n hx hb dX4_readOneLeg_86 rfl (lv_at hl 2 rfl) ?_
              refine va_get (D := D) (ci := 4) (v := .long u_16.2.2.2.2) (C := RX4) (T := TX4) (N := 5) hx hb hts hinX4 hown hK hP 0 rfl rfl 4 (by decide) (hts (.fieldLink RX4 46 "GyroTrainer$Pad" "number" "J") (List.mem_of_getElem? (i := 1) rfl)) (fun _ h9 => h9) rfl dX4_readOneLeg_87 ?_
              refine z_Hv (wt := fun (u_19 : vX3) => [(h0, .inr (4, [.ref h1, .ref h2, .int u_16.2.2.1, .int u_16.2.2.2.1, .long u_16.2.2.2.2])), (h1, .inl ((cA 3), 80, .inl u_16.1)), (h2, .inr (3, [.ref h3, .ref h4, .ref h5, .int u_19.2.2.2])), (h3, .inl ((cA 0), 13, .inr (.inl u_19.1))), (h4, .inl ((cA 0), 13, .inr (.inl u_19.2.1))), (h5, .inl ((cA 0), 13, .inr (.inl u_19.2.2.1)))]) (va_runV (As := [.long (u_4.2.2.2.2 * (100 : Int64)), .long u_10.2.2.2.2, .long u_16.2.2.2.2]) (rest := []) ⟨hx, hb, hml, hown, hts⟩ (c_X3_add l D cA h2 h3 h4 h5 H.size 13 u_16.2.1 (u_4.2.2.2.2 * (100 : Int64)) u_10.2.2.2.2 u_16.2.2.2.2 (by decide)) (cwV 3 hts gX4_readOneLeg_X3_add rfl rfl rfl (by decide +kernel) ⟨Nat.le_of_ble_eq_true rfl, Nat.le_of_ble_eq_true rfl⟩) (zqV hK hP hD hS hA hE (z_c1 (a := [(h0, .inr (4, [.ref h1, .ref h2, .int u_16.2.2.1, .int u_16.2.2.2.1, .long u_16.2.2.2.2])), (h1, .inl ((cA 3), 80, .inl u_16.1))]) (b := []) rfl) 0 rfl rfl) rfl rfl hl.1 rfl (lv_room (Nat.le_of_ble_eq_true rfl)) dX4_readOneLeg_90 ⟨Nat.le_of_ble_eq_true rfl, Nat.le_of_ble_eq_true rfl⟩) hP hD hS hA (z_c1 (a := [(h0, .inr (4, [.ref h1, .ref h2, .int u_16.2.2.1, .int u_16.2.2.2.1, .long u_16.2.2.2.2])), (h1, .inl ((cA 3), 80, .inl u_16.1))]) (b := []) rfl) (fun u_19 => (z_c1' (a := [(h0, .inr (4, [.ref h1, .ref h2, .int u_16.2.2.1, .int u_16.2.2.2.1, .long u_16.2.2.2.2])), (h1, .inl ((cA 3), 80, .inl u_16.1))]) (b := []) rfl)) (fun u_19 H locs eu_19 hP hD hS => ?_)
              have hP : va_P D vwCl [(h0, .inr (4, [.ref h1, .ref h2, .int u_16.2.2.1, .int u_16.2.2.2.1, .long u_16.2.2.2.2])), (h1, .inl ((cA 3), 80, .inl u_16.1)), (h2, .inr (3, [.ref h3, .ref h4, .ref h5, .int u_19.2.2.2])), (h3, .inl ((cA 0), 13, .inr (.inl u_19.1))), (h4, .inl ((cA 0), 13, .inr (.inl u_19.2.1))), (h5, .inl ((cA 0), 13, .inr (.inl u_19.2.2.1)))] H := hP
              have hD : va_D A [(h0, .inr (4, [.ref h1, .ref h2, .int u_16.2.2.1, .int u_16.2.2.2.1, .long u_16.2.2.2.2])), (h1, .inl ((cA 3), 80, .inl u_16.1)), (h2, .inr (3, [.ref h3, .ref h4, .ref h5, .int u_19.2.2.2])), (h3, .inl ((cA 0), 13, .inr (.inl u_19.1))), (h4, .inl ((cA 0), 13, .inr (.inl u_19.2.1))), (h5, .inl ((cA 0), 13, .inr (.inl u_19.2.2.1)))] := hD
              refine lv_iconst (v := 1) hx hb dX4_readOneLeg_93 (by decide) ?_
              have e9 : (fc_o1 v) = ((1 : Int32), (u_16.1, u_19, u_16.2.2)) := by unfold fc_o1 fc_o2 fc_o3; simp only [if_neg c_3, if_neg c_6, if_neg c_9, if_neg c_12, if_neg c_15, if_neg c_18, ← er_2, ← eu_1, ← er_5, ← eu_4, ← er_8, ← eu_7, ← er_11, ← eu_10, ← er_14, ← eu_13, ← er_17, ← eu_16]; unfold fc_al; rw [← eu_19]
              have hP9 : va_P D vwCl (wX4 cA h0 h1 h2 h3 h4 h5 ((u_16.1, u_19, u_16.2.2) : vX4)) H := hP
              have hD9 : va_D A (wX4 cA h0 h1 h2 h3 h4 h5 ((u_16.1, u_19, u_16.2.2) : vX4)) := hD
              subst hQ
              exact W.zret (ty := .boolean) (v := (1 : Int32)) hx hb hr rfl (fun t ht hW => ⟨⟨(1 : Int32), (u_16.1, u_19, u_16.2.2), rfl, e9.symm, ⟨by rw [ht]; exact hP9, va_K.moved hW.alike hK, hD9⟩⟩, hS.F ht⟩) hS.2.2 dX4_readOneLeg_94
            · skip
              refine lv_iconst (v := 0) hx hb dX4_readOneLeg_78 (by decide) ?_
              have e9 : (fc_o1 v) = ((0 : Int32), u_16) := by unfold fc_o1 fc_o2 fc_o3; simp only [if_neg c_3, if_neg c_6, if_neg c_9, if_neg c_12, if_neg c_15, if_pos c_18, ← er_2, ← eu_1, ← er_5, ← eu_4, ← er_8, ← eu_7, ← er_11, ← eu_10, ← er_14, ← eu_13, ← er_17, ← eu_16]
              have hP9 : va_P D vwCl (wX4 cA h0 h1 h2 h3 h4 h5 (u_16 : vX4)) H := hP
              have hD9 : va_D A (wX4 cA h0 h1 h2 h3 h4 h5 (u_16 : vX4)) := hD
              subst hQ
              exact W.zret (ty := .boolean) (v := (0 : Int32)) hx hb hr rfl (fun t ht hW => ⟨⟨(0 : Int32), u_16, rfl, e9.symm, ⟨by rw [ht]; exact hP9, va_K.moved hW.alike hK, hD9⟩⟩, hS.F ht⟩) hS.2.2 dX4_readOneLeg_79
        · skip
          refine lv_iconst (v := 0) hx hb dX4_readOneLeg_51 (by decide) ?_
          have e9 : (fc_o1 v) = ((0 : Int32), u_10) := by unfold fc_o1 fc_o2; simp only [if_neg c_3, if_neg c_6, if_neg c_9, if_pos c_12, ← er_2, ← eu_1, ← er_5, ← eu_4, ← er_8, ← eu_7, ← er_11, ← eu_10]
          have hP9 : va_P D vwCl (wX4 cA h0 h1 h2 h3 h4 h5 (u_10 : vX4)) H := hP
          have hD9 : va_D A (wX4 cA h0 h1 h2 h3 h4 h5 (u_10 : vX4)) := hD
          subst hQ
          exact W.zret (ty := .boolean) (v := (0 : Int32)) hx hb hr rfl (fun t ht hW => ⟨⟨(0 : Int32), u_10, rfl, e9.symm, ⟨by rw [ht]; exact hP9, va_K.moved hW.alike hK, hD9⟩⟩, hS.F ht⟩) hS.2.2 dX4_readOneLeg_52
    · skip
      refine lv_iconst (v := 0) hx hb dX4_readOneLeg_20 (by decide) ?_
      have e9 : (fc_o1 v) = ((0 : Int32), u_4) := by unfold fc_o1; simp only [if_neg c_3, if_pos c_6, ← er_2, ← eu_1, ← er_5, ← eu_4]
      have hP9 : va_P D vwCl (wX4 cA h0 h1 h2 h3 h4 h5 (u_4 : vX4)) H := hP
      have hD9 : va_D A (wX4 cA h0 h1 h2 h3 h4 h5 (u_4 : vX4)) := hD
      subst hQ
      exact W.zret (ty := .boolean) (v := (0 : Int32)) hx hb hr rfl (fun t ht hW => ⟨⟨(0 : Int32), u_4, rfl, e9.symm, ⟨by rw [ht]; exact hP9, va_K.moved hW.alike hK, hD9⟩⟩, hS.F ht⟩) hS.2.2 dX4_readOneLeg_21
set_option maxHeartbeats 4000000 in
set_option maxRecDepth 100000 in
theorem c_X4_readLegs (l : Launch) (D : va_G) (cA : Nat → ClassId) (h0 h1 h2 h3 h4 h5 : Nat) (sz : Nat) (v : vX4) (hch : hCh v.1) : Met l yX4_readLegs wsX4_readLegs ({ frames := 4, cells := 0, slots := 0, locals := 90 }) (va_Pc [.ref h0] (zPre D (zty cA) (wX4 cA h0 h1 h2 h3 h4 h5 v) sz)) (va_Qi (fun (x : Int32) (u : vX4) => (x, u) = (fc_readLegs v)) (fun u => zPost D (zty cA) (va_A (wX4 cA h0 h1 h2 h3 h4 h5 v) sz) (wX4 cA h0 h1 h2 h3 h4 h5 u)) (va_A (wX4 cA h0 h1 h2 h3 h4 h5 v) sz)) 0 0 (va_A (wX4 cA h0 h1 h2 h3 h4 h5 v) sz) := by
  refine Met.ofW (cc := cX4_readLegs) (maxL := 2) (ret := (some .int)) (by decide) rfl ?_
  intro p e s m args below meth c s₁ B hml hv
  obtain ⟨rfl, hsz, hP, hK, hD0, hE⟩ := hv
  have hx := B.exec
  have hb := B.bytes
  have hr := B.returns
  have hts := atoms_spec (ws := wsX4_readLegs) B.pre
  have hown : s.vm.findClass RX4 = some m.cls := findClass_of_methodNamed B.named
  have hlocks := B.notSynchronized
  have hinX4 : ∀ w ∈ u_ws RX4 TX4 5, w ∈ wsX4_readLegs := fun w h => List.mem_cons_of_mem _ (List.mem_append_left _ (List.mem_append_right _ h))
  have hinX3 : ∀ w ∈ u_ws RX3 TX3 4, w ∈ wsX4_readLegs := fun w h => List.mem_cons_of_mem _ (List.mem_append_right _ h)
  subst hsz
  have hD := hD0.self (sz := s.heap.size)
  generalize hAe : va_A (wX4 cA h0 h1 h2 h3 h4 h5 v) s.heap.size = A at hD hE ⊢
  have hA : ∀ q : Nat, s.heap.size ≤ q → A q := fun q h => by rw [← hAe]; exact Or.inr h
  have hS : va_S A s.heap s.heap [] := va_S.rf
  have hN : zN s := hE.1
  have hP : va_P D vwCl [(h0, .inr (4, [.ref h1, .ref h2, .int v.2.2.1, .int v.2.2.2.1, .long v.2.2.2.2])), (h1, .inl ((cA 3), 80, .inl v.1)), (h2, .inr (3, [.ref h3, .ref h4, .ref h5, .int v.2.1.2.2.2])), (h3, .inl ((cA 0), 13, .inr (.inl v.2.1.1))), (h4, .inl ((cA 0), 13, .inr (.inl v.2.1.2.1))), (h5, .inl ((cA 0), 13, .inr (.inl v.2.1.2.2.1)))] s.heap := hP
  have hD : va_D A [(h0, .inr (4, [.ref h1, .ref h2, .int v.2.2.1, .int v.2.2.2.1, .long v.2.2.2.2])), (h1, .inl ((cA 3), 80, .inl v.1)), (h2, .inr (3, [.ref h3, .ref h4, .ref h5, .int v.2.1.2.2.2])), (h3, .inl ((cA 0), 13, .inr (.inl v.2.1.1))), (h4, .inl ((cA 0), 13, .inr (.inl v.2.1.2.1))), (h5, .inl ((cA 0), 13, .inr (.inl v.2.1.2.2.1)))] := hD
  have hl := lv_entry ([.ref h0]) (n := 2) (Nat.le_of_ble_eq_true rfl)
  rw [lg_entry_eq]
  generalize (lg_sl ([.ref h0]) ++ List.replicate (2 - (lg_sl ([.ref h0])).length) Slot.unset).toArray = ls at hl ⊢
  have hl : lv_has ls 2 [(0, .ref h0)] := hl
  refine z_genQ (fun Q hQ => ?_)
  refine lv_aload_n hx hb dX4_readLegs_0 rfl (lv_at hl 0 rfl) ?_
  refine lv_iconst (v := 0) hx hb dX4_readLegs_1 (by decide) ?_
  refine va_put (D := D) (ci := 4) (v := .int (0 : Int32)) (ty := .int) (C := RX4) (T := TX4) (N := 5) hx hb hts hinX4 tyX4 tyX4_ok nmX4 hown hK hP hD hS 0 rfl rfl 3 (by decide) (hts (.fieldLink RX4 28 "GyroTrainer$Pad" "index" "I") (List.mem_of_getElem? (i := 1) rfl)) (fun _ h9 => h9) rfl (by decide +kernel) rfl rfl (Nat.le_of_ble_eq_true rfl) dX4_readLegs_2 (fun H locs hP hD hS => ?_)
  have hP : va_P D vwCl [(h0, .inr (4, [.ref h1, .ref h2, .int v.2.2.1, .int (0 : Int32), .long v.2.2.2.2])), (h1, .inl ((cA 3), 80, .inl v.1)), (h2, .inr (3, [.ref h3, .ref h4, .ref h5, .int v.2.1.2.2.2])), (h3, .inl ((cA 0), 13, .inr (.inl v.2.1.1))), (h4, .inl ((cA 0), 13, .inr (.inl v.2.1.2.1))), (h5, .inl ((cA 0), 13, .inr (.inl v.2.1.2.2.1)))] H := hP
  have hD : va_D A [(h0, .inr (4, [.ref h1, .ref h2, .int v.2.2.1, .int (0 : Int32), .long v.2.2.2.2])), (h1, .inl ((cA 3), 80, .inl v.1)), (h2, .inr (3, [.ref h3, .ref h4, .ref h5, .int v.2.1.2.2.2])), (h3, .inl ((cA 0), 13, .inr (.inl v.2.1.1))), (h4, .inl ((cA 0), 13, .inr (.inl v.2.1.2.1))), (h5, .inl ((cA 0), 13, .inr (.inl v.2.1.2.2.1)))] := hD
  refine lv_aload_n hx hb dX4_readLegs_5 rfl (lv_at hl 0 rfl) ?_
  refine va_get (D := D) (ci := 4) (v := .ref h2) (C := RX4) (T := TX4) (N := 5) hx hb hts hinX4 hown hK hP 0 rfl rfl 1 (by decide) (hts (.fieldLink RX4 20 "GyroTrainer$Pad" "legs" "LGyroTrainer$Legs;") (List.mem_of_getElem? (i := 2) rfl)) (fun _ h9 => h9) rfl dX4_readLegs_6 ?_
  refine z_Hv (wt := fun (u_1 : vX3) => [(h0, .inr (4, [.ref h1, .ref h2, .int v.2.2.1, .int (0 : Int32), .long v.2.2.2.2])), (h1, .inl ((cA 3), 80, .inl v.1)), (h2, .inr (3, [.ref h3, .ref h4, .ref h5, .int u_1.2.2.2])), (h3, .inl ((cA 0), 13, .inr (.inl u_1.1))), (h4, .inl ((cA 0), 13, .inr (.inl u_1.2.1))), (h5, .inl ((cA 0), 13, .inr (.inl u_1.2.2.1)))]) (va_runV (As := []) (rest := []) ⟨hx, hb, hml, hown, hts⟩ (c_X3_clear l D cA h2 h3 h4 h5 H.size 13 v.2.1) (cwV 0 hts gX4_readLegs_X3_clear rfl rfl rfl (by decide +kernel) ⟨Nat.le_of_ble_eq_true rfl, Nat.le_of_ble_eq_true rfl⟩) (zqV hK hP hD hS hA hE (z_c1 (a := [(h0, .inr (4, [.ref h1, .ref h2, .int v.2.2.1, .int (0 : Int32), .long v.2.2.2.2])), (h1, .inl ((cA 3), 80, .inl v.1))]) (b := []) rfl) 0 rfl rfl) rfl rfl hl.1 rfl (lv_room (Nat.le_of_ble_eq_true rfl)) dX4_readLegs_9 ⟨Nat.le_of_ble_eq_true rfl, Nat.le_of_ble_eq_true rfl⟩) hP hD hS hA (z_c1 (a := [(h0, .inr (4, [.ref h1, .ref h2, .int v.2.2.1, .int (0 : Int32), .long v.2.2.2.2])), (h1, .inl ((cA 3), 80, .inl v.1))]) (b := []) rfl) (fun u_1 => (z_c1' (a := [(h0, .inr (4, [.ref h1, .ref h2, .int v.2.2.1, .int (0 : Int32), .long v.2.2.2.2])), (h1, .inl ((cA 3), 80, .inl v.1))]) (b := []) rfl)) (fun u_1 H locs eu_1 hP hD hS => ?_)
  have hP : va_P D vwCl [(h0, .inr (4, [.ref h1, .ref h2, .int v.2.2.1, .int (0 : Int32), .long v.2.2.2.2])), (h1, .inl ((cA 3), 80, .inl v.1)), (h2, .inr (3, [.ref h3, .ref h4, .ref h5, .int u_1.2.2.2])), (h3, .inl ((cA 0), 13, .inr (.inl u_1.1))), (h4, .inl ((cA 0), 13, .inr (.inl u_1.2.1))), (h5, .inl ((cA 0), 13, .inr (.inl u_1.2.2.1)))] H := hP
  have hD : va_D A [(h0, .inr (4, [.ref h1, .ref h2, .int v.2.2.1, .int (0 : Int32), .long v.2.2.2.2])), (h1, .inl ((cA 3), 80, .inl v.1)), (h2, .inr (3, [.ref h3, .ref h4, .ref h5, .int u_1.2.2.2])), (h3, .inl ((cA 0), 13, .inr (.inl u_1.1))), (h4, .inl ((cA 0), 13, .inr (.inl u_1.2.1))), (h5, .inl ((cA 0), 13, .inr (.inl u_1.2.2.1)))] := hD
  refine lv_iconst (v := 0) hx hb dX4_readLegs_12 (by decide) ?_
  refine lv_istore_n (lv' := [(1, .int (0 : Int32)), (0, .ref h0)]) hx hb dX4_readLegs_13 rfl hl (by decide) rfl (fun ls hl => ?_)
  have L14 : ∀ (zn : Nat) (k : Nat) (w : vX4), 81 - k < zn → (k ≤ 81) → (hCh w.1) → (fc_rl 81 (fc_r0 v) = fc_rl (81 - k) w) → ∀ (H : Heap) (locs : List Loc), va_P D vwCl [(h0, .inr (4, [.ref h1, .ref h2, .int w.2.2.1, .int w.2.2.2.1, .long w.2.2.2.2])), (h1, .inl ((cA 3), 80, .inl w.1)), (h2, .inr (3, [.ref h3, .ref h4, .ref h5, .int w.2.1.2.2.2])), (h3, .inl ((cA 0), 13, .inr (.inl w.2.1.1))), (h4, .inl ((cA 0), 13, .inr (.inl w.2.1.2.1))), (h5, .inl ((cA 0), 13, .inr (.inl w.2.1.2.2.1)))] H → va_D A [(h0, .inr (4, [.ref h1, .ref h2, .int w.2.2.1, .int w.2.2.2.1, .long w.2.2.2.2])), (h1, .inl ((cA 3), 80, .inl w.1)), (h2, .inr (3, [.ref h3, .ref h4, .ref h5, .int w.2.1.2.2.2])), (h3, .inl ((cA 0), 13, .inr (.inl w.2.1.1))), (h4, .inl ((cA 0), 13, .inr (.inl w.2.1.2.1))), (h5, .inl ((cA 0), 13, .inr (.inl w.2.1.2.2.1)))] → va_S A s.heap H locs → ∀ (ls : Array Slot), lv_has ls 2 [(1, .int (nI k)), (0, .ref h0)] → W p l e (headSpec wsX4_readLegs ({ frames := 4, cells := 0, slots := 0, locals := 90 })).room s m (([.ref h0] : List Value).toArray) below meth c H locs 0 0 Q (F0 m 14 ls []) := by
    intro zn
    induction zn with
    | zero =>
      intro k w hm
      exact absurd hm (Nat.not_lt_zero _)
    | succ zn ih =>
      intro k w hm hk hcw hL H locs hP hD hS ls hl
      refine lv_iload_n hx hb dX4_readLegs_14 rfl (lv_at hl 0 rfl) ?_
      refine lv_bipush (v := 80) hx hb dX4_readLegs_15 (by decide) ?_
      refine lv_icmp_gt (tgt := 66) hx hb dX4_readLegs_17 (by decide) (fun c_3 => ?_) (fun c_3 => ?_)
      · skip
        have ek8 : 80 < k := (nI_ltI (a := 80) (b := k) (by decide) (by omega)).mp c_3
        refine lv_aload_n hx hb dX4_readLegs_66 rfl (lv_at hl 1 rfl) ?_
        refine va_get (D := D) (ci := 4) (v := .int w.2.2.2.1) (C := RX4) (T := TX4) (N := 5) hx hb hts hinX4 hown hK hP 0 rfl rfl 3 (by decide) (hts (.fieldLink RX4 28 "GyroTrainer$Pad" "index" "I") (List.mem_of_getElem? (i := 1) rfl)) (fun _ h9 => h9) rfl dX4_readLegs_67 ?_
        have e9 : (fc_readLegs v) = (w.2.2.2.1, w) := by unfold fc_readLegs; rw [hL, show 81 - k = 0 by omega] <;> rfl
        have hP9 : va_P D vwCl (wX4 cA h0 h1 h2 h3 h4 h5 (w : vX4)) H := hP
        have hD9 : va_D A (wX4 cA h0 h1 h2 h3 h4 h5 (w : vX4)) := hD
        subst hQ
        exact W.iret (v := w.2.2.2.1) hx hb hr (fun t ht hW => ⟨⟨w.2.2.2.1, w, rfl, e9.symm, ⟨by rw [ht]; exact hP9, va_K.moved hW.alike hK, hD9⟩⟩, hS.F ht⟩) hS.2.2 dX4_readLegs_70
      · skip
        have hkl : k ≤ 80 := Nat.le_of_not_lt (fun h => c_3 (nI_lt (a := 80) (b := k) h (by omega)))
        refine lv_aload_n hx hb dX4_readLegs_20 rfl (lv_at hl 1 rfl) ?_
        refine z_Hi (wt := fun (u_4 : vX4) => [(h0, .inr (4, [.ref h1, .ref h2, .int u_4.2.2.1, .int u_4.2.2.2.1, .long u_4.2.2.2.2])), (h1, .inl ((cA 3), 80, .inl u_4.1)), (h2, .inr (3, [.ref h3, .ref h4, .ref h5, .int u_4.2.1.2.2.2])), (h3, .inl ((cA 0), 13, .inr (.inl u_4.2.1.1))), (h4, .inl ((cA 0), 13, .inr (.inl u_4.2.1.2.1))), (h5, .inl ((cA 0), 13, .inr (.inl u_4.2.1.2.2.1)))]) (va_runV (As := []) (rest := []) ⟨hx, hb, hml, hown, hts⟩ (c_X4_readOneLeg l D cA h0 h1 h2 h3 h4 h5 H.size w hcw) (cwV 0 hts gX4_readLegs_X4_readOneLeg rfl rfl rfl (by decide +kernel) ⟨Nat.le_of_ble_eq_true rfl, Nat.le_of_ble_eq_true rfl⟩) (zqV hK hP hD hS hA hE (z_c1 (a := []) (b := []) rfl) 0 rfl rfl) rfl rfl hl.1 rfl (lv_room (Nat.le_of_ble_eq_true rfl)) dX4_readLegs_21 ⟨Nat.le_of_ble_eq_true rfl, Nat.le_of_ble_eq_true rfl⟩) hP hD hS hA (z_c1 (a := []) (b := []) rfl) (fun u_4 => (z_c1' (a := []) (b := []) rfl)) (fun r_5 u_4 H locs eu_4 hP hD hS => ?_)
        have hP : va_P D vwCl [(h0, .inr (4, [.ref h1, .ref h2, .int u_4.2.2.1, .int u_4.2.2.2.1, .long u_4.2.2.2.2])), (h1, .inl ((cA 3), 80, .inl u_4.1)), (h2, .inr (3, [.ref h3, .ref h4, .ref h5, .int u_4.2.1.2.2.2])), (h3, .inl ((cA 0), 13, .inr (.inl u_4.2.1.1))), (h4, .inl ((cA 0), 13, .inr (.inl u_4.2.1.2.1))), (h5, .inl ((cA 0), 13, .inr (.inl u_4.2.1.2.2.1)))] H := hP
        have hD : va_D A [(h0, .inr (4, [.ref h1, .ref h2, .int u_4.2.2.1, .int u_4.2.2.2.1, .long u_4.2.2.2.2])), (h1, .inl ((cA 3), 80, .inl u_4.1)), (h2, .inr (3, [.ref h3, .ref h4, .ref h5, .int u_4.2.1.2.2.2])), (h3, .inl ((cA 0), 13, .inr (.inl u_4.2.1.1))), (h4, .inl ((cA 0), 13, .inr (.inl u_4.2.1.2.1))), (h5, .inl ((cA 0), 13, .inr (.inl u_4.2.1.2.2.1)))] := hD
        obtain ⟨er_5, eu_4⟩ := z_pr eu_4
        have hc1 : hCh u_4.1 := by rw [eu_4, o1_1]; exact hcw
        refine lv_if_ne (tgt := 32) hx hb dX4_readLegs_24 (by decide) (fun c_6 => ?_) (fun c_6 => ?_)
        · skip
          refine lv_aload_n hx hb dX4_readLegs_32 rfl (lv_at hl 1 rfl) ?_
          refine va_get (D := D) (ci := 4) (v := .int u_4.2.2.2.1) (C := RX4) (T := TX4) (N := 5) hx hb hts hinX4 hown hK hP 0 rfl rfl 3 (by decide) (hts (.fieldLink RX4 28 "GyroTrainer$Pad" "index" "I") (List.mem_of_getElem? (i := 1) rfl)) (fun _ h9 => h9) rfl dX4_readLegs_33 ?_
          refine lv_aload_n hx hb dX4_readLegs_36 rfl (lv_at hl 1 rfl) ?_
          refine va_get (D := D) (ci := 4) (v := .int u_4.2.2.1) (C := RX4) (T := TX4) (N := 5) hx hb hts hinX4 hown hK hP 0 rfl rfl 2 (by decide) (hts (.fieldLink RX4 24 "GyroTrainer$Pad" "length" "I") (List.mem_of_getElem? (i := 3) rfl)) (fun _ h9 => h9) rfl dX4_readLegs_37 ?_
          refine lv_icmp_lt (tgt := 46) hx hb dX4_readLegs_40 (by decide) (fun c_7 => ?_) (fun c_7 => ?_)
          · skip
            refine lv_aload_n hx hb dX4_readLegs_46 rfl (lv_at hl 1 rfl) ?_
            refine lv_bipush (v := 59) hx hb dX4_readLegs_47 (by decide) ?_
            refine z_Hi (wt := fun (u_8 : vX4) => [(h0, .inr (4, [.ref h1, .ref h2, .int u_8.2.2.1, .int u_8.2.2.2.1, .long u_8.2.2.2.2])), (h1, .inl ((cA 3), 80, .inl u_8.1)), (h2, .inr (3, [.ref h3, .ref h4, .ref h5, .int u_8.2.1.2.2.2])), (h3, .inl ((cA 0), 13, .inr (.inl u_8.2.1.1))), (h4, .inl ((cA 0), 13, .inr (.inl u_8.2.1.2.1))), (h5, .inl ((cA 0), 13, .inr (.inl u_8.2.1.2.2.1)))]) (va_runV (As := [.int (59 : Int32)]) (rest := []) ⟨hx, hb, hml, hown, hts⟩ (c_X4_readSign l D cA h0 h1 h2 h3 h4 h5 H.size u_4 (59 : Int32) hc1) (cwV 1 hts gX4_readLegs_X4_readSign rfl rfl rfl (by decide +kernel) ⟨Nat.le_of_ble_eq_true rfl, Nat.le_of_ble_eq_true rfl⟩) (zqV hK hP hD hS hA hE (z_c1 (a := []) (b := []) rfl) 0 rfl rfl) rfl rfl hl.1 rfl (lv_room (Nat.le_of_ble_eq_true rfl)) dX4_readLegs_49 ⟨Nat.le_of_ble_eq_true rfl, Nat.le_of_ble_eq_true rfl⟩) hP hD hS hA (z_c1 (a := []) (b := []) rfl) (fun u_8 => (z_c1' (a := []) (b := []) rfl)) (fun r_9 u_8 H locs eu_8 hP hD hS => ?_)
            have hP : va_P D vwCl [(h0, .inr (4, [.ref h1, .ref h2, .int u_8.2.2.1, .int u_8.2.2.2.1, .long u_8.2.2.2.2])), (h1, .inl ((cA 3), 80, .inl u_8.1)), (h2, .inr (3, [.ref h3, .ref h4, .ref h5, .int u_8.2.1.2.2.2])), (h3, .inl ((cA 0), 13, .inr (.inl u_8.2.1.1))), (h4, .inl ((cA 0), 13, .inr (.inl u_8.2.1.2.1))), (h5, .inl ((cA 0), 13, .inr (.inl u_8.2.1.2.2.1)))] H := hP
            have hD : va_D A [(h0, .inr (4, [.ref h1, .ref h2, .int u_8.2.2.1, .int u_8.2.2.2.1, .long u_8.2.2.2.2])), (h1, .inl ((cA 3), 80, .inl u_8.1)), (h2, .inr (3, [.ref h3, .ref h4, .ref h5, .int u_8.2.1.2.2.2])), (h3, .inl ((cA 0), 13, .inr (.inl u_8.2.1.1))), (h4, .inl ((cA 0), 13, .inr (.inl u_8.2.1.2.1))), (h5, .inl ((cA 0), 13, .inr (.inl u_8.2.1.2.2.1)))] := hD
            obtain ⟨er_9, eu_8⟩ := z_pr eu_8
            refine lv_if_ne (tgt := 60) hx hb dX4_readLegs_52 (by decide) (fun c_10 => ?_) (fun c_10 => ?_)
            · skip
              refine lv_iinc (v := (nI (k + 1))) (lv' := [(1, .int (nI (k + 1))), (0, .ref h0)]) hx hb dX4_readLegs_60 hl (k := 0) rfl (nI_1 k) (by decide) rfl (fun ls hl => ?_)
              refine lv_goto (tgt := 14) hx hb dX4_readLegs_63 (by decide) ?_
              exact ih (k + 1) (u_8) (by omega) (by omega) (by rw [eu_8, rs_1, eu_4, o1_1]; exact hcw) (by rw [hL, show 81 - k = (80 - k) + 1 by omega, show 81 - (k + 1) = 80 - k by omega]; (conv => lhs; unfold fc_rl); simp only [if_neg c_6, if_pos c_7, if_neg c_10, ← er_5, ← eu_4, ← er_9, ← eu_8]) _ _ hP hD hS ls (lv_sub hl [0, 1] rfl)
            · skip
              refine lv_aload_n hx hb dX4_readLegs_55 rfl (lv_at hl 1 rfl) ?_
              refine va_get (D := D) (ci := 4) (v := .int u_8.2.2.2.1) (C := RX4) (T := TX4) (N := 5) hx hb hts hinX4 hown hK hP 0 rfl rfl 3 (by decide) (hts (.fieldLink RX4 28 "GyroTrainer$Pad" "index" "I") (List.mem_of_getElem? (i := 1) rfl)) (fun _ h9 => h9) rfl dX4_readLegs_56 ?_
              have e9 : (fc_readLegs v) = (u_8.2.2.2.1, u_8) := by unfold fc_readLegs; rw [hL, show 81 - k = (80 - k) + 1 by omega]; unfold fc_rl; simp only [if_neg c_6, if_pos c_7, if_pos c_10, ← er_5, ← eu_4, ← er_9, ← eu_8]
              have hP9 : va_P D vwCl (wX4 cA h0 h1 h2 h3 h4 h5 (u_8 : vX4)) H := hP
              have hD9 : va_D A (wX4 cA h0 h1 h2 h3 h4 h5 (u_8 : vX4)) := hD
              subst hQ
              exact W.iret (v := u_8.2.2.2.1) hx hb hr (fun t ht hW => ⟨⟨u_8.2.2.2.1, u_8, rfl, e9.symm, ⟨by rw [ht]; exact hP9, va_K.moved hW.alike hK, hD9⟩⟩, hS.F ht⟩) hS.2.2 dX4_readLegs_59
          · skip
            refine lv_bipush (v := -6) hx hb dX4_readLegs_43 (by decide) ?_
            have e9 : (fc_readLegs v) = ((-6 : Int32), u_4) := by unfold fc_readLegs; rw [hL, show 81 - k = (80 - k) + 1 by omega]; unfold fc_rl; simp only [if_neg c_6, if_neg c_7, ← er_5, ← eu_4]
            have hP9 : va_P D vwCl (wX4 cA h0 h1 h2 h3 h4 h5 (u_4 : vX4)) H := hP
            have hD9 : va_D A (wX4 cA h0 h1 h2 h3 h4 h5 (u_4 : vX4)) := hD
            subst hQ
            exact W.iret (v := (-6 : Int32)) hx hb hr (fun t ht hW => ⟨⟨(-6 : Int32), u_4, rfl, e9.symm, ⟨by rw [ht]; exact hP9, va_K.moved hW.alike hK, hD9⟩⟩, hS.F ht⟩) hS.2.2 dX4_readLegs_45
        · skip
          refine lv_aload_n hx hb dX4_readLegs_27 rfl (lv_at hl 1 rfl) ?_
          refine va_get (D := D) (ci := 4) (v := .int u_4.2.2.2.1) (C := RX4) (T := TX4) (N := 5) hx hb hts hinX4 hown hK hP 0 rfl rfl 3 (by decide) (hts (.fieldLink RX4 28 "GyroTrainer$Pad" "index" "I") (List.mem_of_getElem? (i := 1) rfl)) (fun _ h9 => h9) rfl dX4_readLegs_28 ?_
          have e9 : (fc_readLegs v) = (u_4.2.2.2.1, u_4) := by unfold fc_readLegs; rw [hL, show 81 - k = (80 - k) + 1 by omega]; unfold fc_rl; simp only [if_pos c_6, ← er_5, ← eu_4]
          have hP9 : va_P D vwCl (wX4 cA h0 h1 h2 h3 h4 h5 (u_4 : vX4)) H := hP
          have hD9 : va_D A (wX4 cA h0 h1 h2 h3 h4 h5 (u_4 : vX4)) := hD
          subst hQ
          exact W.iret (v := u_4.2.2.2.1) hx hb hr (fun t ht hW => ⟨⟨u_4.2.2.2.1, u_4, rfl, e9.symm, ⟨by rw [ht]; exact hP9, va_K.moved hW.alike hK, hD9⟩⟩, hS.F ht⟩) hS.2.2 dX4_readLegs_31
  exact L14 (81 + 1) (0) ((fc_r0 v)) (by omega) (Nat.zero_le _) hch rfl _ _ (by rw [eu_1] at hP; exact hP) (by rw [eu_1] at hD; exact hD) hS ls (lv_sub hl [0, 1] rfl)
