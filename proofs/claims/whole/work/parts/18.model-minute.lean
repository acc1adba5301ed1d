def fm_mm1 (a : Nat → Int32) : Nat → Int32 := upd (upd a 1 (fm_course a)) 2 (fm_speed (upd a 1 (fm_course a)))
def fm_dir (x b : Int32) : Int32 := if x ≤ b then -1 else 1
def fm_mm2 (t : Nat) (w : vX10) (b : Int32) : vX10 :=
  if w.1 4 = b then w
  else if w.1 12 = -fm_dir (w.1 4) b then (upd (fm_addTurn t w b).1 12 (fm_dir (w.1 4) b), (fm_addTurn t w b).2)
  else (upd w.1 12 (fm_dir (w.1 4) b), w.2)
def fm_ma (a : Nat → Int32) : Nat → Int32 := upd a 0 (fm_lim ((a 0).toInt64 + (a 2).toInt64 * 28 * (fm_cosine (a 1)).toInt64 / 1000000) 70000000)
def fm_mb (a : Nat → Int32) : Nat → Int32 := upd a 10 (a 10 + 1)
def fm_mc (lv : Nat) (a : Nat → Int32) : Nat → Int32 := upd a (29 + lv) (a (29 + lv) + 1)
def fm_md (a : Nat → Int32) : Nat → Int32 := upd a 11 (a 11 + a 2)
def fm_ms (a : Nat → Int32) (s : Nat → Int64) : Nat → Int64 := vp_updL s 0 (s 0 + (a 4).toInt64)
def fm_mm3 (lv : Nat) (w : vX10) : vX10 := (fm_md (fm_mc lv (fm_mb (fm_ma w.1))), fm_ms w.1 w.2.1, w.2.2)
def fm_me (a : Nat → Int32) : Nat → Int32 := upd a 36 (a 36 - 1)
def fm_mm4 (k : Nat) (w : vX10) : vX10 := if w.1 3 ≤ 0 then w else if fm_me w.1 36 = 0 then fm_endLeg (k - 1) (fm_me w.1, w.2) else (fm_me w.1, w.2)
def fm_minute (t lv k : Nat) (v : vX10) : vX10 := fm_mm4 k (fm_mm3 lv (fm_mm2 t (fm_swing (fm_mm1 v.1, v.2)) (fm_mm1 v.1 4)))
theorem okR_12 {a : Nat → Int32} (h : okR a) (s : Int32) : okR (upd (upd a 1 (fm_course a)) 2 s) := by
  refine ⟨h.1, h.2.1, ?_⟩
  have h2 := h.2.2
  show zcR (if a 3 ≤ 0 then fm_course a else a 34)
  split
  · exact h2
  · rename_i c; unfold fm_course at h2; rw [if_neg c] at h2; exact h2
theorem sw_8 (w : vX10) : (fm_swing w).1 8 = w.1 8 := rfl
theorem sw_3 (w : vX10) : (fm_swing w).1 3 = w.1 3 := rfl
theorem sw_1 (w : vX10) : (fm_swing w).1 1 = w.1 1 := rfl
theorem sw_13 (w : vX10) : (fm_swing w).1 13 = w.1 13 := rfl
theorem tn_lo (t : Nat) (w : vX10) (e : Int32) {j : Nat} (hj : j < 13) : (fm_addTurn t w e).1 j = w.1 j := by
  show upd (upd (upd (fm_tn1 t w.1 e) 59 _) 13 _) 14 _ j = _
  unfold upd
  rw [if_neg (by omega), if_neg (by omega), if_neg (by omega)]
  unfold fm_tn1 upd ztu
  rw [if_neg (by omega), if_neg (by omega)]
theorem mc_ne (lv : Nat) (a : Nat → Int32) {j : Nat} (hj : j < 29) : fm_mc lv a j = a j := by
  unfold fm_mc upd; rw [if_neg (by omega)]

set_option maxHeartbeats 4000000 in
set_option maxRecDepth 100000 in
theorem c_X10_addCheck (l : Launch) (D : va_G) (cA : Nat → ClassId) (h0 h1 h2 h3 h4 h5 h6 h7 h8 h9 h10 h11 : Nat) (sz : Nat) (n0 : Nat) (v : vX10) (x1 : Int32) (hc : v.1 15 = nI n0) (hc5 : n0 ≤ 5) : Met l yX10_addCheck wsX10_addCheck ({ frames := 0, cells := 0, slots := 0, locals := 0 }) (va_Pc [.ref h0, .int x1] (zPre D (zty cA) (wX10 cA h0 h1 h2 h3 h4 h5 h6 h7 h8 h9 h10 h11 v) sz)) (va_Qv (fun (u : vX10) => u = (fm_chkv n0 v x1)) (fun u => zPost D (zty cA) (va_A (wX10 cA h0 h1 h2 h3 h4 h5 h6 h7 h8 h9 h10 h11 v) sz) (wX10 cA h0 h1 h2 h3 h4 h5 h6 h7 h8 h9 h10 h11 u)) (va_A (wX10 cA h0 h1 h2 h3 h4 h5 h6 h7 h8 h9 h10 h11 v) sz)) 0 0 (va_A (wX10 cA h0 h1 h2 h3 h4 h5 h6 h7 h8 h9 h10 h11 v) sz) := by
  refine Met.ofW (cc := cX10_addCheck) (maxL := 4) (ret := none) (by decide) rfl ?_
  intro p e s m args below meth c s₁ B hml hv
  obtain ⟨rfl, hsz, hP, hK, hD0, hE⟩ := hv
  have hx := B.exec
  have hb := B.bytes
  have hr := B.returns
  have hts := atoms_spec (ws := wsX10_addCheck) B.pre
  have hown : s.vm.findClass RX10 = some m.cls := findClass_of_methodNamed B.named
  have hlocks := B.notSynchronized
  have hinX10 : ∀ w ∈ u_ws RX10 TX10 16, w ∈ wsX10_addCheck := fun w h => List.mem_cons_of_mem _ (List.mem_append_right _ h)
  subst hsz
  have hD := hD0.self (sz := s.heap.size)
  generalize hAe : va_A (wX10 cA h0 h1 h2 h3 h4 h5 h6 h7 h8 h9 h10 h11 v) s.heap.size = A at hD hE ⊢
  have hA : ∀ q : Nat, s.heap.size ≤ q → A q := fun q h => by rw [← hAe]; exact Or.inr h
  have hS : va_S A s.heap s.heap [] := va_S.rf
  have hN : zN s := hE.1
  have hP : va_P D vwCl [(h0, .inr (10, [.ref h1, .ref h2, .ref h3, .ref h4, .ref h5, .ref h6, .int v.2.2.2.2.2.2.1, .ref h7, .ref h8, .ref h9, .ref h10, .int v.2.2.2.2.2.2.2.2.2.2.2.1, .int v.2.2.2.2.2.2.2.2.2.2.2.2.1, .int v.2.2.2.2.2.2.2.2.2.2.2.2.2.1, .ref h11, .int v.2.2.2.2.2.2.2.2.2.2.2.2.2.2.2])), (h1, .inl ((cA 1), 85, .inl v.1)), (h2, .inl ((cA 0), 9, .inr (.inl v.2.1))), (h3, .inl ((cA 1), 85, .inl v.2.2.1)), (h4, .inl ((cA 0), 9, .inr (.inl v.2.2.2.1))), (h5, .inl ((cA 1), 510, .inl v.2.2.2.2.1)), (h6, .inl ((cA 0), 54, .inr (.inl v.2.2.2.2.2.1))), (h7, .inl ((cA 1), 170, .inl v.2.2.2.2.2.2.2.1)), (h8, .inl ((cA 0), 18, .inr (.inl v.2.2.2.2.2.2.2.2.1))), (h9, .inl ((cA 2), 2, .inl v.2.2.2.2.2.2.2.2.2.1)), (h10, .inl ((cA 1), 80, .inl v.2.2.2.2.2.2.2.2.2.2.1)), (h11, .inl ((cA 1), 60, .inl v.2.2.2.2.2.2.2.2.2.2.2.2.2.2.1))] s.heap := hP
  have hD : va_D A [(h0, .inr (10, [.ref h1, .ref h2, .ref h3, .ref h4, .ref h5, .ref h6, .int v.2.2.2.2.2.2.1, .ref h7, .ref h8, .ref h9, .ref h10, .int v.2.2.2.2.2.2.2.2.2.2.2.1, .int v.2.2.2.2.2.2.2.2.2.2.2.2.1, .int v.2.2.2.2.2.2.2.2.2.2.2.2.2.1, .ref h11, .int v.2.2.2.2.2.2.2.2.2.2.2.2.2.2.2])), (h1, .inl ((cA 1), 85, .inl v.1)), (h2, .inl ((cA 0), 9, .inr (.inl v.2.1))), (h3, .inl ((cA 1), 85, .inl v.2.2.1)), (h4, .inl ((cA 0), 9, .inr (.inl v.2.2.2.1))), (h5, .inl ((cA 1), 510, .inl v.2.2.2.2.1)), (h6, .inl ((cA 0), 54, .inr (.inl v.2.2.2.2.2.1))), (h7, .inl ((cA 1), 170, .inl v.2.2.2.2.2.2.2.1)), (h8, .inl ((cA 0), 18, .inr (.inl v.2.2.2.2.2.2.2.2.1))), (h9, .inl ((cA 2), 2, .inl v.2.2.2.2.2.2.2.2.2.1)), (h10, .inl ((cA 1), 80, .inl v.2.2.2.2.2.2.2.2.2.2.1)), (h11, .inl ((cA 1), 60, .inl v.2.2.2.2.2.2.2.2.2.2.2.2.2.2.1))] := hD
  have hl := lv_entry ([.ref h0, .int x1]) (n := 4) (Nat.le_of_ble_eq_true rfl)
  rw [lg_entry_eq]
  generalize (lg_sl ([.ref h0, .int x1]) ++ List.replicate (4 - (lg_sl ([.ref h0, .int x1])).length) Slot.unset).toArray = ls at hl ⊢
  have hl : lv_has ls 4 [(0, .ref h0), (1, .int x1)] := hl
  refine z_genQ (fun Q hQ => ?_)
  refine lv_aload_n hx hb dX10_addCheck_0 rfl (lv_at hl 0 rfl) ?_
  refine va_get (D := D) (ci := 10) (v := .ref h1) (C := RX10) (T := TX10) (N := 16) hx hb hts hinX10 hown hK hP 0 rfl rfl 0 (by decide) (hts (.fieldLink RX10 7 "GyroTrainerModel" "at" "[I") (List.mem_of_getElem? (i := 1) rfl)) (fun _ h9 => h9) rfl dX10_addCheck_1 ?_
  refine lv_bipush (v := 15) hx hb dX10_addCheck_4 (by decide) ?_
  refine z_iald (k := 15) hx hb hK hP 1 1 rfl rfl rfl (by decide) (by decide) dX10_addCheck_6 ?_
  refine lv_iconst (v := 5) hx hb dX10_addCheck_7 (by decide) ?_
  refine lv_icmp_ge (tgt := 21) hx hb dX10_addCheck_8 (by decide) (fun c_1 => ?_) (fun c_1 => ?_)
  · skip
    have hc9 : ¬ n0 < 5 := fun h => nI_ge (a := n0) (b := 5) h (by decide) (by rw [hc] at c_1; exact c_1)
    refine lv_iconst (v := 4) hx hb dX10_addCheck_21 (by decide) ?_
    refine lv_istore_n (lv' := [(2, .int (nI 4)), (0, .ref h0), (1, .int x1)]) hx hb dX10_addCheck_22 rfl hl (by decide) rfl (fun ls hl => ?_)
    refine lv_iload_n hx hb dX10_addCheck_23 rfl (lv_at hl 0 rfl) ?_
    refine lv_istore_n (lv' := [(3, .int (nI 4)), (2, .int (nI 4)), (0, .ref h0), (1, .int x1)]) hx hb dX10_addCheck_24 rfl hl (by decide) rfl (fun ls hl => ?_)
    have L25 : ∀ (zn : Nat) (k : Nat), k < zn → (k ≤ 4) → ∀ (H : Heap) (locs : List Loc), va_P D vwCl [(h0, .inr (10, [.ref h1, .ref h2, .ref h3, .ref h4, .ref h5, .ref h6, .int v.2.2.2.2.2.2.1, .ref h7, .ref h8, .ref h9, .ref h10, .int v.2.2.2.2.2.2.2.2.2.2.2.1, .int v.2.2.2.2.2.2.2.2.2.2.2.2.1, .int v.2.2.2.2.2.2.2.2.2.2.2.2.2.1, .ref h11, .int v.2.2.2.2.2.2.2.2.2.2.2.2.2.2.2])), (h1, .inl ((cA 1), 85, .inl (zcu 74 4 k v.1))), (h2, .inl ((cA 0), 9, .inr (.inl v.2.1))), (h3, .inl ((cA 1), 85, .inl v.2.2.1)), (h4, .inl ((cA 0), 9, .inr (.inl v.2.2.2.1))), (h5, .inl ((cA 1), 510, .inl v.2.2.2.2.1)), (h6, .inl ((cA 0), 54, .inr (.inl v.2.2.2.2.2.1))), (h7, .inl ((cA 1), 170, .inl v.2.2.2.2.2.2.2.1)), (h8, .inl ((cA 0), 18, .inr (.inl v.2.2.2.2.2.2.2.2.1))), (h9, .inl ((cA 2), 2, .inl v.2.2.2.2.2.2.2.2.2.1)), (h10, .inl ((cA 1), 80, .inl v.2.2.2.2.2.2.2.2.2.2.1)), (h11, .inl ((cA 1), 60, .inl v.2.2.2.2.2.2.2.2.2.2.2.2.2.2.1))] H → va_D A [(h0, .inr (10, [.ref h1, .ref h2, .ref h3, .ref h4, .ref h5, .ref h6, .int v.2.2.2.2.2.2.1, .ref h7, .ref h8, .ref h9, .ref h10, .int v.2.2.2.2.2.2.2.2.2.2.2.1, .int v.2.2.2.2.2.2.2.2.2.2.2.2.1, .int v.2.2.2.2.2.2.2.2.2.2.2.2.2.1, .ref h11, .int v.2.2.2.2.2.2.2.2.2.2.2.2.2.2.2])), (h1, .inl ((cA 1), 85, .inl (zcu 74 4 k v.1))), (h2, .inl ((cA 0), 9, .inr (.inl v.2.1))), (h3, .inl ((cA 1), 85, .inl v.2.2.1)), (h4, .inl ((cA 0), 9, .inr (.inl v.2.2.2.1))), (h5, .inl ((cA 1), 510, .inl v.2.2.2.2.1)), (h6, .inl ((cA 0), 54, .inr (.inl v.2.2.2.2.2.1))), (h7, .inl ((cA 1), 170, .inl v.2.2.2.2.2.2.2.1)), (h8, .inl ((cA 0), 18, .inr (.inl v.2.2.2.2.2.2.2.2.1))), (h9, .inl ((cA 2), 2, .inl v.2.2.2.2.2.2.2.2.2.1)), (h10, .inl ((cA 1), 80, .inl v.2.2.2.2.2.2.2.2.2.2.1)), (h11, .inl ((cA 1), 60, .inl v.2.2.2.2.2.2.2.2.2.2.2.2.2.2.1))] → va_S A s.heap H locs → ∀ (ls : Array Slot), lv_has ls 4 [(3, .int (nI k)), (2, .int (nI 4)), (0, .ref h0), (1, .int x1)] → W p l e (headSpec wsX10_addCheck ({ frames := 0, cells := 0, slots := 0, locals := 0 })).room s m (([.ref h0, .int x1] : List Value).toArray) below meth c H locs 0 0 Q (F0 m 25 ls []) := by
      intro zn
      induction zn with
      | zero =>
        intro k hm
        exact absurd hm (Nat.not_lt_zero _)
      | succ zn ih =>
        intro k hm hk H locs hP hD hS ls hl
        refine lv_iload_n hx hb dX10_addCheck_25 rfl (lv_at hl 0 rfl) ?_
        refine lv_if_le (tgt := 55) hx hb dX10_addCheck_26 (by decide) (fun c_2 => ?_) (fun c_2 => ?_)
        · skip
          have ek0 : k = 0 := Nat.eq_zero_of_not_pos (fun h => nI_nle h (by omega) c_2)
          subst ek0
          refine lv_aload_n hx hb dX10_addCheck_55 rfl (lv_at hl 2 rfl) ?_
          refine va_get (D := D) (ci := 10) (v := .ref h1) (C := RX10) (T := TX10) (N := 16) hx hb hts hinX10 hown hK hP 0 rfl rfl 0 (by decide) (hts (.fieldLink RX10 7 "GyroTrainerModel" "at" "[I") (List.mem_of_getElem? (i := 1) rfl)) (fun _ h9 => h9) rfl dX10_addCheck_56 ?_
          refine lv_bipush (v := 74) hx hb dX10_addCheck_59 (by decide) ?_
          refine lv_iload_n hx hb dX10_addCheck_61 rfl (lv_at hl 3 rfl) ?_
          refine z_iast (k := 74) hx hb hK hP hD hS 1 1 rfl rfl rfl (by decide) (by decide) dX10_addCheck_62 (fun g_3 eg_3 H locs hP hD hS => ?_)
          have hP : va_P D vwCl [(h0, .inr (10, [.ref h1, .ref h2, .ref h3, .ref h4, .ref h5, .ref h6, .int v.2.2.2.2.2.2.1, .ref h7, .ref h8, .ref h9, .ref h10, .int v.2.2.2.2.2.2.2.2.2.2.2.1, .int v.2.2.2.2.2.2.2.2.2.2.2.2.1, .int v.2.2.2.2.2.2.2.2.2.2.2.2.2.1, .ref h11, .int v.2.2.2.2.2.2.2.2.2.2.2.2.2.2.2])), (h1, .inl ((cA 1), 85, .inl g_3)), (h2, .inl ((cA 0), 9, .inr (.inl v.2.1))), (h3, .inl ((cA 1), 85, .inl v.2.2.1)), (h4, .inl ((cA 0), 9, .inr (.inl v.2.2.2.1))), (h5, .inl ((cA 1), 510, .inl v.2.2.2.2.1)), (h6, .inl ((cA 0), 54, .inr (.inl v.2.2.2.2.2.1))), (h7, .inl ((cA 1), 170, .inl v.2.2.2.2.2.2.2.1)), (h8, .inl ((cA 0), 18, .inr (.inl v.2.2.2.2.2.2.2.2.1))), (h9, .inl ((cA 2), 2, .inl v.2.2.2.2.2.2.2.2.2.1)), (h10, .inl ((cA 1), 80, .inl v.2.2.2.2.2.2.2.2.2.2.1)), (h11, .inl ((cA 1), 60, .inl v.2.2.2.2.2.2.2.2.2.2.2.2.2.2.1))] H := hP
          have hD : va_D A [(h0, .inr (10, [.ref h1, .ref h2, .ref h3, .ref h4, .ref h5, .ref h6, .int v.2.2.2.2.2.2.1, .ref h7, .ref h8, .ref h9, .ref h10, .int v.2.2.2.2.2.2.2.2.2.2.2.1, .int v.2.2.2.2.2.2.2.2.2.2.2.2.1, .int v.2.2.2.2.2.2.2.2.2.2.2.2.2.1, .ref h11, .int v.2.2.2.2.2.2.2.2.2.2.2.2.2.2.2])), (h1, .inl ((cA 1), 85, .inl g_3)), (h2, .inl ((cA 0), 9, .inr (.inl v.2.1))), (h3, .inl ((cA 1), 85, .inl v.2.2.1)), (h4, .inl ((cA 0), 9, .inr (.inl v.2.2.2.1))), (h5, .inl ((cA 1), 510, .inl v.2.2.2.2.1)), (h6, .inl ((cA 0), 54, .inr (.inl v.2.2.2.2.2.1))), (h7, .inl ((cA 1), 170, .inl v.2.2.2.2.2.2.2.1)), (h8, .inl ((cA 0), 18, .inr (.inl v.2.2.2.2.2.2.2.2.1))), (h9, .inl ((cA 2), 2, .inl v.2.2.2.2.2.2.2.2.2.1)), (h10, .inl ((cA 1), 80, .inl v.2.2.2.2.2.2.2.2.2.2.1)), (h11, .inl ((cA 1), 60, .inl v.2.2.2.2.2.2.2.2.2.2.2.2.2.2.1))] := hD
          refine lv_aload_n hx hb dX10_addCheck_63 rfl (lv_at hl 2 rfl) ?_
          refine va_get (D := D) (ci := 10) (v := .ref h1) (C := RX10) (T := TX10) (N := 16) hx hb hts hinX10 hown hK hP 0 rfl rfl 0 (by decide) (hts (.fieldLink RX10 7 "GyroTrainerModel" "at" "[I") (List.mem_of_getElem? (i := 1) rfl)) (fun _ h9 => h9) rfl dX10_addCheck_64 ?_
          refine lv_bipush (v := 15) hx hb dX10_addCheck_67 (by decide) ?_
          refine lv_iload_n hx hb dX10_addCheck_69 rfl (lv_at hl 1 rfl) ?_
          refine lv_iconst (v := 1) hx hb dX10_addCheck_70 (by decide) ?_
          refine lv_iadd hx hb dX10_addCheck_71 ?_
          rw [show ((nI 4) + (1 : Int32)) = nI (4 + 1) from nI_1 _]
          refine z_iast (k := 15) hx hb hK hP hD hS 1 1 rfl rfl rfl (by decide) (by decide) dX10_addCheck_72 (fun g_4 eg_4 H locs hP hD hS => ?_)
          have hP : va_P D vwCl [(h0, .inr (10, [.ref h1, .ref h2, .ref h3, .ref h4, .ref h5, .ref h6, .int v.2.2.2.2.2.2.1, .ref h7, .ref h8, .ref h9, .ref h10, .int v.2.2.2.2.2.2.2.2.2.2.2.1, .int v.2.2.2.2.2.2.2.2.2.2.2.2.1, .int v.2.2.2.2.2.2.2.2.2.2.2.2.2.1, .ref h11, .int v.2.2.2.2.2.2.2.2.2.2.2.2.2.2.2])), (h1, .inl ((cA 1), 85, .inl g_4)), (h2, .inl ((cA 0), 9, .inr (.inl v.2.1))), (h3, .inl ((cA 1), 85, .inl v.2.2.1)), (h4, .inl ((cA 0), 9, .inr (.inl v.2.2.2.1))), (h5, .inl ((cA 1), 510, .inl v.2.2.2.2.1)), (h6, .inl ((cA 0), 54, .inr (.inl v.2.2.2.2.2.1))), (h7, .inl ((cA 1), 170, .inl v.2.2.2.2.2.2.2.1)), (h8, .inl ((cA 0), 18, .inr (.inl v.2.2.2.2.2.2.2.2.1))), (h9, .inl ((cA 2), 2, .inl v.2.2.2.2.2.2.2.2.2.1)), (h10, .inl ((cA 1), 80, .inl v.2.2.2.2.2.2.2.2.2.2.1)), (h11, .inl ((cA 1), 60, .inl v.2.2.2.2.2.2.2.2.2.2.2.2.2.2.1))] H := hP
          have hD : va_D A [(h0, .inr (10, [.ref h1, .ref h2, .ref h3, .ref h4, .ref h5, .ref h6, .int v.2.2.2.2.2.2.1, .ref h7, .ref h8, .ref h9, .ref h10, .int v.2.2.2.2.2.2.2.2.2.2.2.1, .int v.2.2.2.2.2.2.2.2.2.2.2.2.1, .int v.2.2.2.2.2.2.2.2.2.2.2.2.2.1, .ref h11, .int v.2.2.2.2.2.2.2.2.2.2.2.2.2.2.2])), (h1, .inl ((cA 1), 85, .inl g_4)), (h2, .inl ((cA 0), 9, .inr (.inl v.2.1))), (h3, .inl ((cA 1), 85, .inl v.2.2.1)), (h4, .inl ((cA 0), 9, .inr (.inl v.2.2.2.1))), (h5, .inl ((cA 1), 510, .inl v.2.2.2.2.1)), (h6, .inl ((cA 0), 54, .inr (.inl v.2.2.2.2.2.1))), (h7, .inl ((cA 1), 170, .inl v.2.2.2.2.2.2.2.1)), (h8, .inl ((cA 0), 18, .inr (.inl v.2.2.2.2.2.2.2.2.1))), (h9, .inl ((cA 2), 2, .inl v.2.2.2.2.2.2.2.2.2.1)), (h10, .inl ((cA 1), 80, .inl v.2.2.2.2.2.2.2.2.2.2.1)), (h11, .inl ((cA 1), 60, .inl v.2.2.2.2.2.2.2.2.2.2.2.2.2.2.1))] := hD
          have e9 : (fm_chkv n0 v x1) = (g_4, v.2) := by unfold fm_chkv fm_chk; simp only [if_neg hc9, ← eg_3, ← eg_4]
          have hP9 : va_P D vwCl (wX10 cA h0 h1 h2 h3 h4 h5 h6 h7 h8 h9 h10 h11 ((g_4, v.2) : vX10)) H := hP
          have hD9 : va_D A (wX10 cA h0 h1 h2 h3 h4 h5 h6 h7 h8 h9 h10 h11 ((g_4, v.2) : vX10)) := hD
          subst hQ
          exact W.vret hx hb hr (fun t ht hW => ⟨⟨(g_4, v.2), rfl, e9.symm, ⟨by rw [ht]; exact hP9, va_K.moved hW.alike hK, hD9⟩⟩, hS.F ht⟩) hS.2.2 dX10_addCheck_73
        · skip
          have hk0 : 0 < k := Nat.pos_of_ne_zero (fun h => c_2 (by rw [h]; decide))
          refine lv_aload_n hx hb dX10_addCheck_29 rfl (lv_at hl 2 rfl) ?_
          refine va_get (D := D) (ci := 10) (v := .ref h1) (C := RX10) (T := TX10) (N := 16) hx hb hts hinX10 hown hK hP 0 rfl rfl 0 (by decide) (hts (.fieldLink RX10 7 "GyroTrainerModel" "at" "[I") (List.mem_of_getElem? (i := 1) rfl)) (fun _ h9 => h9) rfl dX10_addCheck_30 ?_
          refine lv_bipush (v := 74) hx hb dX10_addCheck_33 (by decide) ?_
          refine lv_iload_n hx hb dX10_addCheck_35 rfl (lv_at hl 0 rfl) ?_
          refine lv_iadd hx hb dX10_addCheck_36 ?_
          refine lv_aload_n hx hb dX10_addCheck_37 rfl (lv_at hl 2 rfl) ?_
          refine va_get (D := D) (ci := 10) (v := .ref h1) (C := RX10) (T := TX10) (N := 16) hx hb hts hinX10 hown hK hP 0 rfl rfl 0 (by decide) (hts (.fieldLink RX10 7 "GyroTrainerModel" "at" "[I") (List.mem_of_getElem? (i := 1) rfl)) (fun _ h9 => h9) rfl dX10_addCheck_38 ?_
          refine lv_bipush (v := 74) hx hb dX10_addCheck_41 (by decide) ?_
          refine lv_iload_n hx hb dX10_addCheck_43 rfl (lv_at hl 0 rfl) ?_
          refine lv_iadd hx hb dX10_addCheck_44 ?_
          refine lv_iconst (v := 1) hx hb dX10_addCheck_45 (by decide) ?_
          refine lv_isub hx hb dX10_addCheck_46 ?_
          refine z_iald (k := (74 + k - 1)) hx hb hK hP 1 1 rfl rfl (by rw [show (74 : Int32) + nI k = nI (74 + k) from nI_add 74 k]; exact z_pred1 (by omega)) (by omega) (by decide) dX10_addCheck_47 ?_
          refine z_iast (k := (74 + k)) hx hb hK hP hD hS 1 1 rfl rfl (nI_add 74 k) (by omega) (by decide) dX10_addCheck_48 (fun g_5 eg_5 H locs hP hD hS => ?_)
          have hP : va_P D vwCl [(h0, .inr (10, [.ref h1, .ref h2, .ref h3, .ref h4, .ref h5, .ref h6, .int v.2.2.2.2.2.2.1, .ref h7, .ref h8, .ref h9, .ref h10, .int v.2.2.2.2.2.2.2.2.2.2.2.1, .int v.2.2.2.2.2.2.2.2.2.2.2.2.1, .int v.2.2.2.2.2.2.2.2.2.2.2.2.2.1, .ref h11, .int v.2.2.2.2.2.2.2.2.2.2.2.2.2.2.2])), (h1, .inl ((cA 1), 85, .inl g_5)), (h2, .inl ((cA 0), 9, .inr (.inl v.2.1))), (h3, .inl ((cA 1), 85, .inl v.2.2.1)), (h4, .inl ((cA 0), 9, .inr (.inl v.2.2.2.1))), (h5, .inl ((cA 1), 510, .inl v.2.2.2.2.1)), (h6, .inl ((cA 0), 54, .inr (.inl v.2.2.2.2.2.1))), (h7, .inl ((cA 1), 170, .inl v.2.2.2.2.2.2.2.1)), (h8, .inl ((cA 0), 18, .inr (.inl v.2.2.2.2.2.2.2.2.1))), (h9, .inl ((cA 2), 2, .inl v.2.2.2.2.2.2.2.2.2.1)), (h10, .inl ((cA 1), 80, .inl v.2.2.2.2.2.2.2.2.2.2.1)), (h11, .inl ((cA 1), 60, .inl v.2.2.2.2.2.2.2.2.2.2.2.2.2.2.1))] H := hP
          have hD : va_D A [(h0, .inr (10, [.ref h1, .ref h2, .ref h3, .ref h4, .ref h5, .ref h6, .int v.2.2.2.2.2.2.1, .ref h7, .ref h8, .ref h9, .ref h10, .int v.2.2.2.2.2.2.2.2.2.2.2.1, .int v.2.2.2.2.2.2.2.2.2.2.2.2.1, .int v.2.2.2.2.2.2.2.2.2.2.2.2.2.1, .ref h11, .int v.2.2.2.2.2.2.2.2.2.2.2.2.2.2.2])), (h1, .inl ((cA 1), 85, .inl g_5)), (h2, .inl ((cA 0), 9, .inr (.inl v.2.1))), (h3, .inl ((cA 1), 85, .inl v.2.2.1)), (h4, .inl ((cA 0), 9, .inr (.inl v.2.2.2.1))), (h5, .inl ((cA 1), 510, .inl v.2.2.2.2.1)), (h6, .inl ((cA 0), 54, .inr (.inl v.2.2.2.2.2.1))), (h7, .inl ((cA 1), 170, .inl v.2.2.2.2.2.2.2.1)), (h8, .inl ((cA 0), 18, .inr (.inl v.2.2.2.2.2.2.2.2.1))), (h9, .inl ((cA 2), 2, .inl v.2.2.2.2.2.2.2.2.2.1)), (h10, .inl ((cA 1), 80, .inl v.2.2.2.2.2.2.2.2.2.2.1)), (h11, .inl ((cA 1), 60, .inl v.2.2.2.2.2.2.2.2.2.2.2.2.2.2.1))] := hD
          refine lv_iinc (v := (nI (k - 1))) (lv' := [(3, .int (nI (k - 1))), (2, .int (nI 4)), (0, .ref h0), (1, .int x1)]) hx hb dX10_addCheck_49 hl (k := 0) rfl (sb_m1 hk0) (by decide) rfl (fun ls hl => ?_)
          refine lv_goto (tgt := 25) hx hb dX10_addCheck_52 (by decide) ?_
          rw [zcu_s hk0 hk] at eg_5
          subst eg_5
          exact ih (k - 1) (by omega) (by omega) _ _ hP hD hS ls (lv_sub hl [0, 1, 2, 3] rfl)
    exact L25 (4 + 1) (4) (by omega) (Nat.le_refl _) _ _ (by rw [zcu_0]; exact hP) (by rw [zcu_0]; exact hD) hS ls (lv_sub hl [0, 1, 2, 3] rfl)
  · skip
    have hc9 : n0 < 5 := Nat.lt_of_not_le (fun h => c_1 (by rw [hc]; exact nI_le (a := 5) (b := n0) h (by omega)))
    refine lv_aload_n hx hb dX10_addCheck_11 rfl (lv_at hl 0 rfl) ?_
    refine va_get (D := D) (ci := 10) (v := .ref h1) (C := RX10) (T := TX10) (N := 16) hx hb hts hinX10 hown hK hP 0 rfl rfl 0 (by decide) (hts (.fieldLink RX10 7 "GyroTrainerModel" "at" "[I") (List.mem_of_getElem? (i := 1) rfl)) (fun _ h9 => h9) rfl dX10_addCheck_12 ?_
    refine lv_bipush (v := 15) hx hb dX10_addCheck_15 (by decide) ?_
    refine z_iald (k := 15) hx hb hK hP 1 1 rfl rfl rfl (by decide) (by decide) dX10_addCheck_17 ?_
    refine lv_goto (tgt := 22) hx hb dX10_addCheck_18 (by decide) ?_
    rw [hc]
    refine lv_istore_n (lv' := [(2, .int (nI n0)), (0, .ref h0), (1, .int x1)]) hx hb dX10_addCheck_22 rfl hl (by decide) rfl (fun ls hl => ?_)
    refine lv_iload_n hx hb dX10_addCheck_23 rfl (lv_at hl 0 rfl) ?_
    refine lv_istore_n (lv' := [(3, .int (nI n0)), (2, .int (nI n0)), (0, .ref h0), (1, .int x1)]) hx hb dX10_addCheck_24 rfl hl (by decide) rfl (fun ls hl => ?_)
    have L25 : ∀ (zn : Nat) (k : Nat), k < zn → (k ≤ n0) → ∀ (H : Heap) (locs : List Loc), va_P D vwCl [(h0, .inr (10, [.ref h1, .ref h2, .ref h3, .ref h4, .ref h5, .ref h6, .int v.2.2.2.2.2.2.1, .ref h7, .ref h8, .ref h9, .ref h10, .int v.2.2.2.2.2.2.2.2.2.2.2.1, .int v.2.2.2.2.2.2.2.2.2.2.2.2.1, .int v.2.2.2.2.2.2.2.2.2.2.2.2.2.1, .ref h11, .int v.2.2.2.2.2.2.2.2.2.2.2.2.2.2.2])), (h1, .inl ((cA 1), 85, .inl (zcu 74 n0 k v.1))), (h2, .inl ((cA 0), 9, .inr (.inl v.2.1))), (h3, .inl ((cA 1), 85, .inl v.2.2.1)), (h4, .inl ((cA 0), 9, .inr (.inl v.2.2.2.1))), (h5, .inl ((cA 1), 510, .inl v.2.2.2.2.1)), (h6, .inl ((cA 0), 54, .inr (.inl v.2.2.2.2.2.1))), (h7, .inl ((cA 1), 170, .inl v.2.2.2.2.2.2.2.1)), (h8, .inl ((cA 0), 18, .inr (.inl v.2.2.2.2.2.2.2.2.1))), (h9, .inl ((cA 2), 2, .inl v.2.2.2.2.2.2.2.2.2.1)), (h10, .inl ((cA 1), 80, .inl v.2.2.2.2.2.2.2.2.2.2.1)), (h11, .inl ((cA 1), 60, .inl v.2.2.2.2.2.2.2.2.2.2.2.2.2.2.1))] H → va_D A [(h0, .inr (10, [.ref h1, .ref h2, .ref h3, .ref h4, .ref h5, .ref h6, .int v.2.2.2.2.2.2.1, .ref h7, .ref h8, .ref h9, .ref h10, .int v.2.2.2.2.2.2.2.2.2.2.2.1, .int v.2.2.2.2.2.2.2.2.2.2.2.2.1, .int v.2.2.2.2.2.2.2.2.2.2.2.2.2.1, .ref h11, .int v.2.2.2.2.2.2.2.2.2.2.2.2.2.2.2])), (h1, .inl ((cA 1), 85, .inl (zcu 74 n0 k v.1))), (h2, .inl ((cA 0), 9, .inr (.inl v.2.1))), (h3, .inl ((cA 1), 85, .inl v.2.2.1)), (h4, .inl ((cA 0), 9, .inr (.inl v.2.2.2.1))), (h5, .inl ((cA 1), 510, .inl v.2.2.2.2.1)), (h6, .inl ((cA 0), 54, .inr (.inl v.2.2.2.2.2.1))), (h7, .inl ((cA 1), 170, .inl v.2.2.2.2.2.2.2.1)), (h8, .inl ((cA 0), 18, .inr (.inl v.2.2.2.2.2.2.2.2.1))), (h9, .inl ((cA 2), 2, .inl v.2.2.2.2.2.2.2.2.2.1)), (h10, .inl ((cA 1), 80, .inl v.2.2.2.2.2.2.2.2.2.2.1)), (h11, .inl ((cA 1), 60, .inl v.2.2.2.2.2.2.2.2.2.2.2.2.2.2.1))] → va_S A s.heap H locs → ∀ (ls : Array Slot), lv_has ls 4 [(3, .int (nI k)), (2, .int (nI n0)), (0, .ref h0), (1, .int x1)] → W p l e (headSpec wsX10_addCheck ({ frames := 0, cells := 0, slots := 0, locals := 0 })).room s m (([.ref h0, .int x1] : List Value).toArray) below meth c H locs 0 0 Q (F0 m 25 ls []) := by
      intro zn
      induction zn with
      | zero =>
        intro k hm
        exact absurd hm (Nat.not_lt_zero _)
      | succ zn ih =>
        intro k hm hk H locs hP hD hS ls hl
        refine lv_iload_n hx hb dX10_addCheck_25 rfl (lv_at hl 0 rfl) ?_
        refine lv_if_le (tgt := 55) hx hb dX10_addCheck_26 (by decide) (fun c_6 => ?_) (fun c_6 => ?_)
        · skip
          have ek0 : k = 0 := Nat.eq_zero_of_not_pos (fun h => nI_nle h (by omega) c_6)
          subst ek0
          refine lv_aload_n hx hb dX10_addCheck_55 rfl (lv_at hl 2 rfl) ?_
          refine va_get (D := D) (ci := 10) (v := .ref h1) (C := RX10) (T := TX10) (N := 16) hx hb hts hinX10 hown hK hP 0 rfl rfl 0 (by decide) (hts (.fieldLink RX10 7 "GyroTrainerModel" "at" "[I") (List.mem_of_getElem? (i := 1) rfl)) (fun _ h9 => h9) rfl dX10_addCheck_56 ?_
          refine lv_bipush (v := 74) hx hb dX10_addCheck_59 (by decide) ?_
          refine lv_iload_n hx hb dX10_addCheck_61 rfl (lv_at hl 3 rfl) ?_
          refine z_iast (k := 74) hx hb hK hP hD hS 1 1 rfl rfl rfl (by decide) (by decide) dX10_addCheck_62 (fun g_7 eg_7 H locs hP hD hS => ?_)
          have hP : va_P D vwCl [(h0, .inr (10, [.ref h1, .ref h2, .ref h3, .ref h4, .ref h5, .ref h6, .int v.2.2.2.2.2.2.1, .ref h7, .ref h8, .ref h9, .ref h10, .int v.2.2.2.2.2.2.2.2.2.2.2.1, .int v.2.2.2.2.2.2.2.2.2.2.2.2.1, .int v.2.2.2.2.2.2.2.2.2.2.2.2.2.1, .ref h11, .int v.2.2.2.2.2.2.2.2.2.2.2.2.2.2.2])), (h1, .inl ((cA 1), 85, .inl g_7)), (h2, .inl ((cA 0), 9, .inr (.inl v.2.1))), (h3, .inl ((cA 1), 85, .inl v.2.2.1)), (h4, .inl ((cA 0), 9, .inr (.inl v.2.2.2.1))), (h5, .inl ((cA 1), 510, .inl v.2.2.2.2.1)), (h6, .inl ((cA 0), 54, .inr (.inl v.2.2.2.2.2.1))), (h7, .inl ((cA 1), 170, .inl v.2.2.2.2.2.2.2.1)), (h8, .inl ((cA 0), 18, .inr (.inl v.2.2.2.2.2.2.2.2.1))), (h9, .inl ((cA 2), 2, .inl v.2.2.2.2.2.2.2.2.2.1)), (h10, .inl ((cA 1), 80, .inl v.2.2.2.2.2.2.2.2.2.2.1)), (h11, .inl ((cA 1), 60, .inl v.2.2.2.2.2.2.2.2.2.2.2.2.2.2.1))] H := hP
          have hD : va_D A [(h0, .inr (10, [.ref h1, .ref h2, .ref h3, .ref h4, .ref h5, .ref h6, .int v.2.2.2.2.2.2.1, .ref h7, .ref h8, .ref h9, .ref h10, .int v.2.2.2.2.2.2.2.2.2.2.2.1, .int v.2.2.2.2.2.2.2.2.2.2.2.2.1, .int v.2.2.2.2.2.2.2.2.2.2.2.2.2.1, .ref h11, .int v.2.2.2.2.2.2.2.2.2.2.2.2.2.2.2])), (h1, .inl ((cA 1), 85, .inl g_7)), (h2, .inl ((cA 0), 9, .inr (.inl v.2.1))), (h3, .inl ((cA 1), 85, .inl v.2.2.1)), (h4, .inl ((cA 0), 9, .inr (.inl v.2.2.2.1))), (h5, .inl ((cA 1), 510, .inl v.2.2.2.2.1)), (h6, .inl ((cA 0), 54, .inr (.inl v.2.2.2.2.2.1))), (h7, .inl ((cA 1), 170, .inl v.2.2.2.2.2.2.2.1)), (h8, .inl ((cA 0), 18, .inr (.inl v.2.2.2.2.2.2.2.2.1))), (h9, .inl ((cA 2), 2, .inl v.2.2.2.2.2.2.2.2.2.1)), (h10, .inl ((cA 1), 80, .inl v.2.2.2.2.2.2.2.2.2.2.1)), (h11, .inl ((cA 1), 60, .inl v.2.2.2.2.2.2.2.2.2.2.2.2.2.2.1))] := hD
          refine lv_aload_n hx hb dX10_addCheck_63 rfl (lv_at hl 2 rfl) ?_
          refine va_get (D := D) (ci := 10) (v := .ref h1) (C := RX10) (T := TX10) (N := 16) hx hb hts hinX10 hown hK hP 0 rfl rfl 0 (by decide) (hts (.fieldLink RX10 7 "GyroTrainerModel" "at" "[I") (List.mem_of_getElem? (i := 1) rfl)) (fun _ h9 => h9) rfl dX10_addCheck_64 ?_
          refine lv_bipush (v := 15) hx hb dX10_addCheck_67 (by decide) ?_
          refine lv_iload_n hx hb dX10_addCheck_69 rfl (lv_at hl 1 rfl) ?_
          refine lv_iconst (v := 1) hx hb dX10_addCheck_70 (by decide) ?_
          refine lv_iadd hx hb dX10_addCheck_71 ?_
          rw [show ((nI n0) + (1 : Int32)) = nI (n0 + 1) from nI_1 _]
          refine z_iast (k := 15) hx hb hK hP hD hS 1 1 rfl rfl rfl (by decide) (by decide) dX10_addCheck_72 (fun g_8 eg_8 H locs hP hD hS => ?_)
          have hP : va_P D vwCl [(h0, .inr (10, [.ref h1, .ref h2, .ref h3, .ref h4, .ref h5, .ref h6, .int v.2.2.2.2.2.2.1, .ref h7, .ref h8, .ref h9, .ref h10, .int v.2.2.2.2.2.2.2.2.2.2.2.1, .int v.2.2.2.2.2.2.2.2.2.2.2.2.1, .int v.2.2.2.2.2.2.2.2.2.2.2.2.2.1, .ref h11, .int v.2.2.2.2.2.2.2.2.2.2.2.2.2.2.2])), (h1, .inl ((cA 1), 85, .inl g_8)), (h2, .inl ((cA 0), 9, .inr (.inl v.2.1))), (h3, .inl ((cA 1), 85, .inl v.2.2.1)), (h4, .inl ((cA 0), 9, .inr (.inl v.2.2.2.1))), (h5, .inl ((cA 1), 510, .inl v.2.2.2.2.1)), (h6, .inl ((cA 0), 54, .inr (.inl v.2.2.2.2.2.1))), (h7, .inl ((cA 1), 170, .inl v.2.2.2.2.2.2.2.1)), (h8, .inl ((cA 0), 18, .inr (.inl v.2.2.2.2.2.2.2.2.1))), (h9, .inl ((cA 2), 2, .inl v.2.2.2.2.2.2.2.2.2.1)), (h10, .inl ((cA 1), 80, .inl v.2.2.2.2.2.2.2.2.2.2.1)), (h11, .inl ((cA 1), 60, .inl v.2.2.2.2.2.2.2.2.2.2.2.2.2.2.1))] H := hP
          have hD : va_D A [(h0, .inr (10, [.ref h1, .ref h2, .ref h3, .ref h4, .ref h5, .ref h6, .int v.2.2.2.2.2.2.1, .ref h7, .ref h8, .ref h9, .ref h10, .int v.2.2.2.2.2.2.2.2.2.2.2.1, .int v.2.2.2.2.2.2.2.2.2.2.2.2.1, .int v.2.2.2.2.2.2.2.2.2.2.2.2.2.1, .ref h11, .int v.2.2.2.2.2.2.2.2.2.2.2.2.2.2.2])), (h1, .inl ((cA 1), 85, .inl g_8)), (h2, .inl ((cA 0), 9, .inr (.inl v.2.1))), (h3, .inl ((cA 1), 85, .inl v.2.2.1)), (h4, .inl ((cA 0), 9, .inr (.inl v.2.2.2.1))), (h5, .inl ((cA 1), 510, .inl v.2.2.2.2.1)), (h6, .inl ((cA 0), 54, .inr (.inl v.2.2.2.2.2.1))), (h7, .inl ((cA 1), 170, .inl v.2.2.2.2.2.2.2.1)), (h8, .inl ((cA 0), 18, .inr (.inl v.2.2.2.2.2.2.2.2.1))), (h9, .inl ((cA 2), 2, .inl v.2.2.2.2.2.2.2.2.2.1)), (h10, .inl ((cA 1), 80, .inl v.2.2.2.2.2.2.2.2.2.2.1)), (h11, .inl ((cA 1), 60, .inl v.2.2.2.2.2.2.2.2.2.2.2.2.2.2.1))] := hD
          have e9 : (fm_chkv n0 v x1) = (g_8, v.2) := by unfold fm_chkv fm_chk; simp only [if_pos hc9, ← eg_7, ← eg_8]
          have hP9 : va_P D vwCl (wX10 cA h0 h1 h2 h3 h4 h5 h6 h7 h8 h9 h10 h11 ((g_8, v.2) : vX10)) H := hP
          have hD9 : va_D A (wX10 cA h0 h1 h2 h3 h4 h5 h6 h7 h8 h9 h10 h11 ((g_8, v.2) : vX10)) := hD
          subst hQ
          exact W.vret hx hb hr (fun t ht hW => ⟨⟨(g_8, v.2), rfl, e9.symm, ⟨by rw [ht]; exact hP9, va_K.moved hW.alike hK, hD9⟩⟩, hS.F ht⟩) hS.2.2 dX10_addCheck_73
        · skip
          have hk0 : 0 < k := Nat.pos_of_ne_zero (fun h => c_6 (by rw [h]; decide))
          refine lv_aload_n hx hb dX10_addCheck_29 rfl (lv_at hl 2 rfl) ?_
          refine va_get (D := D) (ci := 10) (v := .ref h1) (C := RX10) (T := TX10) (N := 16) hx hb hts hinX10 hown hK hP 0 rfl rfl 0 (by decide) (hts (.fieldLink RX10 7 "GyroTrainerModel" "at" "[I") (List.mem_of_getElem? (i := 1) rfl)) (fun _ h9 => h9) rfl dX10_addCheck_30 ?_
          refine lv_bipush (v := 74) hx hb dX10_addCheck_33 (by decide) ?_
          refine lv_iload_n hx hb dX10_addCheck_35 rfl (lv_at hl 0 rfl) ?_
          refine lv_iadd hx hb dX10_addCheck_36 ?_
          refine lv_aload_n hx hb dX10_addCheck_37 rfl (lv_at hl 2 rfl) ?_
          refine va_get (D := D) (ci := 10) (v := .ref h1) (C := RX10) (T := TX10) (N := 16) hx hb hts hinX10 hown hK hP 0 rfl rfl 0 (by decide) (hts (.fieldLink RX10 7 "GyroTrainerModel" "at" "[I") (List.mem_of_getElem? (i := 1) rfl)) (fun _ h9 => h9) rfl dX10_addCheck_38 ?_
          refine lv_bipush (v := 74) hx hb dX10_addCheck_41 (by decide) ?_
          refine lv_iload_n hx hb dX10_addCheck_43 rfl (lv_at hl 0 rfl) ?_
          refine lv_iadd hx hb dX10_addCheck_44 ?_
          refine lv_iconst (v := 1) hx hb dX10_addCheck_45 (by decide) ?_
          refine lv_isub hx hb dX10_addCheck_46 ?_
          refine z_iald (k := (74 + k - 1)) hx hb hK hP 1 1 rfl rfl (by rw [show (74 : Int32) + nI k = nI (74 + k) from nI_add 74 k]; exact z_pred1 (by omega)) (by omega) (by decide) dX10_addCheck_47 ?_
          refine z_iast (k := (74 + k)) hx hb hK hP hD hS 1 1 rfl rfl (nI_add 74 k) (by omega) (by decide) dX10_addCheck_48 (fun g_9 eg_9 H locs hP hD hS => ?_)
          have hP : va_P D vwCl [(h0, .inr (10, [.ref h1, .ref h2, .ref h3, .ref h4, .ref h5, .ref h6, .int v.2.2.2.2.2.2.1, .ref h7, .ref h8, .ref h9, .ref h10, .int v.2.2.2.2.2.2.2.2.2.2.2.1, .int v.2.2.2.2.2.2.2.2.2.2.2.2.1, .int v.2.2.2.2.2.2.2.2.2.2.2.2.2.1, .ref h11, .int v.2.2.2.2.2.2.2.2.2.2.2.2.2.2.2])), (h1, .inl ((cA 1), 85, .inl g_9)), (h2, .inl ((cA 0), 9, .inr (.inl v.2.1))), (h3, .inl ((cA 1), 85, .inl v.2.2.1)), (h4, .inl ((cA 0), 9, .inr (.inl v.2.2.2.1))), (h5, .inl ((cA 1), 510, .inl v.2.2.2.2.1)), (h6, .inl ((cA 0), 54, .inr (.inl v.2.2.2.2.2.1))), (h7, .inl ((cA 1), 170, .inl v.2.2.2.2.2.2.2.1)), (h8, .inl ((cA 0), 18, .inr (.inl v.2.2.2.2.2.2.2.2.1))), (h9, .inl ((cA 2), 2, .inl v.2.2.2.2.2.2.2.2.2.1)), (h10, .inl ((cA 1), 80, .inl v.2.2.2.2.2.2.2.2.2.2.1)), (h11, .inl ((cA 1), 60, .inl v.2.2.2.2.2.2.2.2.2.2.2.2.2.2.1))] H := hP
          have hD : va_D A [(h0, .inr (10, [.ref h1, .ref h2, .ref h3, .ref h4, .ref h5, .ref h6, .int v.2.2.2.2.2.2.1, .ref h7, .ref h8, .ref h9, .ref h10, .int v.2.2.2.2.2.2.2.2.2.2.2.1, .int v.2.2.2.2.2.2.2.2.2.2.2.2.1, .int v.2.2.2.2.2.2.2.2.2.2.2.2.2.1, .ref h11, .int v.2.2.2.2.2.2.2.2.2.2.2.2.2.2.2])), (h1, .inl ((cA 1), 85, .inl g_9)), (h2, .inl ((cA 0), 9, .inr (.inl v.2.1))), (h3, .inl ((cA 1), 85, .inl v.2.2.1)), (h4, .inl ((cA 0), 9, .inr (.inl v.2.2.2.1))), (h5, .inl ((cA 1), 510, .inl v.2.2.2.2.1)), (h6, .inl ((cA 0), 54, .inr (.inl v.2.2.2.2.2.1))), (h7, .inl ((cA 1), 170, .inl v.2.2.2.2.2.2.2.1)), (h8, .inl ((cA 0), 18, .inr (.inl v.2.2.2.2.2.2.2.2.1))), (h9, .inl ((cA 2), 2, .inl v.2.2.2.2.2.2.2.2.2.1)), (h10, .inl ((cA 1), 80, .inl v.2.2.2.2.2.2.2.2.2.2.1)), (h11, .inl ((cA 1), 60, .inl v.2.2.2.2.2.2.2.2.2.2.2.2.2.2.1))] := hD
          refine lv_iinc (v := (nI (k - 1))) (lv' := [(3, .int (nI (k - 1))), (2, .int (nI n0)), (0, .ref h0), (1, .int x1)]) hx hb dX10_addCheck_49 hl (k := 0) rfl (sb_m1 hk0) (by decide) rfl (fun ls hl => ?_)
          refine lv_goto (tgt := 25) hx hb dX10_addCheck_52 (by decide) ?_
          rw [zcu_s hk0 hk] at eg_9
          subst eg_9
          exact ih (k - 1) (by omega) (by omega) _ _ hP hD hS ls (lv_sub hl [0, 1, 2, 3] rfl)
    exact L25 (n0 + 1) (n0) (by omega) (Nat.le_refl _) _ _ (by rw [zcu_0]; exact hP) (by rw [zcu_0]; exact hD) hS ls (lv_sub hl [0, 1, 2, 3] rfl)
set_option maxHeartbeats 4000000 in
set_option maxRecDepth 100000 in
theorem c_X10_addTurn (l : Launch) (D : va_G) (cA : Nat → ClassId) (h0 h1 h2 h3 h4 h5 h6 h7 h8 h9 h10 h11 : Nat) (sz : Nat) (t : Nat) (v : vX10) (x1 : Int32) (ht : v.1 13 = nI t) (ht8 : t ≤ 8) : Met l yX10_addTurn wsX10_addTurn ({ frames := 0, cells := 0, slots := 0, locals := 0 }) (va_Pc [.ref h0, .int x1] (zPre D (zty cA) (wX10 cA h0 h1 h2 h3 h4 h5 h6 h7 h8 h9 h10 h11 v) sz)) (va_Qv (fun (u : vX10) => u = (fm_addTurn t v x1)) (fun u => zPost D (zty cA) (va_A (wX10 cA h0 h1 h2 h3 h4 h5 h6 h7 h8 h9 h10 h11 v) sz) (wX10 cA h0 h1 h2 h3 h4 h5 h6 h7 h8 h9 h10 h11 u)) (va_A (wX10 cA h0 h1 h2 h3 h4 h5 h6 h7 h8 h9 h10 h11 v) sz)) 0 0 (va_A (wX10 cA h0 h1 h2 h3 h4 h5 h6 h7 h8 h9 h10 h11 v) sz) := by
  refine Met.ofW (cc := cX10_addTurn) (maxL := 4) (ret := none) (by decide) rfl ?_
  intro p e s m args below meth c s₁ B hml hv
  obtain ⟨rfl, hsz, hP, hK, hD0, hE⟩ := hv
  have hx := B.exec
  have hb := B.bytes
  have hr := B.returns
  have hts := atoms_spec (ws := wsX10_addTurn) B.pre
  have hown : s.vm.findClass RX10 = some m.cls := findClass_of_methodNamed B.named
  have hlocks := B.notSynchronized
  have hinX10 : ∀ w ∈ u_ws RX10 TX10 16, w ∈ wsX10_addTurn := fun w h => List.mem_cons_of_mem _ (List.mem_append_right _ h)
  subst hsz
  have hD := hD0.self (sz := s.heap.size)
  generalize hAe : va_A (wX10 cA h0 h1 h2 h3 h4 h5 h6 h7 h8 h9 h10 h11 v) s.heap.size = A at hD hE ⊢
  have hA : ∀ q : Nat, s.heap.size ≤ q → A q := fun q h => by rw [← hAe]; exact Or.inr h
  have hS : va_S A s.heap s.heap [] := va_S.rf
  have hN : zN s := hE.1
  have hP : va_P D vwCl [(h0, .inr (10, [.ref h1, .ref h2, .ref h3, .ref h4, .ref h5, .ref h6, .int v.2.2.2.2.2.2.1, .ref h7, .ref h8, .ref h9, .ref h10, .int v.2.2.2.2.2.2.2.2.2.2.2.1, .int v.2.2.2.2.2.2.2.2.2.2.2.2.1, .int v.2.2.2.2.2.2.2.2.2.2.2.2.2.1, .ref h11, .int v.2.2.2.2.2.2.2.2.2.2.2.2.2.2.2])), (h1, .inl ((cA 1), 85, .inl v.1)), (h2, .inl ((cA 0), 9, .inr (.inl v.2.1))), (h3, .inl ((cA 1), 85, .inl v.2.2.1)), (h4, .inl ((cA 0), 9, .inr (.inl v.2.2.2.1))), (h5, .inl ((cA 1), 510, .inl v.2.2.2.2.1)), (h6, .inl ((cA 0), 54, .inr (.inl v.2.2.2.2.2.1))), (h7, .inl ((cA 1), 170, .inl v.2.2.2.2.2.2.2.1)), (h8, .inl ((cA 0), 18, .inr (.inl v.2.2.2.2.2.2.2.2.1))), (h9, .inl ((cA 2), 2, .inl v.2.2.2.2.2.2.2.2.2.1)), (h10, .inl ((cA 1), 80, .inl v.2.2.2.2.2.2.2.2.2.2.1)), (h11, .inl ((cA 1), 60, .inl v.2.2.2.2.2.2.2.2.2.2.2.2.2.2.1))] s.heap := hP
  have hD : va_D A [(h0, .inr (10, [.ref h1, .ref h2, .ref h3, .ref h4, .ref h5, .ref h6, .int v.2.2.2.2.2.2.1, .ref h7, .ref h8, .ref h9, .ref h10, .int v.2.2.2.2.2.2.2.2.2.2.2.1, .int v.2.2.2.2.2.2.2.2.2.2.2.2.1, .int v.2.2.2.2.2.2.2.2.2.2.2.2.2.1, .ref h11, .int v.2.2.2.2.2.2.2.2.2.2.2.2.2.2.2])), (h1, .inl ((cA 1), 85, .inl v.1)), (h2, .inl ((cA 0), 9, .inr (.inl v.2.1))), (h3, .inl ((cA 1), 85, .inl v.2.2.1)), (h4, .inl ((cA 0), 9, .inr (.inl v.2.2.2.1))), (h5, .inl ((cA 1), 510, .inl v.2.2.2.2.1)), (h6, .inl ((cA 0), 54, .inr (.inl v.2.2.2.2.2.1))), (h7, .inl ((cA 1), 170, .inl v.2.2.2.2.2.2.2.1)), (h8, .inl ((cA 0), 18, .inr (.inl v.2.2.2.2.2.2.2.2.1))), (h9, .inl ((cA 2), 2, .inl v.2.2.2.2.2.2.2.2.2.1)), (h10, .inl ((cA 1), 80, .inl v.2.2.2.2.2.2.2.2.2.2.1)), (h11, .inl ((cA 1), 60, .inl v.2.2.2.2.2.2.2.2.2.2.2.2.2.2.1))] := hD
  have hl := lv_entry ([.ref h0, .int x1]) (n := 4) (Nat.le_of_ble_eq_true rfl)
  rw [lg_entry_eq]
  generalize (lg_sl ([.ref h0, .int x1]) ++ List.replicate (4 - (lg_sl ([.ref h0, .int x1])).length) Slot.unset).toArray = ls at hl ⊢
  have hl : lv_has ls 4 [(0, .ref h0), (1, .int x1)] := hl
  refine z_genQ (fun Q hQ => ?_)
  refine lv_aload_n hx hb dX10_addTurn_0 rfl (lv_at hl 0 rfl) ?_
  refine va_get (D := D) (ci := 10) (v := .ref h1) (C := RX10) (T := TX10) (N := 16) hx hb hts hinX10 hown hK hP 0 rfl rfl 0 (by decide) (hts (.fieldLink RX10 7 "GyroTrainerModel" "at" "[I") (List.mem_of_getElem? (i := 1) rfl)) (fun _ h9 => h9) rfl dX10_addTurn_1 ?_
  refine lv_bipush (v := 13) hx hb dX10_addTurn_4 (by decide) ?_
  refine z_iald (k := 13) hx hb hK hP 1 1 rfl rfl rfl (by decide) (by decide) dX10_addTurn_6 ?_
  refine lv_bipush (v := 8) hx hb dX10_addTurn_7 (by decide) ?_
  refine lv_icmp_ge (tgt := 22) hx hb dX10_addTurn_9 (by decide) (fun c_1 => ?_) (fun c_1 => ?_)
  · skip
    have hc9 : ¬ t < 8 := fun h => nI_ge (a := t) (b := 8) h (by decide) (by rw [ht] at c_1; exact c_1)
    refine lv_bipush (v := 7) hx hb dX10_addTurn_22 (by decide) ?_
    refine lv_istore_n (lv' := [(2, .int (nI 7)), (0, .ref h0), (1, .int x1)]) hx hb dX10_addTurn_24 rfl hl (by decide) rfl (fun ls hl => ?_)
    refine lv_iload_n hx hb dX10_addTurn_25 rfl (lv_at hl 0 rfl) ?_
    refine lv_istore_n (lv' := [(3, .int (nI 7)), (2, .int (nI 7)), (0, .ref h0), (1, .int x1)]) hx hb dX10_addTurn_26 rfl hl (by decide) rfl (fun ls hl => ?_)
    have L27 : ∀ (zn : Nat) (k : Nat), k < zn → (k ≤ 7) → ∀ (H : Heap) (locs : List Loc), va_P D vwCl [(h0, .inr (10, [.ref h1, .ref h2, .ref h3, .ref h4, .ref h5, .ref h6, .int v.2.2.2.2.2.2.1, .ref h7, .ref h8, .ref h9, .ref h10, .int v.2.2.2.2.2.2.2.2.2.2.2.1, .int v.2.2.2.2.2.2.2.2.2.2.2.2.1, .int v.2.2.2.2.2.2.2.2.2.2.2.2.2.1, .ref h11, .int v.2.2.2.2.2.2.2.2.2.2.2.2.2.2.2])), (h1, .inl ((cA 1), 85, .inl (ztu 7 k v.1))), (h2, .inl ((cA 0), 9, .inr (.inl (zcu 1 7 k v.2.1)))), (h3, .inl ((cA 1), 85, .inl v.2.2.1)), (h4, .inl ((cA 0), 9, .inr (.inl v.2.2.2.1))), (h5, .inl ((cA 1), 510, .inl v.2.2.2.2.1)), (h6, .inl ((cA 0), 54, .inr (.inl v.2.2.2.2.2.1))), (h7, .inl ((cA 1), 170, .inl v.2.2.2.2.2.2.2.1)), (h8, .inl ((cA 0), 18, .inr (.inl v.2.2.2.2.2.2.2.2.1))), (h9, .inl ((cA 2), 2, .inl v.2.2.2.2.2.2.2.2.2.1)), (h10, .inl ((cA 1), 80, .inl v.2.2.2.2.2.2.2.2.2.2.1)), (h11, .inl ((cA 1), 60, .inl v.2.2.2.2.2.2.2.2.2.2.2.2.2.2.1))] H → va_D A [(h0, .inr (10, [.ref h1, .ref h2, .ref h3, .ref h4, .ref h5, .ref h6, .int v.2.2.2.2.2.2.1, .ref h7, .ref h8, .ref h9, .ref h10, .int v.2.2.2.2.2.2.2.2.2.2.2.1, .int v.2.2.2.2.2.2.2.2.2.2.2.2.1, .int v.2.2.2.2.2.2.2.2.2.2.2.2.2.1, .ref h11, .int v.2.2.2.2.2.2.2.2.2.2.2.2.2.2.2])), (h1, .inl ((cA 1), 85, .inl (ztu 7 k v.1))), (h2, .inl ((cA 0), 9, .inr (.inl (zcu 1 7 k v.2.1)))), (h3, .inl ((cA 1), 85, .inl v.2.2.1)), (h4, .inl ((cA 0), 9, .inr (.inl v.2.2.2.1))), (h5, .inl ((cA 1), 510, .inl v.2.2.2.2.1)), (h6, .inl ((cA 0), 54, .inr (.inl v.2.2.2.2.2.1))), (h7, .inl ((cA 1), 170, .inl v.2.2.2.2.2.2.2.1)), (h8, .inl ((cA 0), 18, .inr (.inl v.2.2.2.2.2.2.2.2.1))), (h9, .inl ((cA 2), 2, .inl v.2.2.2.2.2.2.2.2.2.1)), (h10, .inl ((cA 1), 80, .inl v.2.2.2.2.2.2.2.2.2.2.1)), (h11, .inl ((cA 1), 60, .inl v.2.2.2.2.2.2.2.2.2.2.2.2.2.2.1))] → va_S A s.heap H locs → ∀ (ls : Array Slot), lv_has ls 4 [(3, .int (nI k)), (2, .int (nI 7)), (0, .ref h0), (1, .int x1)] → W p l e (headSpec wsX10_addTurn ({ frames := 0, cells := 0, slots := 0, locals := 0 })).room s m (([.ref h0, .int x1] : List Value).toArray) below meth c H locs 0 0 Q (F0 m 27 ls []) := by
      intro zn
      induction zn with
      | zero =>
        intro k hm
        exact absurd hm (Nat.not_lt_zero _)
      | succ zn ih =>
        intro k hm hk H locs hP hD hS ls hl
        refine lv_iload_n hx hb dX10_addTurn_27 rfl (lv_at hl 0 rfl) ?_
        refine lv_if_le (tgt := 101) hx hb dX10_addTurn_28 (by decide) (fun c_2 => ?_) (fun c_2 => ?_)
        · skip
          have ek0 : k = 0 := Nat.eq_zero_of_not_pos (fun h => nI_nle h (by omega) c_2)
          subst ek0
          refine lv_aload_n hx hb dX10_addTurn_101 rfl (lv_at hl 2 rfl) ?_
          refine va_get (D := D) (ci := 10) (v := .ref h1) (C := RX10) (T := TX10) (N := 16) hx hb hts hinX10 hown hK hP 0 rfl rfl 0 (by decide) (hts (.fieldLink RX10 7 "GyroTrainerModel" "at" "[I") (List.mem_of_getElem? (i := 1) rfl)) (fun _ h9 => h9) rfl dX10_addTurn_102 ?_
          refine lv_bipush (v := 58) hx hb dX10_addTurn_105 (by decide) ?_
          refine lv_iload_n hx hb dX10_addTurn_107 rfl (lv_at hl 3 rfl) ?_
          refine z_iast (k := 58) hx hb hK hP hD hS 1 1 rfl rfl rfl (by decide) (by decide) dX10_addTurn_108 (fun g_3 eg_3 H locs hP hD hS => ?_)
          have hP : va_P D vwCl [(h0, .inr (10, [.ref h1, .ref h2, .ref h3, .ref h4, .ref h5, .ref h6, .int v.2.2.2.2.2.2.1, .ref h7, .ref h8, .ref h9, .ref h10, .int v.2.2.2.2.2.2.2.2.2.2.2.1, .int v.2.2.2.2.2.2.2.2.2.2.2.2.1, .int v.2.2.2.2.2.2.2.2.2.2.2.2.2.1, .ref h11, .int v.2.2.2.2.2.2.2.2.2.2.2.2.2.2.2])), (h1, .inl ((cA 1), 85, .inl g_3)), (h2, .inl ((cA 0), 9, .inr (.inl (zcu 1 7 0 v.2.1)))), (h3, .inl ((cA 1), 85, .inl v.2.2.1)), (h4, .inl ((cA 0), 9, .inr (.inl v.2.2.2.1))), (h5, .inl ((cA 1), 510, .inl v.2.2.2.2.1)), (h6, .inl ((cA 0), 54, .inr (.inl v.2.2.2.2.2.1))), (h7, .inl ((cA 1), 170, .inl v.2.2.2.2.2.2.2.1)), (h8, .inl ((cA 0), 18, .inr (.inl v.2.2.2.2.2.2.2.2.1))), (h9, .inl ((cA 2), 2, .inl v.2.2.2.2.2.2.2.2.2.1)), (h10, .inl ((cA 1), 80, .inl v.2.2.2.2.2.2.2.2.2.2.1)), (h11, .inl ((cA 1), 60, .inl v.2.2.2.2.2.2.2.2.2.2.2.2.2.2.1))] H := hP
          have hD : va_D A [(h0, .inr (10, [.ref h1, .ref h2, .ref h3, .ref h4, .ref h5, .ref h6, .int v.2.2.2.2.2.2.1, .ref h7, .ref h8, .ref h9, .ref h10, .int v.2.2.2.2.2.2.2.2.2.2.2.1, .int v.2.2.2.2.2.2.2.2.2.2.2.2.1, .int v.2.2.2.2.2.2.2.2.2.2.2.2.2.1, .ref h11, .int v.2.2.2.2.2.2.2.2.2.2.2.2.2.2.2])), (h1, .inl ((cA 1), 85, .inl g_3)), (h2, .inl ((cA 0), 9, .inr (.inl (zcu 1 7 0 v.2.1)))), (h3, .inl ((cA 1), 85, .inl v.2.2.1)), (h4, .inl ((cA 0), 9, .inr (.inl v.2.2.2.1))), (h5, .inl ((cA 1), 510, .inl v.2.2.2.2.1)), (h6, .inl ((cA 0), 54, .inr (.inl v.2.2.2.2.2.1))), (h7, .inl ((cA 1), 170, .inl v.2.2.2.2.2.2.2.1)), (h8, .inl ((cA 0), 18, .inr (.inl v.2.2.2.2.2.2.2.2.1))), (h9, .inl ((cA 2), 2, .inl v.2.2.2.2.2.2.2.2.2.1)), (h10, .inl ((cA 1), 80, .inl v.2.2.2.2.2.2.2.2.2.2.1)), (h11, .inl ((cA 1), 60, .inl v.2.2.2.2.2.2.2.2.2.2.2.2.2.2.1))] := hD
          refine lv_aload_n hx hb dX10_addTurn_109 rfl (lv_at hl 2 rfl) ?_
          refine va_get (D := D) (ci := 10) (v := .ref h1) (C := RX10) (T := TX10) (N := 16) hx hb hts hinX10 hown hK hP 0 rfl rfl 0 (by decide) (hts (.fieldLink RX10 7 "GyroTrainerModel" "at" "[I") (List.mem_of_getElem? (i := 1) rfl)) (fun _ h9 => h9) rfl dX10_addTurn_110 ?_
          refine lv_bipush (v := 59) hx hb dX10_addTurn_113 (by decide) ?_
          refine lv_aload_n hx hb dX10_addTurn_115 rfl (lv_at hl 2 rfl) ?_
          refine va_get (D := D) (ci := 10) (v := .ref h1) (C := RX10) (T := TX10) (N := 16) hx hb hts hinX10 hown hK hP 0 rfl rfl 0 (by decide) (hts (.fieldLink RX10 7 "GyroTrainerModel" "at" "[I") (List.mem_of_getElem? (i := 1) rfl)) (fun _ h9 => h9) rfl dX10_addTurn_116 ?_
          refine lv_bipush (v := 10) hx hb dX10_addTurn_119 (by decide) ?_
          refine z_iald (k := 10) hx hb hK hP 1 1 rfl rfl rfl (by decide) (by decide) dX10_addTurn_121 ?_
          refine z_iast (k := 59) hx hb hK hP hD hS 1 1 rfl rfl rfl (by decide) (by decide) dX10_addTurn_122 (fun g_4 eg_4 H locs hP hD hS => ?_)
          have hP : va_P D vwCl [(h0, .inr (10, [.ref h1, .ref h2, .ref h3, .ref h4, .ref h5, .ref h6, .int v.2.2.2.2.2.2.1, .ref h7, .ref h8, .ref h9, .ref h10, .int v.2.2.2.2.2.2.2.2.2.2.2.1, .int v.2.2.2.2.2.2.2.2.2.2.2.2.1, .int v.2.2.2.2.2.2.2.2.2.2.2.2.2.1, .ref h11, .int v.2.2.2.2.2.2.2.2.2.2.2.2.2.2.2])), (h1, .inl ((cA 1), 85, .inl g_4)), (h2, .inl ((cA 0), 9, .inr (.inl (zcu 1 7 0 v.2.1)))), (h3, .inl ((cA 1), 85, .inl v.2.2.1)), (h4, .inl ((cA 0), 9, .inr (.inl v.2.2.2.1))), (h5, .inl ((cA 1), 510, .inl v.2.2.2.2.1)), (h6, .inl ((cA 0), 54, .inr (.inl v.2.2.2.2.2.1))), (h7, .inl ((cA 1), 170, .inl v.2.2.2.2.2.2.2.1)), (h8, .inl ((cA 0), 18, .inr (.inl v.2.2.2.2.2.2.2.2.1))), (h9, .inl ((cA 2), 2, .inl v.2.2.2.2.2.2.2.2.2.1)), (h10, .inl ((cA 1), 80, .inl v.2.2.2.2.2.2.2.2.2.2.1)), (h11, .inl ((cA 1), 60, .inl v.2.2.2.2.2.2.2.2.2.2.2.2.2.2.1))] H := hP
          have hD : va_D A [(h0, .inr (10, [.ref h1, .ref h2, .ref h3, .ref h4, .ref h5, .ref h6, .int v.2.2.2.2.2.2.1, .ref h7, .ref h8, .ref h9, .ref h10, .int v.2.2.2.2.2.2.2.2.2.2.2.1, .int v.2.2.2.2.2.2.2.2.2.2.2.2.1, .int v.2.2.2.2.2.2.2.2.2.2.2.2.2.1, .ref h11, .int v.2.2.2.2.2.2.2.2.2.2.2.2.2.2.2])), (h1, .inl ((cA 1), 85, .inl g_4)), (h2, .inl ((cA 0), 9, .inr (.inl (zcu 1 7 0 v.2.1)))), (h3, .inl ((cA 1), 85, .inl v.2.2.1)), (h4, .inl ((cA 0), 9, .inr (.inl v.2.2.2.1))), (h5, .inl ((cA 1), 510, .inl v.2.2.2.2.1)), (h6, .inl ((cA 0), 54, .inr (.inl v.2.2.2.2.2.1))), (h7, .inl ((cA 1), 170, .inl v.2.2.2.2.2.2.2.1)), (h8, .inl ((cA 0), 18, .inr (.inl v.2.2.2.2.2.2.2.2.1))), (h9, .inl ((cA 2), 2, .inl v.2.2.2.2.2.2.2.2.2.1)), (h10, .inl ((cA 1), 80, .inl v.2.2.2.2.2.2.2.2.2.2.1)), (h11, .inl ((cA 1), 60, .inl v.2.2.2.2.2.2.2.2.2.2.2.2.2.2.1))] := hD
          refine lv_aload_n hx hb dX10_addTurn_123 rfl (lv_at hl 2 rfl) ?_
          refine va_get (D := D) (ci := 10) (v := .ref h2) (C := RX10) (T := TX10) (N := 16) hx hb hts hinX10 hown hK hP 0 rfl rfl 1 (by decide) (hts (.fieldLink RX10 13 "GyroTrainerModel" "sums" "[J") (List.mem_of_getElem? (i := 2) rfl)) (fun _ h9 => h9) rfl dX10_addTurn_124 ?_
          refine lv_iconst (v := 1) hx hb dX10_addTurn_127 (by decide) ?_
          refine lv_aload_n hx hb dX10_addTurn_128 rfl (lv_at hl 2 rfl) ?_
          refine va_get (D := D) (ci := 10) (v := .ref h2) (C := RX10) (T := TX10) (N := 16) hx hb hts hinX10 hown hK hP 0 rfl rfl 1 (by decide) (hts (.fieldLink RX10 13 "GyroTrainerModel" "sums" "[J") (List.mem_of_getElem? (i := 2) rfl)) (fun _ h9 => h9) rfl dX10_addTurn_129 ?_
          refine lv_iconst (v := 0) hx hb dX10_addTurn_132 (by decide) ?_
          refine z_lald (k := 0) hx hb hK hP 2 0 rfl rfl rfl (by decide) (by decide) dX10_addTurn_133 ?_
          refine z_last (k := 1) hx hb hK hP hD hS 2 0 rfl rfl rfl (by decide) (by decide) dX10_addTurn_134 (fun g_5 eg_5 H locs hP hD hS => ?_)
          have hP : va_P D vwCl [(h0, .inr (10, [.ref h1, .ref h2, .ref h3, .ref h4, .ref h5, .ref h6, .int v.2.2.2.2.2.2.1, .ref h7, .ref h8, .ref h9, .ref h10, .int v.2.2.2.2.2.2.2.2.2.2.2.1, .int v.2.2.2.2.2.2.2.2.2.2.2.2.1, .int v.2.2.2.2.2.2.2.2.2.2.2.2.2.1, .ref h11, .int v.2.2.2.2.2.2.2.2.2.2.2.2.2.2.2])), (h1, .inl ((cA 1), 85, .inl g_4)), (h2, .inl ((cA 0), 9, .inr (.inl g_5))), (h3, .inl ((cA 1), 85, .inl v.2.2.1)), (h4, .inl ((cA 0), 9, .inr (.inl v.2.2.2.1))), (h5, .inl ((cA 1), 510, .inl v.2.2.2.2.1)), (h6, .inl ((cA 0), 54, .inr (.inl v.2.2.2.2.2.1))), (h7, .inl ((cA 1), 170, .inl v.2.2.2.2.2.2.2.1)), (h8, .inl ((cA 0), 18, .inr (.inl v.2.2.2.2.2.2.2.2.1))), (h9, .inl ((cA 2), 2, .inl v.2.2.2.2.2.2.2.2.2.1)), (h10, .inl ((cA 1), 80, .inl v.2.2.2.2.2.2.2.2.2.2.1)), (h11, .inl ((cA 1), 60, .inl v.2.2.2.2.2.2.2.2.2.2.2.2.2.2.1))] H := hP
          have hD : va_D A [(h0, .inr (10, [.ref h1, .ref h2, .ref h3, .ref h4, .ref h5, .ref h6, .int v.2.2.2.2.2.2.1, .ref h7, .ref h8, .ref h9, .ref h10, .int v.2.2.2.2.2.2.2.2.2.2.2.1, .int v.2.2.2.2.2.2.2.2.2.2.2.2.1, .int v.2.2.2.2.2.2.2.2.2.2.2.2.2.1, .ref h11, .int v.2.2.2.2.2.2.2.2.2.2.2.2.2.2.2])), (h1, .inl ((cA 1), 85, .inl g_4)), (h2, .inl ((cA 0), 9, .inr (.inl g_5))), (h3, .inl ((cA 1), 85, .inl v.2.2.1)), (h4, .inl ((cA 0), 9, .inr (.inl v.2.2.2.1))), (h5, .inl ((cA 1), 510, .inl v.2.2.2.2.1)), (h6, .inl ((cA 0), 54, .inr (.inl v.2.2.2.2.2.1))), (h7, .inl ((cA 1), 170, .inl v.2.2.2.2.2.2.2.1)), (h8, .inl ((cA 0), 18, .inr (.inl v.2.2.2.2.2.2.2.2.1))), (h9, .inl ((cA 2), 2, .inl v.2.2.2.2.2.2.2.2.2.1)), (h10, .inl ((cA 1), 80, .inl v.2.2.2.2.2.2.2.2.2.2.1)), (h11, .inl ((cA 1), 60, .inl v.2.2.2.2.2.2.2.2.2.2.2.2.2.2.1))] := hD
          refine lv_aload_n hx hb dX10_addTurn_135 rfl (lv_at hl 2 rfl) ?_
          refine va_get (D := D) (ci := 10) (v := .ref h1) (C := RX10) (T := TX10) (N := 16) hx hb hts hinX10 hown hK hP 0 rfl rfl 0 (by decide) (hts (.fieldLink RX10 7 "GyroTrainerModel" "at" "[I") (List.mem_of_getElem? (i := 1) rfl)) (fun _ h9 => h9) rfl dX10_addTurn_136 ?_
          refine lv_bipush (v := 13) hx hb dX10_addTurn_139 (by decide) ?_
          refine lv_iload_n hx hb dX10_addTurn_141 rfl (lv_at hl 1 rfl) ?_
          refine lv_iconst (v := 1) hx hb dX10_addTurn_142 (by decide) ?_
          refine lv_iadd hx hb dX10_addTurn_143 ?_
          rw [show ((nI 7) + (1 : Int32)) = nI (7 + 1) from nI_1 _]
          refine z_iast (k := 13) hx hb hK hP hD hS 1 1 rfl rfl rfl (by decide) (by decide) dX10_addTurn_144 (fun g_6 eg_6 H locs hP hD hS => ?_)
          have hP : va_P D vwCl [(h0, .inr (10, [.ref h1, .ref h2, .ref h3, .ref h4, .ref h5, .ref h6, .int v.2.2.2.2.2.2.1, .ref h7, .ref h8, .ref h9, .ref h10, .int v.2.2.2.2.2.2.2.2.2.2.2.1, .int v.2.2.2.2.2.2.2.2.2.2.2.2.1, .int v.2.2.2.2.2.2.2.2.2.2.2.2.2.1, .ref h11, .int v.2.2.2.2.2.2.2.2.2.2.2.2.2.2.2])), (h1, .inl ((cA 1), 85, .inl g_6)), (h2, .inl ((cA 0), 9, .inr (.inl g_5))), (h3, .inl ((cA 1), 85, .inl v.2.2.1)), (h4, .inl ((cA 0), 9, .inr (.inl v.2.2.2.1))), (h5, .inl ((cA 1), 510, .inl v.2.2.2.2.1)), (h6, .inl ((cA 0), 54, .inr (.inl v.2.2.2.2.2.1))), (h7, .inl ((cA 1), 170, .inl v.2.2.2.2.2.2.2.1)), (h8, .inl ((cA 0), 18, .inr (.inl v.2.2.2.2.2.2.2.2.1))), (h9, .inl ((cA 2), 2, .inl v.2.2.2.2.2.2.2.2.2.1)), (h10, .inl ((cA 1), 80, .inl v.2.2.2.2.2.2.2.2.2.2.1)), (h11, .inl ((cA 1), 60, .inl v.2.2.2.2.2.2.2.2.2.2.2.2.2.2.1))] H := hP
          have hD : va_D A [(h0, .inr (10, [.ref h1, .ref h2, .ref h3, .ref h4, .ref h5, .ref h6, .int v.2.2.2.2.2.2.1, .ref h7, .ref h8, .ref h9, .ref h10, .int v.2.2.2.2.2.2.2.2.2.2.2.1, .int v.2.2.2.2.2.2.2.2.2.2.2.2.1, .int v.2.2.2.2.2.2.2.2.2.2.2.2.2.1, .ref h11, .int v.2.2.2.2.2.2.2.2.2.2.2.2.2.2.2])), (h1, .inl ((cA 1), 85, .inl g_6)), (h2, .inl ((cA 0), 9, .inr (.inl g_5))), (h3, .inl ((cA 1), 85, .inl v.2.2.1)), (h4, .inl ((cA 0), 9, .inr (.inl v.2.2.2.1))), (h5, .inl ((cA 1), 510, .inl v.2.2.2.2.1)), (h6, .inl ((cA 0), 54, .inr (.inl v.2.2.2.2.2.1))), (h7, .inl ((cA 1), 170, .inl v.2.2.2.2.2.2.2.1)), (h8, .inl ((cA 0), 18, .inr (.inl v.2.2.2.2.2.2.2.2.1))), (h9, .inl ((cA 2), 2, .inl v.2.2.2.2.2.2.2.2.2.1)), (h10, .inl ((cA 1), 80, .inl v.2.2.2.2.2.2.2.2.2.2.1)), (h11, .inl ((cA 1), 60, .inl v.2.2.2.2.2.2.2.2.2.2.2.2.2.2.1))] := hD
          refine lv_aload_n hx hb dX10_addTurn_145 rfl (lv_at hl 2 rfl) ?_
          refine va_get (D := D) (ci := 10) (v := .ref h1) (C := RX10) (T := TX10) (N := 16) hx hb hts hinX10 hown hK hP 0 rfl rfl 0 (by decide) (hts (.fieldLink RX10 7 "GyroTrainerModel" "at" "[I") (List.mem_of_getElem? (i := 1) rfl)) (fun _ h9 => h9) rfl dX10_addTurn_146 ?_
          refine lv_bipush (v := 14) hx hb dX10_addTurn_149 (by decide) ?_
          refine lv_dup2_11 hx hb dX10_addTurn_151 rfl rfl ?_
          refine z_iald (k := 14) hx hb hK hP 1 1 rfl rfl rfl (by decide) (by decide) dX10_addTurn_152 ?_
          refine lv_iconst (v := 1) hx hb dX10_addTurn_153 (by decide) ?_
          refine lv_iadd hx hb dX10_addTurn_154 ?_
          refine z_iast (k := 14) hx hb hK hP hD hS 1 1 rfl rfl rfl (by decide) (by decide) dX10_addTurn_155 (fun g_7 eg_7 H locs hP hD hS => ?_)
          have hP : va_P D vwCl [(h0, .inr (10, [.ref h1, .ref h2, .ref h3, .ref h4, .ref h5, .ref h6, .int v.2.2.2.2.2.2.1, .ref h7, .ref h8, .ref h9, .ref h10, .int v.2.2.2.2.2.2.2.2.2.2.2.1, .int v.2.2.2.2.2.2.2.2.2.2.2.2.1, .int v.2.2.2.2.2.2.2.2.2.2.2.2.2.1, .ref h11, .int v.2.2.2.2.2.2.2.2.2.2.2.2.2.2.2])), (h1, .inl ((cA 1), 85, .inl g_7)), (h2, .inl ((cA 0), 9, .inr (.inl g_5))), (h3, .inl ((cA 1), 85, .inl v.2.2.1)), (h4, .inl ((cA 0), 9, .inr (.inl v.2.2.2.1))), (h5, .inl ((cA 1), 510, .inl v.2.2.2.2.1)), (h6, .inl ((cA 0), 54, .inr (.inl v.2.2.2.2.2.1))), (h7, .inl ((cA 1), 170, .inl v.2.2.2.2.2.2.2.1)), (h8, .inl ((cA 0), 18, .inr (.inl v.2.2.2.2.2.2.2.2.1))), (h9, .inl ((cA 2), 2, .inl v.2.2.2.2.2.2.2.2.2.1)), (h10, .inl ((cA 1), 80, .inl v.2.2.2.2.2.2.2.2.2.2.1)), (h11, .inl ((cA 1), 60, .inl v.2.2.2.2.2.2.2.2.2.2.2.2.2.2.1))] H := hP
          have hD : va_D A [(h0, .inr (10, [.ref h1, .ref h2, .ref h3, .ref h4, .ref h5, .ref h6, .int v.2.2.2.2.2.2.1, .ref h7, .ref h8, .ref h9, .ref h10, .int v.2.2.2.2.2.2.2.2.2.2.2.1, .int v.2.2.2.2.2.2.2.2.2.2.2.2.1, .int v.2.2.2.2.2.2.2.2.2.2.2.2.2.1, .ref h11, .int v.2.2.2.2.2.2.2.2.2.2.2.2.2.2.2])), (h1, .inl ((cA 1), 85, .inl g_7)), (h2, .inl ((cA 0), 9, .inr (.inl g_5))), (h3, .inl ((cA 1), 85, .inl v.2.2.1)), (h4, .inl ((cA 0), 9, .inr (.inl v.2.2.2.1))), (h5, .inl ((cA 1), 510, .inl v.2.2.2.2.1)), (h6, .inl ((cA 0), 54, .inr (.inl v.2.2.2.2.2.1))), (h7, .inl ((cA 1), 170, .inl v.2.2.2.2.2.2.2.1)), (h8, .inl ((cA 0), 18, .inr (.inl v.2.2.2.2.2.2.2.2.1))), (h9, .inl ((cA 2), 2, .inl v.2.2.2.2.2.2.2.2.2.1)), (h10, .inl ((cA 1), 80, .inl v.2.2.2.2.2.2.2.2.2.2.1)), (h11, .inl ((cA 1), 60, .inl v.2.2.2.2.2.2.2.2.2.2.2.2.2.2.1))] := hD
          have e9 : (fm_addTurn t v x1) = (g_7, g_5, v.2.2) := by unfold fm_addTurn fm_tn2 fm_tn1 fm_tns; simp only [if_neg hc9, ← eg_3, ← eg_4, ← eg_5, ← eg_6, ← eg_7]
          have hP9 : va_P D vwCl (wX10 cA h0 h1 h2 h3 h4 h5 h6 h7 h8 h9 h10 h11 ((g_7, g_5, v.2.2) : vX10)) H := hP
          have hD9 : va_D A (wX10 cA h0 h1 h2 h3 h4 h5 h6 h7 h8 h9 h10 h11 ((g_7, g_5, v.2.2) : vX10)) := hD
          subst hQ
          exact W.vret hx hb hr (fun t ht hW => ⟨⟨(g_7, g_5, v.2.2), rfl, e9.symm, ⟨by rw [ht]; exact hP9, va_K.moved hW.alike hK, hD9⟩⟩, hS.F ht⟩) hS.2.2 dX10_addTurn_156
        · skip
          have hk0 : 0 < k := Nat.pos_of_ne_zero (fun h => c_2 (by rw [h]; decide))
          refine lv_aload_n hx hb dX10_addTurn_31 rfl (lv_at hl 2 rfl) ?_
          refine va_get (D := D) (ci := 10) (v := .ref h1) (C := RX10) (T := TX10) (N := 16) hx hb hts hinX10 hown hK hP 0 rfl rfl 0 (by decide) (hts (.fieldLink RX10 7 "GyroTrainerModel" "at" "[I") (List.mem_of_getElem? (i := 1) rfl)) (fun _ h9 => h9) rfl dX10_addTurn_32 ?_
          refine lv_bipush (v := 58) hx hb dX10_addTurn_35 (by decide) ?_
          refine lv_iconst (v := 2) hx hb dX10_addTurn_37 (by decide) ?_
          refine lv_iload_n hx hb dX10_addTurn_38 rfl (lv_at hl 0 rfl) ?_
          refine lv_imul hx hb dX10_addTurn_39 ?_
          refine lv_iadd hx hb dX10_addTurn_40 ?_
          refine lv_aload_n hx hb dX10_addTurn_41 rfl (lv_at hl 2 rfl) ?_
          refine va_get (D := D) (ci := 10) (v := .ref h1) (C := RX10) (T := TX10) (N := 16) hx hb hts hinX10 hown hK hP 0 rfl rfl 0 (by decide) (hts (.fieldLink RX10 7 "GyroTrainerModel" "at" "[I") (List.mem_of_getElem? (i := 1) rfl)) (fun _ h9 => h9) rfl dX10_addTurn_42 ?_
          refine lv_bipush (v := 58) hx hb dX10_addTurn_45 (by decide) ?_
          refine lv_iconst (v := 2) hx hb dX10_addTurn_47 (by decide) ?_
          refine lv_iload_n hx hb dX10_addTurn_48 rfl (lv_at hl 0 rfl) ?_
          refine lv_imul hx hb dX10_addTurn_49 ?_
          refine lv_iadd hx hb dX10_addTurn_50 ?_
          refine lv_iconst (v := 2) hx hb dX10_addTurn_51 (by decide) ?_
          refine lv_isub hx hb dX10_addTurn_52 ?_
          refine z_iald (k := (58 + 2 * k - 2)) hx hb hK hP 1 1 rfl rfl (by rw [show (58 : Int32) + 2 * nI k = nI (58 + 2 * k) from zm_ix 58 2 k]; exact pk_sub (a := 58 + 2 * k) (b := 2) (by omega)) (by omega) (by decide) dX10_addTurn_53 ?_
          refine z_iast (k := (58 + 2 * k)) hx hb hK hP hD hS 1 1 rfl rfl (zm_ix 58 2 k) (by omega) (by decide) dX10_addTurn_54 (fun g_8 eg_8 H locs hP hD hS => ?_)
          have hP : va_P D vwCl [(h0, .inr (10, [.ref h1, .ref h2, .ref h3, .ref h4, .ref h5, .ref h6, .int v.2.2.2.2.2.2.1, .ref h7, .ref h8, .ref h9, .ref h10, .int v.2.2.2.2.2.2.2.2.2.2.2.1, .int v.2.2.2.2.2.2.2.2.2.2.2.2.1, .int v.2.2.2.2.2.2.2.2.2.2.2.2.2.1, .ref h11, .int v.2.2.2.2.2.2.2.2.2.2.2.2.2.2.2])), (h1, .inl ((cA 1), 85, .inl g_8)), (h2, .inl ((cA 0), 9, .inr (.inl (zcu 1 7 k v.2.1)))), (h3, .inl ((cA 1), 85, .inl v.2.2.1)), (h4, .inl ((cA 0), 9, .inr (.inl v.2.2.2.1))), (h5, .inl ((cA 1), 510, .inl v.2.2.2.2.1)), (h6, .inl ((cA 0), 54, .inr (.inl v.2.2.2.2.2.1))), (h7, .inl ((cA 1), 170, .inl v.2.2.2.2.2.2.2.1)), (h8, .inl ((cA 0), 18, .inr (.inl v.2.2.2.2.2.2.2.2.1))), (h9, .inl ((cA 2), 2, .inl v.2.2.2.2.2.2.2.2.2.1)), (h10, .inl ((cA 1), 80, .inl v.2.2.2.2.2.2.2.2.2.2.1)), (h11, .inl ((cA 1), 60, .inl v.2.2.2.2.2.2.2.2.2.2.2.2.2.2.1))] H := hP
          have hD : va_D A [(h0, .inr (10, [.ref h1, .ref h2, .ref h3, .ref h4, .ref h5, .ref h6, .int v.2.2.2.2.2.2.1, .ref h7, .ref h8, .ref h9, .ref h10, .int v.2.2.2.2.2.2.2.2.2.2.2.1, .int v.2.2.2.2.2.2.2.2.2.2.2.2.1, .int v.2.2.2.2.2.2.2.2.2.2.2.2.2.1, .ref h11, .int v.2.2.2.2.2.2.2.2.2.2.2.2.2.2.2])), (h1, .inl ((cA 1), 85, .inl g_8)), (h2, .inl ((cA 0), 9, .inr (.inl (zcu 1 7 k v.2.1)))), (h3, .inl ((cA 1), 85, .inl v.2.2.1)), (h4, .inl ((cA 0), 9, .inr (.inl v.2.2.2.1))), (h5, .inl ((cA 1), 510, .inl v.2.2.2.2.1)), (h6, .inl ((cA 0), 54, .inr (.inl v.2.2.2.2.2.1))), (h7, .inl ((cA 1), 170, .inl v.2.2.2.2.2.2.2.1)), (h8, .inl ((cA 0), 18, .inr (.inl v.2.2.2.2.2.2.2.2.1))), (h9, .inl ((cA 2), 2, .inl v.2.2.2.2.2.2.2.2.2.1)), (h10, .inl ((cA 1), 80, .inl v.2.2.2.2.2.2.2.2.2.2.1)), (h11, .inl ((cA 1), 60, .inl v.2.2.2.2.2.2.2.2.2.2.2.2.2.2.1))] := hD
          refine lv_aload_n hx hb dX10_addTurn_55 rfl (lv_at hl 2 rfl) ?_
          refine va_get (D := D) (ci := 10) (v := .ref h1) (C := RX10) (T := TX10) (N := 16) hx hb hts hinX10 hown hK hP 0 rfl rfl 0 (by decide) (hts (.fieldLink RX10 7 "GyroTrainerModel" "at" "[I") (List.mem_of_getElem? (i := 1) rfl)) (fun _ h9 => h9) rfl dX10_addTurn_56 ?_
          refine lv_bipush (v := 58) hx hb dX10_addTurn_59 (by decide) ?_
          refine lv_iconst (v := 2) hx hb dX10_addTurn_61 (by decide) ?_
          refine lv_iload_n hx hb dX10_addTurn_62 rfl (lv_at hl 0 rfl) ?_
          refine lv_imul hx hb dX10_addTurn_63 ?_
          refine lv_iadd hx hb dX10_addTurn_64 ?_
          refine lv_iconst (v := 1) hx hb dX10_addTurn_65 (by decide) ?_
          refine lv_iadd hx hb dX10_addTurn_66 ?_
          refine lv_aload_n hx hb dX10_addTurn_67 rfl (lv_at hl 2 rfl) ?_
          refine va_get (D := D) (ci := 10) (v := .ref h1) (C := RX10) (T := TX10) (N := 16) hx hb hts hinX10 hown hK hP 0 rfl rfl 0 (by decide) (hts (.fieldLink RX10 7 "GyroTrainerModel" "at" "[I") (List.mem_of_getElem? (i := 1) rfl)) (fun _ h9 => h9) rfl dX10_addTurn_68 ?_
          refine lv_bipush (v := 58) hx hb dX10_addTurn_71 (by decide) ?_
          refine lv_iconst (v := 2) hx hb dX10_addTurn_73 (by decide) ?_
          refine lv_iload_n hx hb dX10_addTurn_74 rfl (lv_at hl 0 rfl) ?_
          refine lv_imul hx hb dX10_addTurn_75 ?_
          refine lv_iadd hx hb dX10_addTurn_76 ?_
          refine lv_iconst (v := 1) hx hb dX10_addTurn_77 (by decide) ?_
          refine lv_isub hx hb dX10_addTurn_78 ?_
          refine z_iald (k := (58 + 2 * k - 1)) hx hb hK hP 1 1 rfl rfl (by rw [show (58 : Int32) + 2 * nI k = nI (58 + 2 * k) from zm_ix 58 2 k]; exact z_pred1 (by omega)) (by omega) (by decide) dX10_addTurn_79 ?_
          refine z_iast (k := (58 + 2 * k + 1)) hx hb hK hP hD hS 1 1 rfl rfl (by rw [show (58 : Int32) + 2 * nI k = nI (58 + 2 * k) from zm_ix 58 2 k]; exact nI_add (58 + 2 * k) 1) (by omega) (by decide) dX10_addTurn_80 (fun g_9 eg_9 H locs hP hD hS => ?_)
          have hP : va_P D vwCl [(h0, .inr (10, [.ref h1, .ref h2, .ref h3, .ref h4, .ref h5, .ref h6, .int v.2.2.2.2.2.2.1, .ref h7, .ref h8, .ref h9, .ref h10, .int v.2.2.2.2.2.2.2.2.2.2.2.1, .int v.2.2.2.2.2.2.2.2.2.2.2.2.1, .int v.2.2.2.2.2.2.2.2.2.2.2.2.2.1, .ref h11, .int v.2.2.2.2.2.2.2.2.2.2.2.2.2.2.2])), (h1, .inl ((cA 1), 85, .inl g_9)), (h2, .inl ((cA 0), 9, .inr (.inl (zcu 1 7 k v.2.1)))), (h3, .inl ((cA 1), 85, .inl v.2.2.1)), (h4, .inl ((cA 0), 9, .inr (.inl v.2.2.2.1))), (h5, .inl ((cA 1), 510, .inl v.2.2.2.2.1)), (h6, .inl ((cA 0), 54, .inr (.inl v.2.2.2.2.2.1))), (h7, .inl ((cA 1), 170, .inl v.2.2.2.2.2.2.2.1)), (h8, .inl ((cA 0), 18, .inr (.inl v.2.2.2.2.2.2.2.2.1))), (h9, .inl ((cA 2), 2, .inl v.2.2.2.2.2.2.2.2.2.1)), (h10, .inl ((cA 1), 80, .inl v.2.2.2.2.2.2.2.2.2.2.1)), (h11, .inl ((cA 1), 60, .inl v.2.2.2.2.2.2.2.2.2.2.2.2.2.2.1))] H := hP
          have hD : va_D A [(h0, .inr (10, [.ref h1, .ref h2, .ref h3, .ref h4, .ref h5, .ref h6, .int v.2.2.2.2.2.2.1, .ref h7, .ref h8, .ref h9, .ref h10, .int v.2.2.2.2.2.2.2.2.2.2.2.1, .int v.2.2.2.2.2.2.2.2.2.2.2.2.1, .int v.2.2.2.2.2.2.2.2.2.2.2.2.2.1, .ref h11, .int v.2.2.2.2.2.2.2.2.2.2.2.2.2.2.2])), (h1, .inl ((cA 1), 85, .inl g_9)), (h2, .inl ((cA 0), 9, .inr (.inl (zcu 1 7 k v.2.1)))), (h3, .inl ((cA 1), 85, .inl v.2.2.1)), (h4, .inl ((cA 0), 9, .inr (.inl v.2.2.2.1))), (h5, .inl ((cA 1), 510, .inl v.2.2.2.2.1)), (h6, .inl ((cA 0), 54, .inr (.inl v.2.2.2.2.2.1))), (h7, .inl ((cA 1), 170, .inl v.2.2.2.2.2.2.2.1)), (h8, .inl ((cA 0), 18, .inr (.inl v.2.2.2.2.2.2.2.2.1))), (h9, .inl ((cA 2), 2, .inl v.2.2.2.2.2.2.2.2.2.1)), (h10, .inl ((cA 1), 80, .inl v.2.2.2.2.2.2.2.2.2.2.1)), (h11, .inl ((cA 1), 60, .inl v.2.2.2.2.2.2.2.2.2.2.2.2.2.2.1))] := hD
          refine lv_aload_n hx hb dX10_addTurn_81 rfl (lv_at hl 2 rfl) ?_
          refine va_get (D := D) (ci := 10) (v := .ref h2) (C := RX10) (T := TX10) (N := 16) hx hb hts hinX10 hown hK hP 0 rfl rfl 1 (by decide) (hts (.fieldLink RX10 13 "GyroTrainerModel" "sums" "[J") (List.mem_of_getElem? (i := 2) rfl)) (fun _ h9 => h9) rfl dX10_addTurn_82 ?_
          refine lv_iconst (v := 1) hx hb dX10_addTurn_85 (by decide) ?_
          refine lv_iload_n hx hb dX10_addTurn_86 rfl (lv_at hl 0 rfl) ?_
          refine lv_iadd hx hb dX10_addTurn_87 ?_
          refine lv_aload_n hx hb dX10_addTurn_88 rfl (lv_at hl 2 rfl) ?_
          refine va_get (D := D) (ci := 10) (v := .ref h2) (C := RX10) (T := TX10) (N := 16) hx hb hts hinX10 hown hK hP 0 rfl rfl 1 (by decide) (hts (.fieldLink RX10 13 "GyroTrainerModel" "sums" "[J") (List.mem_of_getElem? (i := 2) rfl)) (fun _ h9 => h9) rfl dX10_addTurn_89 ?_
          refine lv_iload_n hx hb dX10_addTurn_92 rfl (lv_at hl 0 rfl) ?_
          refine z_lald (k := k) hx hb hK hP 2 0 rfl rfl rfl (by omega) (by decide) dX10_addTurn_93 ?_
          refine z_last (k := (1 + k)) hx hb hK hP hD hS 2 0 rfl rfl (nI_add 1 k) (by omega) (by decide) dX10_addTurn_94 (fun g_10 eg_10 H locs hP hD hS => ?_)
          have hP : va_P D vwCl [(h0, .inr (10, [.ref h1, .ref h2, .ref h3, .ref h4, .ref h5, .ref h6, .int v.2.2.2.2.2.2.1, .ref h7, .ref h8, .ref h9, .ref h10, .int v.2.2.2.2.2.2.2.2.2.2.2.1, .int v.2.2.2.2.2.2.2.2.2.2.2.2.1, .int v.2.2.2.2.2.2.2.2.2.2.2.2.2.1, .ref h11, .int v.2.2.2.2.2.2.2.2.2.2.2.2.2.2.2])), (h1, .inl ((cA 1), 85, .inl g_9)), (h2, .inl ((cA 0), 9, .inr (.inl g_10))), (h3, .inl ((cA 1), 85, .inl v.2.2.1)), (h4, .inl ((cA 0), 9, .inr (.inl v.2.2.2.1))), (h5, .inl ((cA 1), 510, .inl v.2.2.2.2.1)), (h6, .inl ((cA 0), 54, .inr (.inl v.2.2.2.2.2.1))), (h7, .inl ((cA 1), 170, .inl v.2.2.2.2.2.2.2.1)), (h8, .inl ((cA 0), 18, .inr (.inl v.2.2.2.2.2.2.2.2.1))), (h9, .inl ((cA 2), 2, .inl v.2.2.2.2.2.2.2.2.2.1)), (h10, .inl ((cA 1), 80, .inl v.2.2.2.2.2.2.2.2.2.2.1)), (h11, .inl ((cA 1), 60, .inl v.2.2.2.2.2.2.2.2.2.2.2.2.2.2.1))] H := hP
          have hD : va_D A [(h0, .inr (10, [.ref h1, .ref h2, .ref h3, .ref h4, .ref h5, .ref h6, .int v.2.2.2.2.2.2.1, .ref h7, .ref h8, .ref h9, .ref h10, .int v.2.2.2.2.2.2.2.2.2.2.2.1, .int v.2.2.2.2.2.2.2.2.2.2.2.2.1, .int v.2.2.2.2.2.2.2.2.2.2.2.2.2.1, .ref h11, .int v.2.2.2.2.2.2.2.2.2.2.2.2.2.2.2])), (h1, .inl ((cA 1), 85, .inl g_9)), (h2, .inl ((cA 0), 9, .inr (.inl g_10))), (h3, .inl ((cA 1), 85, .inl v.2.2.1)), (h4, .inl ((cA 0), 9, .inr (.inl v.2.2.2.1))), (h5, .inl ((cA 1), 510, .inl v.2.2.2.2.1)), (h6, .inl ((cA 0), 54, .inr (.inl v.2.2.2.2.2.1))), (h7, .inl ((cA 1), 170, .inl v.2.2.2.2.2.2.2.1)), (h8, .inl ((cA 0), 18, .inr (.inl v.2.2.2.2.2.2.2.2.1))), (h9, .inl ((cA 2), 2, .inl v.2.2.2.2.2.2.2.2.2.1)), (h10, .inl ((cA 1), 80, .inl v.2.2.2.2.2.2.2.2.2.2.1)), (h11, .inl ((cA 1), 60, .inl v.2.2.2.2.2.2.2.2.2.2.2.2.2.2.1))] := hD
          refine lv_iinc (v := (nI (k - 1))) (lv' := [(3, .int (nI (k - 1))), (2, .int (nI 7)), (0, .ref h0), (1, .int x1)]) hx hb dX10_addTurn_95 hl (k := 0) rfl (sb_m1 hk0) (by decide) rfl (fun ls hl => ?_)
          refine lv_goto (tgt := 27) hx hb dX10_addTurn_98 (by decide) ?_
          subst eg_8
          rw [ztu_s hk0 hk] at eg_9
          subst eg_9
          rw [zcu_s1 hk0 hk] at eg_10
          subst eg_10
          exact ih (k - 1) (by omega) (by omega) _ _ hP hD hS ls (lv_sub hl [0, 1, 2, 3] rfl)
    exact L27 (7 + 1) (7) (by omega) (Nat.le_refl _) _ _ (by rw [ztu_0, zcu_0]; exact hP) (by rw [ztu_0, zcu_0]; exact hD) hS ls (lv_sub hl [0, 1, 2, 3] rfl)
  · skip
    have hc9 : t < 8 := Nat.lt_of_not_le (fun h => c_1 (by rw [ht]; exact nI_le (a := 8) (b := t) h (by omega)))
    refine lv_aload_n hx hb dX10_addTurn_12 rfl (lv_at hl 0 rfl) ?_
    refine va_get (D := D) (ci := 10) (v := .ref h1) (C := RX10) (T := TX10) (N := 16) hx hb hts hinX10 hown hK hP 0 rfl rfl 0 (by decide) (hts (.fieldLink RX10 7 "GyroTrainerModel" "at" "[I") (List.mem_of_getElem? (i := 1) rfl)) (fun _ h9 => h9) rfl dX10_addTurn_13 ?_
    refine lv_bipush (v := 13) hx hb dX10_addTurn_16 (by decide) ?_
    refine z_iald (k := 13) hx hb hK hP 1 1 rfl rfl rfl (by decide) (by decide) dX10_addTurn_18 ?_
    refine lv_goto (tgt := 24) hx hb dX10_addTurn_19 (by decide) ?_
    rw [ht]
    refine lv_istore_n (lv' := [(2, .int (nI t)), (0, .ref h0), (1, .int x1)]) hx hb dX10_addTurn_24 rfl hl (by decide) rfl (fun ls hl => ?_)
    refine lv_iload_n hx hb dX10_addTurn_25 rfl (lv_at hl 0 rfl) ?_
    refine lv_istore_n (lv' := [(3, .int (nI t)), (2, .int (nI t)), (0, .ref h0), (1, .int x1)]) hx hb dX10_addTurn_26 rfl hl (by decide) rfl (fun ls hl => ?_)
    have L27 : ∀ (zn : Nat) (k : Nat), k < zn → (k ≤ t) → ∀ (H : Heap) (locs : List Loc), va_P D vwCl [(h0, .inr (10, [.ref h1, .ref h2, .ref h3, .ref h4, .ref h5, .ref h6, .int v.2.2.2.2.2.2.1, .ref h7, .ref h8, .ref h9, .ref h10, .int v.2.2.2.2.2.2.2.2.2.2.2.1, .int v.2.2.2.2.2.2.2.2.2.2.2.2.1, .int v.2.2.2.2.2.2.2.2.2.2.2.2.2.1, .ref h11, .int v.2.2.2.2.2.2.2.2.2.2.2.2.2.2.2])), (h1, .inl ((cA 1), 85, .inl (ztu t k v.1))), (h2, .inl ((cA 0), 9, .inr (.inl (zcu 1 t k v.2.1)))), (h3, .inl ((cA 1), 85, .inl v.2.2.1)), (h4, .inl ((cA 0), 9, .inr (.inl v.2.2.2.1))), (h5, .inl ((cA 1), 510, .inl v.2.2.2.2.1)), (h6, .inl ((cA 0), 54, .inr (.inl v.2.2.2.2.2.1))), (h7, .inl ((cA 1), 170, .inl v.2.2.2.2.2.2.2.1)), (h8, .inl ((cA 0), 18, .inr (.inl v.2.2.2.2.2.2.2.2.1))), (h9, .inl ((cA 2), 2, .inl v.2.2.2.2.2.2.2.2.2.1)), (h10, .inl ((cA 1), 80, .inl v.2.2.2.2.2.2.2.2.2.2.1)), (h11, .inl ((cA 1), 60, .inl v.2.2.2.2.2.2.2.2.2.2.2.2.2.2.1))] H → va_D A [(h0, .inr (10, [.ref h1, .ref h2, .ref h3, .ref h4, .ref h5, .ref h6, .int v.2.2.2.2.2.2.1, .ref h7, .ref h8, .ref h9, .ref h10, .int v.2.2.2.2.2.2.2.2.2.2.2.1, .int v.2.2.2.2.2.2.2.2.2.2.2.2.1, .int v.2.2.2.2.2.2.2.2.2.2.2.2.2.1, .ref h11, .int v.2.2.2.2.2.2.2.2.2.2.2.2.2.2.2])), (h1, .inl ((cA 1), 85, .inl (ztu t k v.1))), (h2, .inl ((cA 0), 9, .inr (.inl (zcu 1 t k v.2.1)))), (h3, .inl ((cA 1), 85, .inl v.2.2.1)), (h4, .inl ((cA 0), 9, .inr (.inl v.2.2.2.1))), (h5, .inl ((cA 1), 510, .inl v.2.2.2.2.1)), (h6, .inl ((cA 0), 54, .inr (.inl v.2.2.2.2.2.1))), (h7, .inl ((cA 1), 170, .inl v.2.2.2.2.2.2.2.1)), (h8, .inl ((cA 0), 18, .inr (.inl v.2.2.2.2.2.2.2.2.1))), (h9, .inl ((cA 2), 2, .inl v.2.2.2.2.2.2.2.2.2.1)), (h10, .inl ((cA 1), 80, .inl v.2.2.2.2.2.2.2.2.2.2.1)), (h11, .inl ((cA 1), 60, .inl v.2.2.2.2.2.2.2.2.2.2.2.2.2.2.1))] → va_S A s.heap H locs → ∀ (ls : Array Slot), lv_has ls 4 [(3, .int (nI k)), (2, .int (nI t)), (0, .ref h0), (1, .int x1)] → W p l e (headSpec wsX10_addTurn ({ frames := 0, cells := 0, slots := 0, locals := 0 })).room s m (([.ref h0, .int x1] : List Value).toArray) below meth c H locs 0 0 Q (F0 m 27 ls []) := by
      intro zn
      induction zn with
      | zero =>
        intro k hm
        exact absurd hm (Nat.not_lt_zero _)
      | succ zn ih =>
        intro k hm hk H locs hP hD hS ls hl
        refine lv_iload_n hx hb dX10_addTurn_27 rfl (lv_at hl 0 rfl) ?_
        refine lv_if_le (tgt := 101) hx hb dX10_addTurn_28 (by decide) (fun c_11 => ?_) (fun c_11 => ?_)
        · skip
          have ek0 : k = 0 := Nat.eq_zero_of_not_pos (fun h => nI_nle h (by omega) c_11)
          subst ek0
          refine lv_aload_n hx hb dX10_addTurn_101 rfl (lv_at hl 2 rfl) ?_
          refine va_get (D := D) (ci := 10) (v := .ref h1) (C := RX10) (T := TX10) (N := 16) hx hb hts hinX10 hown hK hP 0 rfl rfl 0 (by decide) (hts (.fieldLink RX10 7 "GyroTrainerModel" "at" "[I") (List.mem_of_getElem? (i := 1) rfl)) (fun _ h9 => h9) rfl dX10_addTurn_102 ?_
          refine lv_bipush (v := 58) hx hb dX10_addTurn_105 (by decide) ?_
          refine lv_iload_n hx hb dX10_addTurn_107 rfl (lv_at hl 3 rfl) ?_
          refine z_iast (k := 58) hx hb hK hP hD hS 1 1 rfl rfl rfl (by decide) (by decide) dX10_addTurn_108 (fun g_12 eg_12 H locs hP hD hS => ?_)
          have hP : va_P D vwCl [(h0, .inr (10, [.ref h1, .ref h2, .ref h3, .ref h4, .ref h5, .ref h6, .int v.2.2.2.2.2.2.1, .ref h7, .ref h8, .ref h9, .ref h10, .int v.2.2.2.2.2.2.2.2.2.2.2.1, .int v.2.2.2.2.2.2.2.2.2.2.2.2.1, .int v.2.2.2.2.2.2.2.2.2.2.2.2.2.1, .ref h11, .int v.2.2.2.2.2.2.2.2.2.2.2.2.2.2.2])), (h1, .inl ((cA 1), 85, .inl g_12)), (h2, .inl ((cA 0), 9, .inr (.inl (zcu 1 t 0 v.2.1)))), (h3, .inl ((cA 1), 85, .inl v.2.2.1)), (h4, .inl ((cA 0), 9, .inr (.inl v.2.2.2.1))), (h5, .inl ((cA 1), 510, .inl v.2.2.2.2.1)), (h6, .inl ((cA 0), 54, .inr (.inl v.2.2.2.2.2.1))), (h7, .inl ((cA 1), 170, .inl v.2.2.2.2.2.2.2.1)), (h8, .inl ((cA 0), 18, .inr (.inl v.2.2.2.2.2.2.2.2.1))), (h9, .inl ((cA 2), 2, .inl v.2.2.2.2.2.2.2.2.2.1)), (h10, .inl ((cA 1), 80, .inl v.2.2.2.2.2.2.2.2.2.2.1)), (h11, .inl ((cA 1), 60, .inl v.2.2.2.2.2.2.2.2.2.2.2.2.2.2.1))] H := hP
          have hD : va_D A [(h0, .inr (10, [.ref h1, .ref h2, .ref h3, .ref h4, .ref h5, .ref h6, .int v.2.2.2.2.2.2.1, .ref h7, .ref h8, .ref h9, .ref h10, .int v.2.2.2.2.2.2.2.2.2.2.2.1, .int v.2.2.2.2.2.2.2.2.2.2.2.2.1, .int v.2.2.2.2.2.2.2.2.2.2.2.2.2.1, .ref h11, .int v.2.2.2.2.2.2.2.2.2.2.2.2.2.2.2])), (h1, .inl ((cA 1), 85, .inl g_12)), (h2, .inl ((cA 0), 9, .inr (.inl (zcu 1 t 0 v.2.1)))), (h3, .inl ((cA 1), 85, .inl v.2.2.1)), (h4, .inl ((cA 0), 9, .inr (.inl v.2.2.2.1))), (h5, .inl ((cA 1), 510, .inl v.2.2.2.2.1)), (h6, .inl ((cA 0), 54, .inr (.inl v.2.2.2.2.2.1))), (h7, .inl ((cA 1), 170, .inl v.2.2.2.2.2.2.2.1)), (h8, .inl ((cA 0), 18, .inr (.inl v.2.2.2.2.2.2.2.2.1))), (h9, .inl ((cA 2), 2, .inl v.2.2.2.2.2.2.2.2.2.1)), (h10, .inl ((cA 1), 80, .inl v.2.2.2.2.2.2.2.2.2.2.1)), (h11, .inl ((cA 1), 60, .inl v.2.2.2.2.2.2.2.2.2.2.2.2.2.2.1))] := hD
          refine lv_aload_n hx hb dX10_addTurn_109 rfl (lv_at hl 2 rfl) ?_
          refine va_get (D := D) (ci := 10) (v := .ref h1) (C := RX10) (T := TX10) (N := 16) hx hb hts hinX10 hown hK hP 0 rfl rfl 0 (by decide) (hts (.fieldLink RX10 7 "GyroTrainerModel" "at" "[I") (List.mem_of_getElem? (i := 1) rfl)) (fun _ h9 => h9) rfl dX10_addTurn_110 ?_
          refine lv_bipush (v := 59) hx hb dX10_addTurn_113 (by decide) ?_
          refine lv_aload_n hx hb dX10_addTurn_115 rfl (lv_at hl 2 rfl) ?_
          refine va_get (D := D) (ci := 10) (v := .ref h1) (C := RX10) (T := TX10) (N := 16) hx hb hts hinX10 hown hK hP 0 rfl rfl 0 (by decide) (hts (.fieldLink RX10 7 "GyroTrainerModel" "at" "[I") (List.mem_of_getElem? (i := 1) rfl)) (fun _ h9 => h9) rfl dX10_addTurn_116 ?_
          refine lv_bipush (v := 10) hx hb dX10_addTurn_119 (by decide) ?_
          refine z_iald (k := 10) hx hb hK hP 1 1 rfl rfl rfl (by decide) (by decide) dX10_addTurn_121 ?_
          refine z_iast (k := 59) hx hb hK hP hD hS 1 1 rfl rfl rfl (by decide) (by decide) dX10_addTurn_122 (fun g_13 eg_13 H locs hP hD hS => ?_)
          have hP : va_P D vwCl [(h0, .inr (10, [.ref h1, .ref h2, .ref h3, .ref h4, .ref h5, .ref h6, .int v.2.2.2.2.2.2.1, .ref h7, .ref h8, .ref h9, .ref h10, .int v.2.2.2.2.2.2.2.2.2.2.2.1, .int v.2.2.2.2.2.2.2.2.2.2.2.2.1, .int v.2.2.2.2.2.2.2.2.2.2.2.2.2.1, .ref h11, .int v.2.2.2.2.2.2.2.2.2.2.2.2.2.2.2])), (h1, .inl ((cA 1), 85, .inl g_13)), (h2, .inl ((cA 0), 9, .inr (.inl (zcu 1 t 0 v.2.1)))), (h3, .inl ((cA 1), 85, .inl v.2.2.1)), (h4, .inl ((cA 0), 9, .inr (.inl v.2.2.2.1))), (h5, .inl ((cA 1), 510, .inl v.2.2.2.2.1)), (h6, .inl ((cA 0), 54, .inr (.inl v.2.2.2.2.2.1))), (h7, .inl ((cA 1), 170, .inl v.2.2.2.2.2.2.2.1)), (h8, .inl ((cA 0), 18, .inr (.inl v.2.2.2.2.2.2.2.2.1))), (h9, .inl ((cA 2), 2, .inl v.2.2.2.2.2.2.2.2.2.1)), (h10, .inl ((cA 1), 80, .inl v.2.2.2.2.2.2.2.2.2.2.1)), (h11, .inl ((cA 1), 60, .inl v.2.2.2.2.2.2.2.2.2.2.2.2.2.2.1))] H := hP
          have hD : va_D A [(h0, .inr (10, [.ref h1, .ref h2, .ref h3, .ref h4, .ref h5, .ref h6, .int v.2.2.2.2.2.2.1, .ref h7, .ref h8, .ref h9, .ref h10, .int v.2.2.2.2.2.2.2.2.2.2.2.1, .int v.2.2.2.2.2.2.2.2.2.2.2.2.1, .int v.2.2.2.2.2.2.2.2.2.2.2.2.2.1, .ref h11, .int v.2.2.2.2.2.2.2.2.2.2.2.2.2.2.2])), (h1, .inl ((cA 1), 85, .inl g_13)), (h2, .inl ((cA 0), 9, .inr (.inl (zcu 1 t 0 v.2.1)))), (h3, .inl ((cA 1), 85, .inl v.2.2.1)), (h4, .inl ((cA 0), 9, .inr (.inl v.2.2.2.1))), (h5, .inl ((cA 1), 510, .inl v.2.2.2.2.1)), (h6, .inl ((cA 0), 54, .inr (.inl v.2.2.2.2.2.1))), (h7, .inl ((cA 1), 170, .inl v.2.2.2.2.2.2.2.1)), (h8, .inl ((cA 0), 18, .inr (.inl v.2.2.2.2.2.2.2.2.1))), (h9, .inl ((cA 2), 2, .inl v.2.2.2.2.2.2.2.2.2.1)), (h10, .inl ((cA 1), 80, .inl v.2.2.2.2.2.2.2.2.2.2.1)), (h11, .inl ((cA 1), 60, .inl v.2.2.2.2.2.2.2.2.2.2.2.2.2.2.1))] := hD
          refine lv_aload_n hx hb dX10_addTurn_123 rfl (lv_at hl 2 rfl) ?_
          refine va_get (D := D) (ci := 10) (v := .ref h2) (C := RX10) (T := TX10) (N := 16) hx hb hts hinX10 hown hK hP 0 rfl rfl 1 (by decide) (hts (.fieldLink RX10 13 "GyroTrainerModel" "sums" "[J") (List.mem_of_getElem? (i := 2) rfl)) (fun _ h9 => h9) rfl dX10_addTurn_124 ?_
          refine lv_iconst (v := 1) hx hb dX10_addTurn_127 (by decide) ?_
          refine lv_aload_n hx hb dX10_addTurn_128 rfl (lv_at hl 2 rfl) ?_
          refine va_get (D := D) (ci := 10) (v := .ref h2) (C := RX10) (T := TX10) (N := 16) hx hb hts hinX10 hown hK hP 0 rfl rfl 1 (by decide) (hts (.fieldLink RX10 13 "GyroTrainerModel" "sums" "[J") (List.mem_of_getElem? (i := 2) rfl)) (fun _ h9 => h9) rfl dX10_addTurn_129 ?_
          refine lv_iconst (v := 0) hx hb dX10_addTurn_132 (by decide) ?_
          refine z_lald (k := 0) hx hb hK hP 2 0 rfl rfl rfl (by decide) (by decide) dX10_addTurn_133 ?_
          refine z_last (k := 1) hx hb hK hP hD hS 2 0 rfl rfl rfl (by decide) (by decide) dX10_addTurn_134 (fun g_14 eg_14 H locs hP hD hS => ?_)
          have hP : va_P D vwCl [(h0, .inr (10, [.ref h1, .ref h2, .ref h3, .ref h4, .ref h5, .ref h6, .int v.2.2.2.2.2.2.1, .ref h7, .ref h8, .ref h9, .ref h10, .int v.2.2.2.2.2.2.2.2.2.2.2.1, .int v.2.2.2.2.2.2.2.2.2.2.2.2.1, .int v.2.2.2.2.2.2.2.2.2.2.2.2.2.1, .ref h11, .int v.2.2.2.2.2.2.2.2.2.2.2.2.2.2.2])), (h1, .inl ((cA 1), 85, .inl g_13)), (h2, .inl ((cA 0), 9, .inr (.inl g_14))), (h3, .inl ((cA 1), 85, .inl v.2.2.1)), (h4, .inl ((cA 0), 9, .inr (.inl v.2.2.2.1))), (h5, .inl ((cA 1), 510, .inl v.2.2.2.2.1)), (h6, .inl ((cA 0), 54, .inr (.inl v.2.2.2.2.2.1))), (h7, .inl ((cA 1), 170, .inl v.2.2.2.2.2.2.2.1)), (h8, .inl ((cA 0), 18, .inr (.inl v.2.2.2.2.2.2.2.2.1))), (h9, .inl ((cA 2), 2, .inl v.2.2.2.2.2.2.2.2.2.1)), (h10, .inl ((cA 1), 80, .inl v.2.2.2.2.2.2.2.2.2.2.1)), (h11, .inl ((cA 1), 60, .inl v.2.2.2.2.2.2.2.2.2.2.2.2.2.2.1))] H := hP
          have hD : va_D A [(h0, .inr (10, [.ref h1, .ref h2, .ref h3, .ref h4, .ref h5, .ref h6, .int v.2.2.2.2.2.2.1, .ref h7, .ref h8, .ref h9, .ref h10, .int v.2.2.2.2.2.2.2.2.2.2.2.1, .int v.2.2.2.2.2.2.2.2.2.2.2.2.1, .int v.2.2.2.2.2.2.2.2.2.2.2.2.2.1, .ref h11, .int v.2.2.2.2.2.2.2.2.2.2.2.2.2.2.2])), (h1, .inl ((cA 1), 85, .inl g_13)), (h2, .inl ((cA 0), 9, .inr (.inl g_14))), (h3, .inl ((cA 1), 85, .inl v.2.2.1)), (h4, .inl ((cA 0), 9, .inr (.inl v.2.2.2.1))), (h5, .inl ((cA 1), 510, .inl v.2.2.2.2.1)), (h6, .inl ((cA 0), 54, .inr (.inl v.2.2.2.2.2.1))), (h7, .inl ((cA 1), 170, .inl v.2.2.2.2.2.2.2.1)), (h8, .inl ((cA 0), 18, .inr (.inl v.2.2.2.2.2.2.2.2.1))), (h9, .inl ((cA 2), 2, .inl v.2.2.2.2.2.2.2.2.2.1)), (h10, .inl ((cA 1), 80, .inl v.2.2.2.2.2.2.2.2.2.2.1)), (h11, .inl ((cA 1), 60, .inl v.2.2.2.2.2.2.2.2.2.2.2.2.2.2.1))] := hD
          refine lv_aload_n hx hb dX10_addTurn_135 rfl (lv_at hl 2 rfl) ?_
          refine va_get (D := D) (ci := 10) (v := .ref h1) (C := RX10) (T := TX10) (N := 16) hx hb hts hinX10 hown hK hP 0 rfl rfl 0 (by decide) (hts (.fieldLink RX10 7 "GyroTrainerModel" "at" "[I") (List.mem_of_getElem? (i := 1) rfl)) (fun _ h9 => h9) rfl dX10_addTurn_136 ?_
          refine lv_bipush (v := 13) hx hb dX10_addTurn_139 (by decide) ?_
          refine lv_iload_n hx hb dX10_addTurn_141 rfl (lv_at hl 1 rfl) ?_
          refine lv_iconst (v := 1) hx hb dX10_addTurn_142 (by decide) ?_
          refine lv_iadd hx hb dX10_addTurn_143 ?_
          rw [show ((nI t) + (1 : Int32)) = nI (t + 1) from nI_1 _]
          refine z_iast (k := 13) hx hb hK hP hD hS 1 1 rfl rfl rfl (by decide) (by decide) dX10_addTurn_144 (fun g_15 eg_15 H locs hP hD hS => ?_)
          have hP : va_P D vwCl [(h0, .inr (10, [.ref h1, .ref h2, .ref h3, .ref h4, .ref h5, .ref h6, .int v.2.2.2.2.2.2.1, .ref h7, .ref h8, .ref h9, .ref h10, .int v.2.2.2.2.2.2.2.2.2.2.2.1, .int v.2.2.2.2.2.2.2.2.2.2.2.2.1, .int v.2.2.2.2.2.2.2.2.2.2.2.2.2.1, .ref h11, .int v.2.2.2.2.2.2.2.2.2.2.2.2.2.2.2])), (h1, .inl ((cA 1), 85, .inl g_15)), (h2, .inl ((cA 0), 9, .inr (.inl g_14))), (h3, .inl ((cA 1), 85, .inl v.2.2.1)), (h4, .inl ((cA 0), 9, .inr (.inl v.2.2.2.1))), (h5, .inl ((cA 1), 510, .inl v.2.2.2.2.1)), (h6, .inl ((cA 0), 54, .inr (.inl v.2.2.2.2.2.1))), (h7, .inl ((cA 1), 170, .inl v.2.2.2.2.2.2.2.1)), (h8, .inl ((cA 0), 18, .inr (.inl v.2.2.2.2.2.2.2.2.1))), (h9, .inl ((cA 2), 2, .inl v.2.2.2.2.2.2.2.2.2.1)), (h10, .inl ((cA 1), 80, .inl v.2.2.2.2.2.2.2.2.2.2.1)), (h11, .inl ((cA 1), 60, .inl v.2.2.2.2.2.2.2.2.2.2.2.2.2.2.1))] H := hP
          have hD : va_D A [(h0, .inr (10, [.ref h1, .ref h2, .ref h3, .ref h4, .ref h5, .ref h6, .int v.2.2.2.2.2.2.1, .ref h7, .ref h8, .ref h9, .ref h10, .int v.2.2.2.2.2.2.2.2.2.2.2.1, .int v.2.2.2.2.2.2.2.2.2.2.2.2.1, .int v.2.2.2.2.2.2.2.2.2.2.2.2.2.1, .ref h11, .int v.2.2.2.2.2.2.2.2.2.2.2.2.2.2.2])), (h1, .inl ((cA 1), 85, .inl g_15)), (h2, .inl ((cA 0), 9, .inr (.inl g_14))), (h3, .inl ((cA 1), 85, .inl v.2.2.1)), (h4, .inl ((cA 0), 9, .inr (.inl v.2.2.2.1))), (h5, .inl ((cA 1), 510, .inl v.2.2.2.2.1)), (h6, .inl ((cA 0), 54, .inr (.inl v.2.2.2.2.2.1))), (h7, .inl ((cA 1), 170, .inl v.2.2.2.2.2.2.2.1)), (h8, .inl ((cA 0), 18, .inr (.inl v.2.2.2.2.2.2.2.2.1))), (h9, .inl ((cA 2), 2, .inl v.2.2.2.2.2.2.2.2.2.1)), (h10, .inl ((cA 1), 80, .inl v.2.2.2.2.2.2.2.2.2.2.1)), (h11, .inl ((cA 1), 60, .inl v.2.2.2.2.2.2.2.2.2.2.2.2.2.2.1))] := hD
          refine lv_aload_n hx hb dX10_addTurn_145 rfl (lv_at hl 2 rfl) ?_
          refine va_get (D := D) (ci := 10) (v := .ref h1) (C := RX10) (T := TX10) (N := 16) hx hb hts hinX10 hown hK hP 0 rfl rfl 0 (by decide) (hts (.fieldLink RX10 7 "GyroTrainerModel" "at" "[I") (List.mem_of_getElem? (i := 1) rfl)) (fun _ h9 => h9) rfl dX10_addTurn_146 ?_
          refine lv_bipush (v := 14) hx hb dX10_addTurn_149 (by decide) ?_
          refine lv_dup2_11 hx hb dX10_addTurn_151 rfl rfl ?_
          refine z_iald (k := 14) hx hb hK hP 1 1 rfl rfl rfl (by decide) (by decide) dX10_addTurn_152 ?_
          refine lv_iconst (v := 1) hx hb dX10_addTurn_153 (by decide) ?_
          refine lv_iadd hx hb dX10_addTurn_154 ?_
          refine z_iast (k := 14) hx hb hK hP hD hS 1 1 rfl rfl rfl (by decide) (by decide) dX10_addTurn_155 (fun g_16 eg_16 H locs hP hD hS => ?_)
          have hP : va_P D vwCl [(h0, .inr (10, [.ref h1, .ref h2, .ref h3, .ref h4, .ref h5, .ref h6, .int v.2.2.2.2.2.2.1, .ref h7, .ref h8, .ref h9, .ref h10, .int v.2.2.2.2.2.2.2.2.2.2.2.1, .int v.2.2.2.2.2.2.2.2.2.2.2.2.1, .int v.2.2.2.2.2.2.2.2.2.2.2.2.2.1, .ref h11, .int v.2.2.2.2.2.2.2.2.2.2.2.2.2.2.2])), (h1, .inl ((cA 1), 85, .inl g_16)), (h2, .inl ((cA 0), 9, .inr (.inl g_14))), (h3, .inl ((cA 1), 85, .inl v.2.2.1)), (h4, .inl ((cA 0), 9, .inr (.inl v.2.2.2.1))), (h5, .inl ((cA 1), 510, .inl v.2.2.2.2.1)), (h6, .inl ((cA 0), 54, .inr (.inl v.2.2.2.2.2.1))), (h7, .inl ((cA 1), 170, .inl v.2.2.2.2.2.2.2.1)), (h8, .inl ((cA 0), 18, .inr (.inl v.2.2.2.2.2.2.2.2.1))), (h9, .inl ((cA 2), 2, .inl v.2.2.2.2.2.2.2.2.2.1)), (h10, .inl ((cA 1), 80, .inl v.2.2.2.2.2.2.2.2.2.2.1)), (h11, .inl ((cA 1), 60, .inl v.2.2.2.2.2.2.2.2.2.2.2.2.2.2.1))] H := hP
          have hD : va_D A [(h0, .inr (10, [.ref h1, .ref h2, .ref h3, .ref h4, .ref h5, .ref h6, .int v.2.2.2.2.2.2.1, .ref h7, .ref h8, .ref h9, .ref h10, .int v.2.2.2.2.2.2.2.2.2.2.2.1, .int v.2.2.2.2.2.2.2.2.2.2.2.2.1, .int v.2.2.2.2.2.2.2.2.2.2.2.2.2.1, .ref h11, .int v.2.2.2.2.2.2.2.2.2.2.2.2.2.2.2])), (h1, .inl ((cA 1), 85, .inl g_16)), (h2, .inl ((cA 0), 9, .inr (.inl g_14))), (h3, .inl ((cA 1), 85, .inl v.2.2.1)), (h4, .inl ((cA 0), 9, .inr (.inl v.2.2.2.1))), (h5, .inl ((cA 1), 510, .inl v.2.2.2.2.1)), (h6, .inl ((cA 0), 54, .inr (.inl v.2.2.2.2.2.1))), (h7, .inl ((cA 1), 170, .inl v.2.2.2.2.2.2.2.1)), (h8, .inl ((cA 0), 18, .inr (.inl v.2.2.2.2.2.2.2.2.1))), (h9, .inl ((cA 2), 2, .inl v.2.2.2.2.2.2.2.2.2.1)), (h10, .inl ((cA 1), 80, .inl v.2.2.2.2.2.2.2.2.2.2.1)), (h11, .inl ((cA 1), 60, .inl v.2.2.2.2.2.2.2.2.2.2.2.2.2.2.1))] := hD
          have e9 : (fm_addTurn t v x1) = (g_16, g_14, v.2.2) := by unfold fm_addTurn fm_tn2 fm_tn1 fm_tns; simp only [if_pos hc9, ← eg_12, ← eg_13, ← eg_14, ← eg_15, ← eg_16]
          have hP9 : va_P D vwCl (wX10 cA h0 h1 h2 h3 h4 h5 h6 h7 h8 h9 h10 h11 ((g_16, g_14, v.2.2) : vX10)) H := hP
          have hD9 : va_D A (wX10 cA h0 h1 h2 h3 h4 h5 h6 h7 h8 h9 h10 h11 ((g_16, g_14, v.2.2) : vX10)) := hD
          subst hQ
          exact W.vret hx hb hr (fun t ht hW => ⟨⟨(g_16, g_14, v.2.2), rfl, e9.symm, ⟨by rw [ht]; exact hP9, va_K.moved hW.alike hK, hD9⟩⟩, hS.F ht⟩) hS.2.2 dX10_addTurn_156
        · skip
          have hk0 : 0 < k := Nat.pos_of_ne_zero (fun h => c_11 (by rw [h]; decide))
          refine lv_aload_n hx hb dX10_addTurn_31 rfl (lv_at hl 2 rfl) ?_
          refine va_get (D := D) (ci := 10) (v := .ref h1) (C := RX10) (T := TX10) (N := 16) hx hb hts hinX10 hown hK hP 0 rfl rfl 0 (by decide) (hts (.fieldLink RX10 7 "GyroTrainerModel" "at" "[I") (List.mem_of_getElem? (i := 1) rfl)) (fun _ h9 => h9) rfl dX10_addTurn_32 ?_
          refine lv_bipush (v := 58) hx hb dX10_addTurn_35 (by decide) ?_
          refine lv_iconst (v := 2) hx hb dX10_addTurn_37 (by decide) ?_
          refine lv_iload_n hx hb dX10_addTurn_38 rfl (lv_at hl 0 rfl) ?_
          refine lv_imul hx hb dX10_addTurn_39 ?_
          refine lv_iadd hx hb dX10_addTurn_40 ?_
          refine lv_aload_n hx hb dX10_addTurn_41 rfl (lv_at hl 2 rfl) ?_
          refine va_get (D := D) (ci := 10) (v := .ref h1) (C := RX10) (T := TX10) (N := 16) hx hb hts hinX10 hown hK hP 0 rfl rfl 0 (by decide) (hts (.fieldLink RX10 7 "GyroTrainerModel" "at" "[I") (List.mem_of_getElem? (i := 1) rfl)) (fun _ h9 => h9) rfl dX10_addTurn_42 ?_
          refine lv_bipush (v := 58) hx hb dX10_addTurn_45 (by decide) ?_
          refine lv_iconst (v := 2) hx hb dX10_addTurn_47 (by decide) ?_
          refine lv_iload_n hx hb dX10_addTurn_48 rfl (lv_at hl 0 rfl) ?_
          refine lv_imul hx hb dX10_addTurn_49 ?_
          refine lv_iadd hx hb dX10_addTurn_50 ?_
          refine lv_iconst (v := 2) hx hb dX10_addTurn_51 (by decide) ?_
          refine lv_isub hx hb dX10_addTurn_52 ?_
          refine z_iald (k := (58 + 2 * k - 2)) hx hb hK hP 1 1 rfl rfl (by rw [show (58 : Int32) + 2 * nI k = nI (58 + 2 * k) from zm_ix 58 2 k]; exact pk_sub (a := 58 + 2 * k) (b := 2) (by omega)) (by omega) (by decide) dX10_addTurn_53 ?_
          refine z_iast (k := (58 + 2 * k)) hx hb hK hP hD hS 1 1 rfl rfl (zm_ix 58 2 k) (by omega) (by decide) dX10_addTurn_54 (fun g_17 eg_17 H locs hP hD hS => ?_)
          have hP : va_P D vwCl [(h0, .inr (10, [.ref h1, .ref h2, .ref h3, .ref h4, .ref h5, .ref h6, .int v.2.2.2.2.2.2.1, .ref h7, .ref h8, .ref h9, .ref h10, .int v.2.2.2.2.2.2.2.2.2.2.2.1, .int v.2.2.2.2.2.2.2.2.2.2.2.2.1, .int v.2.2.2.2.2.2.2.2.2.2.2.2.2.1, .ref h11, .int v.2.2.2.2.2.2.2.2.2.2.2.2.2.2.2])), (h1, .inl ((cA 1), 85, .inl g_17)), (h2, .inl ((cA 0), 9, .inr (.inl (zcu 1 t k v.2.1)))), (h3, .inl ((cA 1), 85, .inl v.2.2.1)), (h4, .inl ((cA 0), 9, .inr (.inl v.2.2.2.1))), (h5, .inl ((cA 1), 510, .inl v.2.2.2.2.1)), (h6, .inl ((cA 0), 54, .inr (.inl v.2.2.2.2.2.1))), (h7, .inl ((cA 1), 170, .inl v.2.2.2.2.2.2.2.1)), (h8, .inl ((cA 0), 18, .inr (.inl v.2.2.2.2.2.2.2.2.1))), (h9, .inl ((cA 2), 2, .inl v.2.2.2.2.2.2.2.2.2.1)), (h10, .inl ((cA 1), 80, .inl v.2.2.2.2.2.2.2.2.2.2.1)), (h11, .inl ((cA 1), 60, .inl v.2.2.2.2.2.2.2.2.2.2.2.2.2.2.1))] H := hP
          have hD : va_D A [(h0, .inr (10, [.ref h1, .ref h2, .ref h3, .ref h4, .ref h5, .ref h6, .int v.2.2.2.2.2.2.1, .ref h7, .ref h8, .ref h9, .ref h10, .int v.2.2.2.2.2.2.2.2.2.2.2.1, .int v.2.2.2.2.2.2.2.2.2.2.2.2.1, .int v.2.2.2.2.2.2.2.2.2.2.2.2.2.1, .ref h11, .int v.2.2.2.2.2.2.2.2.2.2.2.2.2.2.2])), (h1, .inl ((cA 1), 85, .inl g_17)), (h2, .inl ((cA 0), 9, .inr (.inl (zcu 1 t k v.2.1)))), (h3, .inl ((cA 1), 85, .inl v.2.2.1)), (h4, .inl ((cA 0), 9, .inr (.inl v.2.2.2.1))), (h5, .inl ((cA 1), 510, .inl v.2.2.2.2.1)), (h6, .inl ((cA 0), 54, .inr (.inl v.2.2.2.2.2.1))), (h7, .inl ((cA 1), 170, .inl v.2.2.2.2.2.2.2.1)), (h8, .inl ((cA 0), 18, .inr (.inl v.2.2.2.2.2.2.2.2.1))), (h9, .inl ((cA 2), 2, .inl v.2.2.2.2.2.2.2.2.2.1)), (h10, .inl ((cA 1), 80, .inl v.2.2.2.2.2.2.2.2.2.2.1)), (h11, .inl ((cA 1), 60, .inl v.2.2.2.2.2.2.2.2.2.2.2.2.2.2.1))] := hD
          refine lv_aload_n hx hb dX10_addTurn_55 rfl (lv_at hl 2 rfl) ?_
          refine va_get (D := D) (ci := 10) (v := .ref h1) (C := RX10) (T := TX10) (N := 16) hx hb hts hinX10 hown hK hP 0 rfl rfl 0 (by decide) (hts (.fieldLink RX10 7 "GyroTrainerModel" "at" "[I") (List.mem_of_getElem? (i := 1) rfl)) (fun _ h9 => h9) rfl dX10_addTurn_56 ?_
          refine lv_bipush (v := 58) hx hb dX10_addTurn_59 (by decide) ?_
          refine lv_iconst (v := 2) hx hb dX10_addTurn_61 (by decide) ?_
          refine lv_iload_n hx hb dX10_addTurn_62 rfl (lv_at hl 0 rfl) ?_
          refine lv_imul hx hb dX10_addTurn_63 ?_
          refine lv_iadd hx hb dX10_addTurn_64 ?_
          refine lv_iconst (v := 1) hx hb dX10_addTurn_65 (by decide) ?_
          refine lv_iadd hx hb dX10_addTurn_66 ?_
          refine lv_aload_n hx hb dX10_addTurn_67 rfl (lv_at hl 2 rfl) ?_
          refine va_get (D := D) (ci := 10) (v := .ref h1) (C := RX10) (T := TX10) (N := 16) hx hb hts hinX10 hown hK hP 0 rfl rfl 0 (by decide) (hts (.fieldLink RX10 7 "GyroTrainerModel" "at" "[I") (List.mem_of_getElem? (i := 1) rfl)) (fun _ h9 => h9) rfl dX10_addTurn_68 ?_
          refine lv_bipush (v := 58) hx hb dX10_addTurn_71 (by decide) ?_
          refine lv_iconst (v := 2) hx hb dX10_addTurn_73 (by decide) ?_
          refine lv_iload_n hx hb dX10_addTurn_74 rfl (lv_at hl 0 rfl) ?_
          refine lv_imul hx hb dX10_addTurn_75 ?_
          refine lv_iadd hx hb dX10_addTurn_76 ?_
          refine lv_iconst (v := 1) hx hb dX10_addTurn_77 (by decide) ?_
          refine lv_isub hx hb dX10_addTurn_78 ?_
          refine z_iald (k := (58 + 2 * k - 1)) hx hb hK hP 1 1 rfl rfl (by rw [show (58 : Int32) + 2 * nI k = nI (58 + 2 * k) from zm_ix 58 2 k]; exact z_pred1 (by omega)) (by omega) (by decide) dX10_addTurn_79 ?_
          refine z_iast (k := (58 + 2 * k + 1)) hx hb hK hP hD hS 1 1 rfl rfl (by rw [show (58 : Int32) + 2 * nI k = nI (58 + 2 * k) from zm_ix 58 2 k]; exact nI_add (58 + 2 * k) 1) (by omega) (by decide) dX10_addTurn_80 (fun g_18 eg_18 H locs hP hD hS => ?_)
          have hP : va_P D vwCl [(h0, .inr (10, [.ref h1, .ref h2, .ref h3, .ref h4, .ref h5, .ref h6, .int v.2.2.2.2.2.2.1, .ref h7, .ref h8, .ref h9, .ref h10, .int v.2.2.2.2.2.2.2.2.2.2.2.1, .int v.2.2.2.2.2.2.2.2.2.2.2.2.1, .int v.2.2.2.2.2.2.2.2.2.2.2.2.2.1, .ref h11, .int v.2.2.2.2.2.2.2.2.2.2.2.2.2.2.2])), (h1, .inl ((cA 1), 85, .inl g_18)), (h2, .inl ((cA 0), 9, .inr (.inl (zcu 1 t k v.2.1)))), (h3, .inl ((cA 1), 85, .inl v.2.2.1)), (h4, .inl ((cA 0), 9, .inr (.inl v.2.2.2.1))), (h5, .inl ((cA 1), 510, .inl v.2.2.2.2.1)), (h6, .inl ((cA 0), 54, .inr (.inl v.2.2.2.2.2.1))), (h7, .inl ((cA 1), 170, .inl v.2.2.2.2.2.2.2.1)), (h8, .inl ((cA 0), 18, .inr (.inl v.2.2.2.2.2.2.2.2.1))), (h9, .inl ((cA 2), 2, .inl v.2.2.2.2.2.2.2.2.2.1)), (h10, .inl ((cA 1), 80, .inl v.2.2.2.2.2.2.2.2.2.2.1)), (h11, .inl ((cA 1), 60, .inl v.2.2.2.2.2.2.2.2.2.2.2.2.2.2.1))] H := hP
          have hD : va_D A [(h0, .inr (10, [.ref h1, .ref h2, .ref h3, .ref h4, .ref h5, .ref h6, .int v.2.2.2.2.2.2.1, .ref h7, .ref h8, .ref h9, .ref h10, .int v.2.2.2.2.2.2.2.2.2.2.2.1, .int v.2.2.2.2.2.2.2.2.2.2.2.2.1, .int v.2.2.2.2.2.2.2.2.2.2.2.2.2.1, .ref h11, .int v.2.2.2.2.2.2.2.2.2.2.2.2.2.2.2])), (h1, .inl ((cA 1), 85, .inl g_18)), (h2, .inl ((cA 0), 9, .inr (.inl (zcu 1 t k v.2.1)))), (h3, .inl ((cA 1), 85, .inl v.2.2.1)), (h4, .inl ((cA 0), 9, .inr (.inl v.2.2.2.1))), (h5, .inl ((cA 1), 510, .inl v.2.2.2.2.1)), (h6, .inl ((cA 0), 54, .inr (.inl v.2.2.2.2.2.1))), (h7, .inl ((cA 1), 170, .inl v.2.2.2.2.2.2.2.1)), (h8, .inl ((cA 0), 18, .inr (.inl v.2.2.2.2.2.2.2.2.1))), (h9, .inl ((cA 2), 2, .inl v.2.2.2.2.2.2.2.2.2.1)), (h10, .inl ((cA 1), 80, .inl v.2.2.2.2.2.2.2.2.2.2.1)), (h11, .inl ((cA 1), 60, .inl v.2.2.2.2.2.2.2.2.2.2.2.2.2.2.1))] := hD
          refine lv_aload_n hx hb dX10_addTurn_81 rfl (lv_at hl 2 rfl) ?_
          refine va_get (D := D) (ci := 10) (v := .ref h2) (C := RX10) (T := TX10) (N := 16) hx hb hts hinX10 hown hK hP 0 rfl rfl 1 (by decide) (hts (.fieldLink RX10 13 "GyroTrainerModel" "sums" "[J") (List.mem_of_getElem? (i := 2) rfl)) (fun _ h9 => h9) rfl dX10_addTurn_82 ?_
          refine lv_iconst (v := 1) hx hb dX10_addTurn_85 (by decide) ?_
          refine lv_iload_n hx hb dX10_addTurn_86 rfl (lv_at hl 0 rfl) ?_
          refine lv_iadd hx hb dX10_addTurn_87 ?_
          refine lv_aload_n hx hb dX10_addTurn_88 rfl (lv_at hl 2 rfl) ?_
          refine va_get (D := D) (ci := 10) (v := .ref h2) (C := RX10) (T := TX10) (N := 16) hx hb hts hinX10 hown hK hP 0 rfl rfl 1 (by decide) (hts (.fieldLink RX10 13 "GyroTrainerModel" "sums" "[J") (List.mem_of_getElem? (i := 2) rfl)) (fun _ h9 => h9) rfl dX10_addTurn_89 ?_
          refine lv_iload_n hx hb dX10_addTurn_92 rfl (lv_at hl 0 rfl) ?_
          refine z_lald (k := k) hx hb hK hP 2 0 rfl rfl rfl (by omega) (by decide) dX10_addTurn_93 ?_
          refine z_last (k := (1 + k)) hx hb hK hP hD hS 2 0 rfl rfl (nI_add 1 k) (by omega) (by decide) dX10_addTurn_94 (fun g_19 eg_19 H locs hP hD hS => ?_)
          have hP : va_P D vwCl [(h0, .inr (10, [.ref h1, .ref h2, .ref h3, .ref h4, .ref h5, .ref h6, .int v.2.2.2.2.2.2.1, .ref h7, .ref h8, .ref h9, .ref h10, .int v.2.2.2.2.2.2.2.2.2.2.2.1, .int v.2.2.2.2.2.2.2.2.2.2.2.2.1, .int v.2.2.2.2.2.2.2.2.2.2.2.2.2.1, .ref h11, .int v.2.2.2.2.2.2.2.2.2.2.2.2.2.2.2])), (h1, .inl ((cA 1), 85, .inl g_18)), (h2, .inl ((cA 0), 9, .inr (.inl g_19))), (h3, .inl ((cA 1), 85, .inl v.2.2.1)), (h4, .inl ((cA 0), 9, .inr (.inl v.2.2.2.1))), (h5, .inl ((cA 1), 510, .inl v.2.2.2.2.1)), (h6, .inl ((cA 0), 54, .inr (.inl v.2.2.2.2.2.1))), (h7, .inl ((cA 1), 170, .inl v.2.2.2.2.2.2.2.1)), (h8, .inl ((cA 0), 18, .inr (.inl v.2.2.2.2.2.2.2.2.1))), (h9, .inl ((cA 2), 2, .inl v.2.2.2.2.2.2.2.2.2.1)), (h10, .inl ((cA 1), 80, .inl v.2.2.2.2.2.2.2.2.2.2.1)), (h11, .inl ((cA 1), 60, .inl v.2.2.2.2.2.2.2.2.2.2.2.2.2.2.1))] H := hP
          have hD : va_D A [(h0, .inr (10, [.ref h1, .ref h2, .ref h3, .ref h4, .ref h5, .ref h6, .int v.2.2.2.2.2.2.1, .ref h7, .ref h8, .ref h9, .ref h10, .int v.2.2.2.2.2.2.2.2.2.2.2.1, .int v.2.2.2.2.2.2.2.2.2.2.2.2.1, .int v.2.2.2.2.2.2.2.2.2.2.2.2.2.1, .ref h11, .int v.2.2.2.2.2.2.2.2.2.2.2.2.2.2.2])), (h1, .inl ((cA 1), 85, .inl g_18)), (h2, .inl ((cA 0), 9, .inr (.inl g_19))), (h3, .inl ((cA 1), 85, .inl v.2.2.1)), (h4, .inl ((cA 0), 9, .inr (.inl v.2.2.2.1))), (h5, .inl ((cA 1), 510, .inl v.2.2.2.2.1)), (h6, .inl ((cA 0), 54, .inr (.inl v.2.2.2.2.2.1))), (h7, .inl ((cA 1), 170, .inl v.2.2.2.2.2.2.2.1)), (h8, .inl ((cA 0), 18, .inr (.inl v.2.2.2.2.2.2.2.2.1))), (h9, .inl ((cA 2), 2, .inl v.2.2.2.2.2.2.2.2.2.1)), (h10, .inl ((cA 1), 80, .inl v.2.2.2.2.2.2.2.2.2.2.1)), (h11, .inl ((cA 1), 60, .inl v.2.2.2.2.2.2.2.2.2.2.2.2.2.2.1))] := hD
          refine lv_iinc (v := (nI (k - 1))) (lv' := [(3, .int (nI (k - 1))), (2, .int (nI t)), (0, .ref h0), (1, .int x1)]) hx hb dX10_addTurn_95 hl (k := 0) rfl (sb_m1 hk0) (by decide) rfl (fun ls hl => ?_)
          refine lv_goto (tgt := 27) hx hb dX10_addTurn_98 (by decide) ?_
          subst eg_17
          rw [ztu_s hk0 hk] at eg_18
          subst eg_18
          rw [zcu_s1 hk0 hk] at eg_19
          subst eg_19
          exact ih (k - 1) (by omega) (by omega) _ _ hP hD hS ls (lv_sub hl [0, 1, 2, 3] rfl)
    exact L27 (t + 1) (t) (by omega) (Nat.le_refl _) _ _ (by rw [ztu_0, zcu_0]; exact hP) (by rw [ztu_0, zcu_0]; exact hD) hS ls (lv_sub hl [0, 1, 2, 3] rfl)
set_option maxHeartbeats 4000000 in
set_option maxRecDepth 100000 in
theorem c_X10_endLeg (l : Launch) (D : va_G) (cA : Nat → ClassId) (h0 h1 h2 h3 h4 h5 h6 h7 h8 h9 h10 h11 : Nat) (sz : Nat) (n0 : Nat) (v : vX10) (hc : v.1 3 = nI (n0 + 1)) (hc7 : n0 ≤ 7) : Met l yX10_endLeg wsX10_endLeg ({ frames := 0, cells := 0, slots := 0, locals := 0 }) (va_Pc [.ref h0] (zPre D (zty cA) (wX10 cA h0 h1 h2 h3 h4 h5 h6 h7 h8 h9 h10 h11 v) sz)) (va_Qv (fun (u : vX10) => u = (fm_endLeg n0 v)) (fun u => zPost D (zty cA) (va_A (wX10 cA h0 h1 h2 h3 h4 h5 h6 h7 h8 h9 h10 h11 v) sz) (wX10 cA h0 h1 h2 h3 h4 h5 h6 h7 h8 h9 h10 h11 u)) (va_A (wX10 cA h0 h1 h2 h3 h4 h5 h6 h7 h8 h9 h10 h11 v) sz)) 0 0 (va_A (wX10 cA h0 h1 h2 h3 h4 h5 h6 h7 h8 h9 h10 h11 v) sz) := by
  refine Met.ofW (cc := cX10_endLeg) (maxL := 2) (ret := none) (by decide) rfl ?_
  intro p e s m args below meth c s₁ B hml hv
  obtain ⟨rfl, hsz, hP, hK, hD0, hE⟩ := hv
  have hx := B.exec
  have hb := B.bytes
  have hr := B.returns
  have hts := atoms_spec (ws := wsX10_endLeg) B.pre
  have hown : s.vm.findClass RX10 = some m.cls := findClass_of_methodNamed B.named
  have hlocks := B.notSynchronized
  have hinX10 : ∀ w ∈ u_ws RX10 TX10 16, w ∈ wsX10_endLeg := fun w h => List.mem_cons_of_mem _ (List.mem_append_right _ h)
  subst hsz
  have hD := hD0.self (sz := s.heap.size)
  generalize hAe : va_A (wX10 cA h0 h1 h2 h3 h4 h5 h6 h7 h8 h9 h10 h11 v) s.heap.size = A at hD hE ⊢
  have hA : ∀ q : Nat, s.heap.size ≤ q → A q := fun q h => by rw [← hAe]; exact Or.inr h
  have hS : va_S A s.heap s.heap [] := va_S.rf
  have hN : zN s := hE.1
  have hP : va_P D vwCl [(h0, .inr (10, [.ref h1, .ref h2, .ref h3, .ref h4, .ref h5, .ref h6, .int v.2.2.2.2.2.2.1, .ref h7, .ref h8, .ref h9, .ref h10, .int v.2.2.2.2.2.2.2.2.2.2.2.1, .int v.2.2.2.2.2.2.2.2.2.2.2.2.1, .int v.2.2.2.2.2.2.2.2.2.2.2.2.2.1, .ref h11, .int v.2.2.2.2.2.2.2.2.2.2.2.2.2.2.2])), (h1, .inl ((cA 1), 85, .inl v.1)), (h2, .inl ((cA 0), 9, .inr (.inl v.2.1))), (h3, .inl ((cA 1), 85, .inl v.2.2.1)), (h4, .inl ((cA 0), 9, .inr (.inl v.2.2.2.1))), (h5, .inl ((cA 1), 510, .inl v.2.2.2.2.1)), (h6, .inl ((cA 0), 54, .inr (.inl v.2.2.2.2.2.1))), (h7, .inl ((cA 1), 170, .inl v.2.2.2.2.2.2.2.1)), (h8, .inl ((cA 0), 18, .inr (.inl v.2.2.2.2.2.2.2.2.1))), (h9, .inl ((cA 2), 2, .inl v.2.2.2.2.2.2.2.2.2.1)), (h10, .inl ((cA 1), 80, .inl v.2.2.2.2.2.2.2.2.2.2.1)), (h11, .inl ((cA 1), 60, .inl v.2.2.2.2.2.2.2.2.2.2.2.2.2.2.1))] s.heap := hP
  have hD : va_D A [(h0, .inr (10, [.ref h1, .ref h2, .ref h3, .ref h4, .ref h5, .ref h6, .int v.2.2.2.2.2.2.1, .ref h7, .ref h8, .ref h9, .ref h10, .int v.2.2.2.2.2.2.2.2.2.2.2.1, .int v.2.2.2.2.2.2.2.2.2.2.2.2.1, .int v.2.2.2.2.2.2.2.2.2.2.2.2.2.1, .ref h11, .int v.2.2.2.2.2.2.2.2.2.2.2.2.2.2.2])), (h1, .inl ((cA 1), 85, .inl v.1)), (h2, .inl ((cA 0), 9, .inr (.inl v.2.1))), (h3, .inl ((cA 1), 85, .inl v.2.2.1)), (h4, .inl ((cA 0), 9, .inr (.inl v.2.2.2.1))), (h5, .inl ((cA 1), 510, .inl v.2.2.2.2.1)), (h6, .inl ((cA 0), 54, .inr (.inl v.2.2.2.2.2.1))), (h7, .inl ((cA 1), 170, .inl v.2.2.2.2.2.2.2.1)), (h8, .inl ((cA 0), 18, .inr (.inl v.2.2.2.2.2.2.2.2.1))), (h9, .inl ((cA 2), 2, .inl v.2.2.2.2.2.2.2.2.2.1)), (h10, .inl ((cA 1), 80, .inl v.2.2.2.2.2.2.2.2.2.2.1)), (h11, .inl ((cA 1), 60, .inl v.2.2.2.2.2.2.2.2.2.2.2.2.2.2.1))] := hD
  have hl := lv_entry ([.ref h0]) (n := 2) (Nat.le_of_ble_eq_true rfl)
  rw [lg_entry_eq]
  generalize (lg_sl ([.ref h0]) ++ List.replicate (2 - (lg_sl ([.ref h0])).length) Slot.unset).toArray = ls at hl ⊢
  have hl : lv_has ls 2 [(0, .ref h0)] := hl
  refine z_genQ (fun Q hQ => ?_)
  refine lv_aload_n hx hb dX10_endLeg_0 rfl (lv_at hl 0 rfl) ?_
  refine va_get (D := D) (ci := 10) (v := .ref h1) (C := RX10) (T := TX10) (N := 16) hx hb hts hinX10 hown hK hP 0 rfl rfl 0 (by decide) (hts (.fieldLink RX10 7 "GyroTrainerModel" "at" "[I") (List.mem_of_getElem? (i := 1) rfl)) (fun _ h9 => h9) rfl dX10_endLeg_1 ?_
  refine lv_iconst (v := 3) hx hb dX10_endLeg_4 (by decide) ?_
  refine lv_dup2_11 hx hb dX10_endLeg_5 rfl rfl ?_
  refine z_iald (k := 3) hx hb hK hP 1 1 rfl rfl rfl (by decide) (by decide) dX10_endLeg_6 ?_
  refine lv_iconst (v := 1) hx hb dX10_endLeg_7 (by decide) ?_
  refine lv_isub hx hb dX10_endLeg_8 ?_
  rw [show ((v.1 3) - (1 : Int32)) = nI n0 from by rw [hc]; exact nI_pred n0]
  refine z_iast (k := 3) hx hb hK hP hD hS 1 1 rfl rfl rfl (by decide) (by decide) dX10_endLeg_9 (fun g_1 eg_1 H locs hP hD hS => ?_)
  have hP : va_P D vwCl [(h0, .inr (10, [.ref h1, .ref h2, .ref h3, .ref h4, .ref h5, .ref h6, .int v.2.2.2.2.2.2.1, .ref h7, .ref h8, .ref h9, .ref h10, .int v.2.2.2.2.2.2.2.2.2.2.2.1, .int v.2.2.2.2.2.2.2.2.2.2.2.2.1, .int v.2.2.2.2.2.2.2.2.2.2.2.2.2.1, .ref h11, .int v.2.2.2.2.2.2.2.2.2.2.2.2.2.2.2])), (h1, .inl ((cA 1), 85, .inl g_1)), (h2, .inl ((cA 0), 9, .inr (.inl v.2.1))), (h3, .inl ((cA 1), 85, .inl v.2.2.1)), (h4, .inl ((cA 0), 9, .inr (.inl v.2.2.2.1))), (h5, .inl ((cA 1), 510, .inl v.2.2.2.2.1)), (h6, .inl ((cA 0), 54, .inr (.inl v.2.2.2.2.2.1))), (h7, .inl ((cA 1), 170, .inl v.2.2.2.2.2.2.2.1)), (h8, .inl ((cA 0), 18, .inr (.inl v.2.2.2.2.2.2.2.2.1))), (h9, .inl ((cA 2), 2, .inl v.2.2.2.2.2.2.2.2.2.1)), (h10, .inl ((cA 1), 80, .inl v.2.2.2.2.2.2.2.2.2.2.1)), (h11, .inl ((cA 1), 60, .inl v.2.2.2.2.2.2.2.2.2.2.2.2.2.2.1))] H := hP
  have hD : va_D A [(h0, .inr (10, [.ref h1, .ref h2, .ref h3, .ref h4, .ref h5, .ref h6, .int v.2.2.2.2.2.2.1, .ref h7, .ref h8, .ref h9, .ref h10, .int v.2.2.2.2.2.2.2.2.2.2.2.1, .int v.2.2.2.2.2.2.2.2.2.2.2.2.1, .int v.2.2.2.2.2.2.2.2.2.2.2.2.2.1, .ref h11, .int v.2.2.2.2.2.2.2.2.2.2.2.2.2.2.2])), (h1, .inl ((cA 1), 85, .inl g_1)), (h2, .inl ((cA 0), 9, .inr (.inl v.2.1))), (h3, .inl ((cA 1), 85, .inl v.2.2.1)), (h4, .inl ((cA 0), 9, .inr (.inl v.2.2.2.1))), (h5, .inl ((cA 1), 510, .inl v.2.2.2.2.1)), (h6, .inl ((cA 0), 54, .inr (.inl v.2.2.2.2.2.1))), (h7, .inl ((cA 1), 170, .inl v.2.2.2.2.2.2.2.1)), (h8, .inl ((cA 0), 18, .inr (.inl v.2.2.2.2.2.2.2.2.1))), (h9, .inl ((cA 2), 2, .inl v.2.2.2.2.2.2.2.2.2.1)), (h10, .inl ((cA 1), 80, .inl v.2.2.2.2.2.2.2.2.2.2.1)), (h11, .inl ((cA 1), 60, .inl v.2.2.2.2.2.2.2.2.2.2.2.2.2.2.1))] := hD
  refine lv_iconst (v := 0) hx hb dX10_endLeg_10 (by decide) ?_
  refine lv_istore_n (lv' := [(1, .int (0 : Int32)), (0, .ref h0)]) hx hb dX10_endLeg_11 rfl hl (by decide) rfl (fun ls hl => ?_)
  have L12 : ∀ (zn : Nat) (k : Nat), 3 * n0 - k < zn → (k ≤ 3 * n0) → ∀ (H : Heap) (locs : List Loc), va_P D vwCl [(h0, .inr (10, [.ref h1, .ref h2, .ref h3, .ref h4, .ref h5, .ref h6, .int v.2.2.2.2.2.2.1, .ref h7, .ref h8, .ref h9, .ref h10, .int v.2.2.2.2.2.2.2.2.2.2.2.1, .int v.2.2.2.2.2.2.2.2.2.2.2.2.1, .int v.2.2.2.2.2.2.2.2.2.2.2.2.2.1, .ref h11, .int v.2.2.2.2.2.2.2.2.2.2.2.2.2.2.2])), (h1, .inl ((cA 1), 85, .inl (zcl k g_1))), (h2, .inl ((cA 0), 9, .inr (.inl v.2.1))), (h3, .inl ((cA 1), 85, .inl v.2.2.1)), (h4, .inl ((cA 0), 9, .inr (.inl v.2.2.2.1))), (h5, .inl ((cA 1), 510, .inl v.2.2.2.2.1)), (h6, .inl ((cA 0), 54, .inr (.inl v.2.2.2.2.2.1))), (h7, .inl ((cA 1), 170, .inl v.2.2.2.2.2.2.2.1)), (h8, .inl ((cA 0), 18, .inr (.inl v.2.2.2.2.2.2.2.2.1))), (h9, .inl ((cA 2), 2, .inl v.2.2.2.2.2.2.2.2.2.1)), (h10, .inl ((cA 1), 80, .inl v.2.2.2.2.2.2.2.2.2.2.1)), (h11, .inl ((cA 1), 60, .inl v.2.2.2.2.2.2.2.2.2.2.2.2.2.2.1))] H → va_D A [(h0, .inr (10, [.ref h1, .ref h2, .ref h3, .ref h4, .ref h5, .ref h6, .int v.2.2.2.2.2.2.1, .ref h7, .ref h8, .ref h9, .ref h10, .int v.2.2.2.2.2.2.2.2.2.2.2.1, .int v.2.2.2.2.2.2.2.2.2.2.2.2.1, .int v.2.2.2.2.2.2.2.2.2.2.2.2.2.1, .ref h11, .int v.2.2.2.2.2.2.2.2.2.2.2.2.2.2.2])), (h1, .inl ((cA 1), 85, .inl (zcl k g_1))), (h2, .inl ((cA 0), 9, .inr (.inl v.2.1))), (h3, .inl ((cA 1), 85, .inl v.2.2.1)), (h4, .inl ((cA 0), 9, .inr (.inl v.2.2.2.1))), (h5, .inl ((cA 1), 510, .inl v.2.2.2.2.1)), (h6, .inl ((cA 0), 54, .inr (.inl v.2.2.2.2.2.1))), (h7, .inl ((cA 1), 170, .inl v.2.2.2.2.2.2.2.1)), (h8, .inl ((cA 0), 18, .inr (.inl v.2.2.2.2.2.2.2.2.1))), (h9, .inl ((cA 2), 2, .inl v.2.2.2.2.2.2.2.2.2.1)), (h10, .inl ((cA 1), 80, .inl v.2.2.2.2.2.2.2.2.2.2.1)), (h11, .inl ((cA 1), 60, .inl v.2.2.2.2.2.2.2.2.2.2.2.2.2.2.1))] → va_S A s.heap H locs → ∀ (ls : Array Slot), lv_has ls 2 [(1, .int (nI k)), (0, .ref h0)] → W p l e (headSpec wsX10_endLeg ({ frames := 0, cells := 0, slots := 0, locals := 0 })).room s m (([.ref h0] : List Value).toArray) below meth c H locs 0 0 Q (F0 m 12 ls []) := by
    intro zn
    induction zn with
    | zero =>
      intro k hm
      exact absurd hm (Nat.not_lt_zero _)
    | succ zn ih =>
      intro k hm hk H locs hP hD hS ls hl
      refine lv_iload_n hx hb dX10_endLeg_12 rfl (lv_at hl 0 rfl) ?_
      refine lv_iconst (v := 3) hx hb dX10_endLeg_13 (by decide) ?_
      refine lv_aload_n hx hb dX10_endLeg_14 rfl (lv_at hl 1 rfl) ?_
      refine va_get (D := D) (ci := 10) (v := .ref h1) (C := RX10) (T := TX10) (N := 16) hx hb hts hinX10 hown hK hP 0 rfl rfl 0 (by decide) (hts (.fieldLink RX10 7 "GyroTrainerModel" "at" "[I") (List.mem_of_getElem? (i := 1) rfl)) (fun _ h9 => h9) rfl dX10_endLeg_15 ?_
      refine lv_iconst (v := 3) hx hb dX10_endLeg_18 (by decide) ?_
      refine z_iald (k := 3) hx hb hK hP 1 1 rfl rfl rfl (by decide) (by decide) dX10_endLeg_19 ?_
      refine lv_imul hx hb dX10_endLeg_20 ?_
      rw [zcl_3, show g_1 3 = nI n0 from by rw [eg_1]; rfl, show (3 : Int32) * nI n0 = nI (3 * n0) from pk_mul 3 n0]
      refine lv_icmp_ge (tgt := 50) hx hb dX10_endLeg_21 (by decide) (fun c_2 => ?_) (fun c_2 => ?_)
      · skip
        have ekc : k = 3 * n0 := Nat.le_antisymm hk ((nI_leI (a := 3 * n0) (b := k) (by omega) (by omega)).mp c_2)
        subst ekc
        refine lv_aload_n hx hb dX10_endLeg_50 rfl (lv_at hl 1 rfl) ?_
        refine va_get (D := D) (ci := 10) (v := .ref h1) (C := RX10) (T := TX10) (N := 16) hx hb hts hinX10 hown hK hP 0 rfl rfl 0 (by decide) (hts (.fieldLink RX10 7 "GyroTrainerModel" "at" "[I") (List.mem_of_getElem? (i := 1) rfl)) (fun _ h9 => h9) rfl dX10_endLeg_51 ?_
        refine lv_iconst (v := 2) hx hb dX10_endLeg_54 (by decide) ?_
        refine lv_aload_n hx hb dX10_endLeg_55 rfl (lv_at hl 1 rfl) ?_
        refine va_get (D := D) (ci := 10) (v := .ref h1) (C := RX10) (T := TX10) (N := 16) hx hb hts hinX10 hown hK hP 0 rfl rfl 0 (by decide) (hts (.fieldLink RX10 7 "GyroTrainerModel" "at" "[I") (List.mem_of_getElem? (i := 1) rfl)) (fun _ h9 => h9) rfl dX10_endLeg_56 ?_
        refine lv_iconst (v := 3) hx hb dX10_endLeg_59 (by decide) ?_
        refine z_iald (k := 3) hx hb hK hP 1 1 rfl rfl rfl (by decide) (by decide) dX10_endLeg_60 ?_
        refine lv_if_ne (tgt := 68) hx hb dX10_endLeg_61 (by decide) (fun c_3 => ?_) (fun c_3 => ?_)
        · skip
          refine lv_aload_n hx hb dX10_endLeg_68 rfl (lv_at hl 1 rfl) ?_
          refine va_get (D := D) (ci := 10) (v := .ref h1) (C := RX10) (T := TX10) (N := 16) hx hb hts hinX10 hown hK hP 0 rfl rfl 0 (by decide) (hts (.fieldLink RX10 7 "GyroTrainerModel" "at" "[I") (List.mem_of_getElem? (i := 1) rfl)) (fun _ h9 => h9) rfl dX10_endLeg_69 ?_
          refine lv_iconst (v := 2) hx hb dX10_endLeg_72 (by decide) ?_
          refine z_iald (k := 2) hx hb hK hP 1 1 rfl rfl rfl (by decide) (by decide) dX10_endLeg_73 ?_
          refine z_iast (k := 2) hx hb hK hP hD hS 1 1 rfl rfl rfl (by decide) (by decide) dX10_endLeg_74 (fun g_4 eg_4 H locs hP hD hS => ?_)
          have hP : va_P D vwCl [(h0, .inr (10, [.ref h1, .ref h2, .ref h3, .ref h4, .ref h5, .ref h6, .int v.2.2.2.2.2.2.1, .ref h7, .ref h8, .ref h9, .ref h10, .int v.2.2.2.2.2.2.2.2.2.2.2.1, .int v.2.2.2.2.2.2.2.2.2.2.2.2.1, .int v.2.2.2.2.2.2.2.2.2.2.2.2.2.1, .ref h11, .int v.2.2.2.2.2.2.2.2.2.2.2.2.2.2.2])), (h1, .inl ((cA 1), 85, .inl g_4)), (h2, .inl ((cA 0), 9, .inr (.inl v.2.1))), (h3, .inl ((cA 1), 85, .inl v.2.2.1)), (h4, .inl ((cA 0), 9, .inr (.inl v.2.2.2.1))), (h5, .inl ((cA 1), 510, .inl v.2.2.2.2.1)), (h6, .inl ((cA 0), 54, .inr (.inl v.2.2.2.2.2.1))), (h7, .inl ((cA 1), 170, .inl v.2.2.2.2.2.2.2.1)), (h8, .inl ((cA 0), 18, .inr (.inl v.2.2.2.2.2.2.2.2.1))), (h9, .inl ((cA 2), 2, .inl v.2.2.2.2.2.2.2.2.2.1)), (h10, .inl ((cA 1), 80, .inl v.2.2.2.2.2.2.2.2.2.2.1)), (h11, .inl ((cA 1), 60, .inl v.2.2.2.2.2.2.2.2.2.2.2.2.2.2.1))] H := hP
          have hD : va_D A [(h0, .inr (10, [.ref h1, .ref h2, .ref h3, .ref h4, .ref h5, .ref h6, .int v.2.2.2.2.2.2.1, .ref h7, .ref h8, .ref h9, .ref h10, .int v.2.2.2.2.2.2.2.2.2.2.2.1, .int v.2.2.2.2.2.2.2.2.2.2.2.2.1, .int v.2.2.2.2.2.2.2.2.2.2.2.2.2.1, .ref h11, .int v.2.2.2.2.2.2.2.2.2.2.2.2.2.2.2])), (h1, .inl ((cA 1), 85, .inl g_4)), (h2, .inl ((cA 0), 9, .inr (.inl v.2.1))), (h3, .inl ((cA 1), 85, .inl v.2.2.1)), (h4, .inl ((cA 0), 9, .inr (.inl v.2.2.2.1))), (h5, .inl ((cA 1), 510, .inl v.2.2.2.2.1)), (h6, .inl ((cA 0), 54, .inr (.inl v.2.2.2.2.2.1))), (h7, .inl ((cA 1), 170, .inl v.2.2.2.2.2.2.2.1)), (h8, .inl ((cA 0), 18, .inr (.inl v.2.2.2.2.2.2.2.2.1))), (h9, .inl ((cA 2), 2, .inl v.2.2.2.2.2.2.2.2.2.1)), (h10, .inl ((cA 1), 80, .inl v.2.2.2.2.2.2.2.2.2.2.1)), (h11, .inl ((cA 1), 60, .inl v.2.2.2.2.2.2.2.2.2.2.2.2.2.2.1))] := hD
          have e9 : (fm_endLeg n0 v) = (g_4, v.2) := by unfold fm_endLeg fm_end; simp only [← eg_1, if_neg c_3, ← eg_4]
          have hP9 : va_P D vwCl (wX10 cA h0 h1 h2 h3 h4 h5 h6 h7 h8 h9 h10 h11 ((g_4, v.2) : vX10)) H := hP
          have hD9 : va_D A (wX10 cA h0 h1 h2 h3 h4 h5 h6 h7 h8 h9 h10 h11 ((g_4, v.2) : vX10)) := hD
          subst hQ
          exact W.vret hx hb hr (fun t ht hW => ⟨⟨(g_4, v.2), rfl, e9.symm, ⟨by rw [ht]; exact hP9, va_K.moved hW.alike hK, hD9⟩⟩, hS.F ht⟩) hS.2.2 dX10_endLeg_75
        · skip
          refine lv_iconst (v := 0) hx hb dX10_endLeg_64 (by decide) ?_
          refine lv_goto (tgt := 74) hx hb dX10_endLeg_65 (by decide) ?_
          refine z_iast (k := 2) hx hb hK hP hD hS 1 1 rfl rfl rfl (by decide) (by decide) dX10_endLeg_74 (fun g_5 eg_5 H locs hP hD hS => ?_)
          have hP : va_P D vwCl [(h0, .inr (10, [.ref h1, .ref h2, .ref h3, .ref h4, .ref h5, .ref h6, .int v.2.2.2.2.2.2.1, .ref h7, .ref h8, .ref h9, .ref h10, .int v.2.2.2.2.2.2.2.2.2.2.2.1, .int v.2.2.2.2.2.2.2.2.2.2.2.2.1, .int v.2.2.2.2.2.2.2.2.2.2.2.2.2.1, .ref h11, .int v.2.2.2.2.2.2.2.2.2.2.2.2.2.2.2])), (h1, .inl ((cA 1), 85, .inl g_5)), (h2, .inl ((cA 0), 9, .inr (.inl v.2.1))), (h3, .inl ((cA 1), 85, .inl v.2.2.1)), (h4, .inl ((cA 0), 9, .inr (.inl v.2.2.2.1))), (h5, .inl ((cA 1), 510, .inl v.2.2.2.2.1)), (h6, .inl ((cA 0), 54, .inr (.inl v.2.2.2.2.2.1))), (h7, .inl ((cA 1), 170, .inl v.2.2.2.2.2.2.2.1)), (h8, .inl ((cA 0), 18, .inr (.inl v.2.2.2.2.2.2.2.2.1))), (h9, .inl ((cA 2), 2, .inl v.2.2.2.2.2.2.2.2.2.1)), (h10, .inl ((cA 1), 80, .inl v.2.2.2.2.2.2.2.2.2.2.1)), (h11, .inl ((cA 1), 60, .inl v.2.2.2.2.2.2.2.2.2.2.2.2.2.2.1))] H := hP
          have hD : va_D A [(h0, .inr (10, [.ref h1, .ref h2, .ref h3, .ref h4, .ref h5, .ref h6, .int v.2.2.2.2.2.2.1, .ref h7, .ref h8, .ref h9, .ref h10, .int v.2.2.2.2.2.2.2.2.2.2.2.1, .int v.2.2.2.2.2.2.2.2.2.2.2.2.1, .int v.2.2.2.2.2.2.2.2.2.2.2.2.2.1, .ref h11, .int v.2.2.2.2.2.2.2.2.2.2.2.2.2.2.2])), (h1, .inl ((cA 1), 85, .inl g_5)), (h2, .inl ((cA 0), 9, .inr (.inl v.2.1))), (h3, .inl ((cA 1), 85, .inl v.2.2.1)), (h4, .inl ((cA 0), 9, .inr (.inl v.2.2.2.1))), (h5, .inl ((cA 1), 510, .inl v.2.2.2.2.1)), (h6, .inl ((cA 0), 54, .inr (.inl v.2.2.2.2.2.1))), (h7, .inl ((cA 1), 170, .inl v.2.2.2.2.2.2.2.1)), (h8, .inl ((cA 0), 18, .inr (.inl v.2.2.2.2.2.2.2.2.1))), (h9, .inl ((cA 2), 2, .inl v.2.2.2.2.2.2.2.2.2.1)), (h10, .inl ((cA 1), 80, .inl v.2.2.2.2.2.2.2.2.2.2.1)), (h11, .inl ((cA 1), 60, .inl v.2.2.2.2.2.2.2.2.2.2.2.2.2.2.1))] := hD
          have e9 : (fm_endLeg n0 v) = (g_5, v.2) := by unfold fm_endLeg fm_end; simp only [← eg_1, if_pos c_3, ← eg_5]
          have hP9 : va_P D vwCl (wX10 cA h0 h1 h2 h3 h4 h5 h6 h7 h8 h9 h10 h11 ((g_5, v.2) : vX10)) H := hP
          have hD9 : va_D A (wX10 cA h0 h1 h2 h3 h4 h5 h6 h7 h8 h9 h10 h11 ((g_5, v.2) : vX10)) := hD
          subst hQ
          exact W.vret hx hb hr (fun t ht hW => ⟨⟨(g_5, v.2), rfl, e9.symm, ⟨by rw [ht]; exact hP9, va_K.moved hW.alike hK, hD9⟩⟩, hS.F ht⟩) hS.2.2 dX10_endLeg_75
      · skip
        have hkl : k < 3 * n0 := Nat.lt_of_not_le (fun h => c_2 (nI_le (a := 3 * n0) (b := k) h (by omega)))
        refine lv_aload_n hx hb dX10_endLeg_24 rfl (lv_at hl 1 rfl) ?_
        refine va_get (D := D) (ci := 10) (v := .ref h1) (C := RX10) (T := TX10) (N := 16) hx hb hts hinX10 hown hK hP 0 rfl rfl 0 (by decide) (hts (.fieldLink RX10 7 "GyroTrainerModel" "at" "[I") (List.mem_of_getElem? (i := 1) rfl)) (fun _ h9 => h9) rfl dX10_endLeg_25 ?_
        refine lv_bipush (v := 34) hx hb dX10_endLeg_28 (by decide) ?_
        refine lv_iload_n hx hb dX10_endLeg_30 rfl (lv_at hl 0 rfl) ?_
        refine lv_iadd hx hb dX10_endLeg_31 ?_
        refine lv_aload_n hx hb dX10_endLeg_32 rfl (lv_at hl 1 rfl) ?_
        refine va_get (D := D) (ci := 10) (v := .ref h1) (C := RX10) (T := TX10) (N := 16) hx hb hts hinX10 hown hK hP 0 rfl rfl 0 (by decide) (hts (.fieldLink RX10 7 "GyroTrainerModel" "at" "[I") (List.mem_of_getElem? (i := 1) rfl)) (fun _ h9 => h9) rfl dX10_endLeg_33 ?_
        refine lv_bipush (v := 34) hx hb dX10_endLeg_36 (by decide) ?_
        refine lv_iload_n hx hb dX10_endLeg_38 rfl (lv_at hl 0 rfl) ?_
        refine lv_iadd hx hb dX10_endLeg_39 ?_
        refine lv_iconst (v := 3) hx hb dX10_endLeg_40 (by decide) ?_
        refine lv_iadd hx hb dX10_endLeg_41 ?_
        refine z_iald (k := (34 + k + 3)) hx hb hK hP 1 1 rfl rfl (by rw [show (34 : Int32) + nI k = nI (34 + k) from nI_add 34 k]; exact nI_add (34 + k) 3) (by omega) (by decide) dX10_endLeg_42 ?_
        refine z_iast (k := (34 + k)) hx hb hK hP hD hS 1 1 rfl rfl (nI_add 34 k) (by omega) (by decide) dX10_endLeg_43 (fun g_6 eg_6 H locs hP hD hS => ?_)
        have hP : va_P D vwCl [(h0, .inr (10, [.ref h1, .ref h2, .ref h3, .ref h4, .ref h5, .ref h6, .int v.2.2.2.2.2.2.1, .ref h7, .ref h8, .ref h9, .ref h10, .int v.2.2.2.2.2.2.2.2.2.2.2.1, .int v.2.2.2.2.2.2.2.2.2.2.2.2.1, .int v.2.2.2.2.2.2.2.2.2.2.2.2.2.1, .ref h11, .int v.2.2.2.2.2.2.2.2.2.2.2.2.2.2.2])), (h1, .inl ((cA 1), 85, .inl g_6)), (h2, .inl ((cA 0), 9, .inr (.inl v.2.1))), (h3, .inl ((cA 1), 85, .inl v.2.2.1)), (h4, .inl ((cA 0), 9, .inr (.inl v.2.2.2.1))), (h5, .inl ((cA 1), 510, .inl v.2.2.2.2.1)), (h6, .inl ((cA 0), 54, .inr (.inl v.2.2.2.2.2.1))), (h7, .inl ((cA 1), 170, .inl v.2.2.2.2.2.2.2.1)), (h8, .inl ((cA 0), 18, .inr (.inl v.2.2.2.2.2.2.2.2.1))), (h9, .inl ((cA 2), 2, .inl v.2.2.2.2.2.2.2.2.2.1)), (h10, .inl ((cA 1), 80, .inl v.2.2.2.2.2.2.2.2.2.2.1)), (h11, .inl ((cA 1), 60, .inl v.2.2.2.2.2.2.2.2.2.2.2.2.2.2.1))] H := hP
        have hD : va_D A [(h0, .inr (10, [.ref h1, .ref h2, .ref h3, .ref h4, .ref h5, .ref h6, .int v.2.2.2.2.2.2.1, .ref h7, .ref h8, .ref h9, .ref h10, .int v.2.2.2.2.2.2.2.2.2.2.2.1, .int v.2.2.2.2.2.2.2.2.2.2.2.2.1, .int v.2.2.2.2.2.2.2.2.2.2.2.2.2.1, .ref h11, .int v.2.2.2.2.2.2.2.2.2.2.2.2.2.2.2])), (h1, .inl ((cA 1), 85, .inl g_6)), (h2, .inl ((cA 0), 9, .inr (.inl v.2.1))), (h3, .inl ((cA 1), 85, .inl v.2.2.1)), (h4, .inl ((cA 0), 9, .inr (.inl v.2.2.2.1))), (h5, .inl ((cA 1), 510, .inl v.2.2.2.2.1)), (h6, .inl ((cA 0), 54, .inr (.inl v.2.2.2.2.2.1))), (h7, .inl ((cA 1), 170, .inl v.2.2.2.2.2.2.2.1)), (h8, .inl ((cA 0), 18, .inr (.inl v.2.2.2.2.2.2.2.2.1))), (h9, .inl ((cA 2), 2, .inl v.2.2.2.2.2.2.2.2.2.1)), (h10, .inl ((cA 1), 80, .inl v.2.2.2.2.2.2.2.2.2.2.1)), (h11, .inl ((cA 1), 60, .inl v.2.2.2.2.2.2.2.2.2.2.2.2.2.2.1))] := hD
        refine lv_iinc (v := (nI (k + 1))) (lv' := [(1, .int (nI (k + 1))), (0, .ref h0)]) hx hb dX10_endLeg_44 hl (k := 0) rfl (nI_1 k) (by decide) rfl (fun ls hl => ?_)
        refine lv_goto (tgt := 12) hx hb dX10_endLeg_47 (by decide) ?_
        rw [zcl_s] at eg_6
        subst eg_6
        exact ih (k + 1) (by omega) (by omega) _ _ hP hD hS ls (lv_sub hl [0, 1] rfl)
  exact L12 ((3 * n0) + 1) (0) (by omega) (Nat.zero_le _) _ _ (by rw [zcl_0]; exact hP) (by rw [zcl_0]; exact hD) hS ls (lv_sub hl [0, 1] rfl)
set_option maxHeartbeats 4000000 in
set_option maxRecDepth 100000 in
theorem c_X10_swing (l : Launch) (D : va_G) (cA : Nat → ClassId) (h0 h1 h2 h3 h4 h5 h6 h7 h8 h9 h10 h11 : Nat) (sz : Nat) (v : vX10) (hR : okR v.1) : Met l yX10_swing wsX10_swing ({ frames := 6, cells := 0, slots := 0, locals := 129 }) (va_Pc [.ref h0] (zPre D (zty cA) (wX10 cA h0 h1 h2 h3 h4 h5 h6 h7 h8 h9 h10 h11 v) sz)) (va_Qv (fun (u : vX10) => u = (fm_swing v)) (fun u => zPost D (zty cA) (va_A (wX10 cA h0 h1 h2 h3 h4 h5 h6 h7 h8 h9 h10 h11 v) sz) (wX10 cA h0 h1 h2 h3 h4 h5 h6 h7 h8 h9 h10 h11 u)) (va_A (wX10 cA h0 h1 h2 h3 h4 h5 h6 h7 h8 h9 h10 h11 v) sz)) 0 0 (va_A (wX10 cA h0 h1 h2 h3 h4 h5 h6 h7 h8 h9 h10 h11 v) sz) := by
  refine Met.ofW (cc := cX10_swing) (maxL := 9) (ret := none) (by decide) rfl ?_
  intro p e s m args below meth c s₁ B hml hv
  obtain ⟨rfl, hsz, hP, hK, hD0, hE⟩ := hv
  have hx := B.exec
  have hb := B.bytes
  have hr := B.returns
  have hts := atoms_spec (ws := wsX10_swing) B.pre
  have hown : s.vm.findClass RX10 = some m.cls := findClass_of_methodNamed B.named
  have hlocks := B.notSynchronized
  have hinX10 : ∀ w ∈ u_ws RX10 TX10 16, w ∈ wsX10_swing := fun w h => List.mem_cons_of_mem _ (List.mem_append_right _ h)
  subst hsz
  have hD := hD0.self (sz := s.heap.size)
  generalize hAe : va_A (wX10 cA h0 h1 h2 h3 h4 h5 h6 h7 h8 h9 h10 h11 v) s.heap.size = A at hD hE ⊢
  have hA : ∀ q : Nat, s.heap.size ≤ q → A q := fun q h => by rw [← hAe]; exact Or.inr h
  have hS : va_S A s.heap s.heap [] := va_S.rf
  have hN : zN s := hE.1
  have hP : va_P D vwCl [(h0, .inr (10, [.ref h1, .ref h2, .ref h3, .ref h4, .ref h5, .ref h6, .int v.2.2.2.2.2.2.1, .ref h7, .ref h8, .ref h9, .ref h10, .int v.2.2.2.2.2.2.2.2.2.2.2.1, .int v.2.2.2.2.2.2.2.2.2.2.2.2.1, .int v.2.2.2.2.2.2.2.2.2.2.2.2.2.1, .ref h11, .int v.2.2.2.2.2.2.2.2.2.2.2.2.2.2.2])), (h1, .inl ((cA 1), 85, .inl v.1)), (h2, .inl ((cA 0), 9, .inr (.inl v.2.1))), (h3, .inl ((cA 1), 85, .inl v.2.2.1)), (h4, .inl ((cA 0), 9, .inr (.inl v.2.2.2.1))), (h5, .inl ((cA 1), 510, .inl v.2.2.2.2.1)), (h6, .inl ((cA 0), 54, .inr (.inl v.2.2.2.2.2.1))), (h7, .inl ((cA 1), 170, .inl v.2.2.2.2.2.2.2.1)), (h8, .inl ((cA 0), 18, .inr (.inl v.2.2.2.2.2.2.2.2.1))), (h9, .inl ((cA 2), 2, .inl v.2.2.2.2.2.2.2.2.2.1)), (h10, .inl ((cA 1), 80, .inl v.2.2.2.2.2.2.2.2.2.2.1)), (h11, .inl ((cA 1), 60, .inl v.2.2.2.2.2.2.2.2.2.2.2.2.2.2.1))] s.heap := hP
  have hD : va_D A [(h0, .inr (10, [.ref h1, .ref h2, .ref h3, .ref h4, .ref h5, .ref h6, .int v.2.2.2.2.2.2.1, .ref h7, .ref h8, .ref h9, .ref h10, .int v.2.2.2.2.2.2.2.2.2.2.2.1, .int v.2.2.2.2.2.2.2.2.2.2.2.2.1, .int v.2.2.2.2.2.2.2.2.2.2.2.2.2.1, .ref h11, .int v.2.2.2.2.2.2.2.2.2.2.2.2.2.2.2])), (h1, .inl ((cA 1), 85, .inl v.1)), (h2, .inl ((cA 0), 9, .inr (.inl v.2.1))), (h3, .inl ((cA 1), 85, .inl v.2.2.1)), (h4, .inl ((cA 0), 9, .inr (.inl v.2.2.2.1))), (h5, .inl ((cA 1), 510, .inl v.2.2.2.2.1)), (h6, .inl ((cA 0), 54, .inr (.inl v.2.2.2.2.2.1))), (h7, .inl ((cA 1), 170, .inl v.2.2.2.2.2.2.2.1)), (h8, .inl ((cA 0), 18, .inr (.inl v.2.2.2.2.2.2.2.2.1))), (h9, .inl ((cA 2), 2, .inl v.2.2.2.2.2.2.2.2.2.1)), (h10, .inl ((cA 1), 80, .inl v.2.2.2.2.2.2.2.2.2.2.1)), (h11, .inl ((cA 1), 60, .inl v.2.2.2.2.2.2.2.2.2.2.2.2.2.2.1))] := hD
  have hl := lv_entry ([.ref h0]) (n := 9) (Nat.le_of_ble_eq_true rfl)
  rw [lg_entry_eq]
  generalize (lg_sl ([.ref h0]) ++ List.replicate (9 - (lg_sl ([.ref h0])).length) Slot.unset).toArray = ls at hl ⊢
  have hl : lv_has ls 9 [(0, .ref h0)] := hl
  refine z_genQ (fun Q hQ => ?_)
  refine lv_aload_n hx hb dX10_swing_0 rfl (lv_at hl 0 rfl) ?_
  refine va_get (D := D) (ci := 10) (v := .ref h1) (C := RX10) (T := TX10) (N := 16) hx hb hts hinX10 hown hK hP 0 rfl rfl 0 (by decide) (hts (.fieldLink RX10 7 "GyroTrainerModel" "at" "[I") (List.mem_of_getElem? (i := 1) rfl)) (fun _ h9 => h9) rfl dX10_swing_1 ?_
  refine lv_bipush (v := 8) hx hb dX10_swing_4 (by decide) ?_
  refine z_iald (k := 8) hx hb hK hP 1 1 rfl rfl rfl (by decide) (by decide) dX10_swing_6 ?_
  refine lv_i2l hx hb dX10_swing_7 rfl ?_
  refine lv_lstore_n (lv' := [(1, .long ((v.1 8).toInt64)), (0, .ref h0)]) hx hb dX10_swing_8 rfl hl (by decide) rfl (fun ls hl => ?_)
  refine lv_lload_n hx hb dX10_swing_9 rfl (lv_at hl 0 rfl) ?_
  refine lv_lconst (v := 0) hx hb dX10_swing_10 (by decide) ?_
  refine W.lcmp hx hb dX10_swing_11 ?_
  refine lv_if_ne (tgt := 19) hx hb dX10_swing_12 (by decide) (fun kc_1 => ?_) (fun kc_1 => ?_)
  · skip
    have c_1 : ¬ (((v.1 8).toInt64) = (0 : Int64)) := fun h => kc_1 ((lg_cmp_eq _ _).mpr h)
    refine lv_ldc2 hx hb hown (hts (.constantLong RX10 127 (10)) (List.mem_of_getElem? (i := 2) rfl)) dX10_swing_19 ?_
    refine lv_aload_n hx hb dX10_swing_22 rfl (lv_at hl 1 rfl) ?_
    refine va_get (D := D) (ci := 10) (v := .ref h1) (C := RX10) (T := TX10) (N := 16) hx hb hts hinX10 hown hK hP 0 rfl rfl 0 (by decide) (hts (.fieldLink RX10 7 "GyroTrainerModel" "at" "[I") (List.mem_of_getElem? (i := 1) rfl)) (fun _ h9 => h9) rfl dX10_swing_23 ?_
    refine lv_bipush (v := 8) hx hb dX10_swing_26 (by decide) ?_
    refine z_iald (k := 8) hx hb hK hP 1 1 rfl rfl rfl (by decide) (by decide) dX10_swing_28 ?_
    refine lv_iconst (v := 1) hx hb dX10_swing_29 (by decide) ?_
    refine lv_isub hx hb dX10_swing_30 ?_
    refine lv_lshl hx hb dX10_swing_31 rfl ?_
    refine lv_lstore_n (lv' := [(3, .long ((10 : Int64) <<< (((v.1 8) - (1 : Int32)).toInt64 &&& 63))), (1, .long ((v.1 8).toInt64)), (0, .ref h0)]) hx hb dX10_swing_32 rfl hl (by decide) rfl (fun ls hl => ?_)
    refine lv_aload_n hx hb dX10_swing_33 rfl (lv_at hl 2 rfl) ?_
    refine lv_iconst (v := 0) hx hb dX10_swing_34 (by decide) ?_
    refine z_Ri (va_runV (As := [.int (0 : Int32)]) (rest := []) ⟨hx, hb, hml, hown, hts⟩ (c_X10_setting l D cA h0 h1 h2 h3 h4 h5 h6 h7 h8 h9 h10 h11 0 v (by decide)) (cwV 1 hts gX10_swing_X10_setting rfl rfl rfl (by decide +kernel) ⟨Nat.le_of_ble_eq_true rfl, Nat.le_of_ble_eq_true rfl⟩) (zqVR hK hP hN (z_c1 (a := []) (b := []) rfl) 0 rfl rfl) rfl rfl hl.1 rfl (lv_room (Nat.le_of_ble_eq_true rfl)) dX10_swing_35 ⟨Nat.le_of_ble_eq_true rfl, Nat.le_of_ble_eq_true rfl⟩) ?_
    refine lv_i2l hx hb dX10_swing_38 rfl ?_
    refine lv_aload_n hx hb dX10_swing_39 rfl (lv_at hl 2 rfl) ?_
    refine va_get (D := D) (ci := 10) (v := .ref h1) (C := RX10) (T := TX10) (N := 16) hx hb hts hinX10 hown hK hP 0 rfl rfl 0 (by decide) (hts (.fieldLink RX10 7 "GyroTrainerModel" "at" "[I") (List.mem_of_getElem? (i := 1) rfl)) (fun _ h9 => h9) rfl dX10_swing_40 ?_
    refine lv_iconst (v := 4) hx hb dX10_swing_43 (by decide) ?_
    refine z_iald (k := 4) hx hb hK hP 1 1 rfl rfl rfl (by decide) (by decide) dX10_swing_44 ?_
    refine lv_aload_n hx hb dX10_swing_45 rfl (lv_at hl 2 rfl) ?_
    refine z_Ri (va_runV (As := []) (rest := [.int (v.1 4), .long ((v.1 (20 + 0)).toInt64)]) ⟨hx, hb, hml, hown, hts⟩ (c_X10_rest l D cA h0 h1 h2 h3 h4 h5 h6 h7 h8 h9 h10 h11 v hR) (cwV 0 hts gX10_swing_X10_rest rfl rfl rfl (by decide +kernel) ⟨Nat.le_of_ble_eq_true rfl, Nat.le_of_ble_eq_true rfl⟩) (zqVR hK hP hN (z_c1 (a := []) (b := []) rfl) 0 rfl rfl) rfl rfl hl.1 rfl (lv_room (Nat.le_of_ble_eq_true rfl)) dX10_swing_46 ⟨Nat.le_of_ble_eq_true rfl, Nat.le_of_ble_eq_true rfl⟩) ?_
    refine lv_isub hx hb dX10_swing_49 ?_
    refine lv_i2l hx hb dX10_swing_50 rfl ?_
    refine lv_lmul hx hb dX10_swing_51 ?_
    refine lv_ldc2 hx hb hown (hts (.constantLong RX10 132 (1000)) (List.mem_of_getElem? (i := 3) rfl)) dX10_swing_52 ?_
    refine lv_ldiv hx hb dX10_swing_55 (by decide) ?_
    refine lv_lstore (lv' := [(5, .long ((((v.1 (20 + 0)).toInt64) * (((v.1 4) - (fm_rest v.1)).toInt64)) / (1000 : Int64))), (3, .long ((10 : Int64) <<< (((v.1 8) - (1 : Int32)).toInt64 &&& 63))), (1, .long ((v.1 8).toInt64)), (0, .ref h0)]) hx hb dX10_swing_56 hl (by decide) rfl (fun ls hl => ?_)
    refine lv_aload_n hx hb dX10_swing_58 rfl (lv_at hl 3 rfl) ?_
    refine va_get (D := D) (ci := 10) (v := .ref h1) (C := RX10) (T := TX10) (N := 16) hx hb hts hinX10 hown hK hP 0 rfl rfl 0 (by decide) (hts (.fieldLink RX10 7 "GyroTrainerModel" "at" "[I") (List.mem_of_getElem? (i := 1) rfl)) (fun _ h9 => h9) rfl dX10_swing_59 ?_
    refine lv_iconst (v := 5) hx hb dX10_swing_62 (by decide) ?_
    refine z_iald (k := 5) hx hb hK hP 1 1 rfl rfl rfl (by decide) (by decide) dX10_swing_63 ?_
    refine lv_i2l hx hb dX10_swing_64 rfl ?_
    refine lv_lload hx hb dX10_swing_65 (lv_at hl 0 rfl) ?_
    refine lv_aload_n hx hb dX10_swing_67 rfl (lv_at hl 3 rfl) ?_
    refine va_get (D := D) (ci := 10) (v := .ref h1) (C := RX10) (T := TX10) (N := 16) hx hb hts hinX10 hown hK hP 0 rfl rfl 0 (by decide) (hts (.fieldLink RX10 7 "GyroTrainerModel" "at" "[I") (List.mem_of_getElem? (i := 1) rfl)) (fun _ h9 => h9) rfl dX10_swing_68 ?_
    refine lv_iconst (v := 0) hx hb dX10_swing_71 (by decide) ?_
    refine z_iald (k := 0) hx hb hK hP 1 1 rfl rfl rfl (by decide) (by decide) dX10_swing_72 ?_
    refine z_Rl (va_runS (As := [.int (v.1 0)]) (rest := [.long ((((v.1 (20 + 0)).toInt64) * (((v.1 4) - (fm_rest v.1)).toInt64)) / (1000 : Int64)), .long ((v.1 5).toInt64)]) ⟨hx, hb, hml, hown, hts⟩ (c_X10_cosineOf l D cA  (v.1 0) hR.1) (va_cwS 1 hts gX10_swing_X10_cosineOf rfl rfl rfl (by decide +kernel) ⟨Nat.le_of_ble_eq_true rfl, Nat.le_of_ble_eq_true rfl⟩) (zqSR0 hK hN) rfl rfl hl.1 rfl (lv_room (Nat.le_of_ble_eq_true rfl)) dX10_swing_73 ⟨Nat.le_of_ble_eq_true rfl, Nat.le_of_ble_eq_true rfl⟩) ?_
    refine lv_lmul hx hb dX10_swing_76 ?_
    refine lv_ldc2 hx hb hown (hts (.constantLong RX10 134 (1000000)) (List.mem_of_getElem? (i := 4) rfl)) dX10_swing_77 ?_
    refine lv_ldiv hx hb dX10_swing_80 (by decide) ?_
    refine lv_lsub hx hb dX10_swing_81 ?_
    refine lv_lstore (lv' := [(7, .long (((v.1 5).toInt64) - ((((((v.1 (20 + 0)).toInt64) * (((v.1 4) - (fm_rest v.1)).toInt64)) / (1000 : Int64)) * (fm_cosOf (v.1 0))) / (1000000 : Int64)))), (5, .long ((((v.1 (20 + 0)).toInt64) * (((v.1 4) - (fm_rest v.1)).toInt64)) / (1000 : Int64))), (3, .long ((10 : Int64) <<< (((v.1 8) - (1 : Int32)).toInt64 &&& 63))), (1, .long ((v.1 8).toInt64)), (0, .ref h0)]) hx hb dX10_swing_82 hl (by decide) rfl (fun ls hl => ?_)
    refine lv_lload hx hb dX10_swing_84 (lv_at hl 0 rfl) ?_
    refine lv_lload hx hb dX10_swing_86 (lv_at hl 0 rfl) ?_
    refine lv_lload_n hx hb dX10_swing_88 rfl (lv_at hl 2 rfl) ?_
    refine lv_lmul hx hb dX10_swing_89 ?_
    refine lv_ldc2 hx hb hown (hts (.constantLong RX10 132 (1000)) (List.mem_of_getElem? (i := 3) rfl)) dX10_swing_90 ?_
    refine lv_ldiv hx hb dX10_swing_93 (by decide) ?_
    refine lv_lsub hx hb dX10_swing_94 ?_
    refine lv_lstore (lv' := [(7, .long ((((v.1 5).toInt64) - ((((((v.1 (20 + 0)).toInt64) * (((v.1 4) - (fm_rest v.1)).toInt64)) / (1000 : Int64)) * (fm_cosOf (v.1 0))) / (1000000 : Int64))) - (((((v.1 5).toInt64) - ((((((v.1 (20 + 0)).toInt64) * (((v.1 4) - (fm_rest v.1)).toInt64)) / (1000 : Int64)) * (fm_cosOf (v.1 0))) / (1000000 : Int64))) * ((10 : Int64) <<< (((v.1 8) - (1 : Int32)).toInt64 &&& 63))) / (1000 : Int64)))), (5, .long ((((v.1 (20 + 0)).toInt64) * (((v.1 4) - (fm_rest v.1)).toInt64)) / (1000 : Int64))), (3, .long ((10 : Int64) <<< (((v.1 8) - (1 : Int32)).toInt64 &&& 63))), (1, .long ((v.1 8).toInt64)), (0, .ref h0)]) hx hb dX10_swing_95 hl (by decide) rfl (fun ls hl => ?_)
    refine lv_aload_n hx hb dX10_swing_97 rfl (lv_at hl 4 rfl) ?_
    refine va_get (D := D) (ci := 10) (v := .ref h1) (C := RX10) (T := TX10) (N := 16) hx hb hts hinX10 hown hK hP 0 rfl rfl 0 (by decide) (hts (.fieldLink RX10 7 "GyroTrainerModel" "at" "[I") (List.mem_of_getElem? (i := 1) rfl)) (fun _ h9 => h9) rfl dX10_swing_98 ?_
    refine lv_iconst (v := 5) hx hb dX10_swing_101 (by decide) ?_
    refine lv_lload hx hb dX10_swing_102 (lv_at hl 0 rfl) ?_
    refine lv_ldc hx hb hown (hts (.constant RX10 109 (900000)) (List.mem_of_getElem? (i := 5) rfl)) dX10_swing_104 ?_
    refine z_Ri (va_runS (As := [.long ((((v.1 5).toInt64) - ((((((v.1 (20 + 0)).toInt64) * (((v.1 4) - (fm_rest v.1)).toInt64)) / (1000 : Int64)) * (fm_cosOf (v.1 0))) / (1000000 : Int64))) - (((((v.1 5).toInt64) - ((((((v.1 (20 + 0)).toInt64) * (((v.1 4) - (fm_rest v.1)).toInt64)) / (1000 : Int64)) * (fm_cosOf (v.1 0))) / (1000000 : Int64))) * ((10 : Int64) <<< (((v.1 8) - (1 : Int32)).toInt64 &&& 63))) / (1000 : Int64))), .int (900000 : Int32)]) (rest := [.int (5 : Int32), .ref h1]) ⟨hx, hb, hml, hown, hts⟩ (c_X10_limited l D cA  ((((v.1 5).toInt64) - ((((((v.1 (20 + 0)).toInt64) * (((v.1 4) - (fm_rest v.1)).toInt64)) / (1000 : Int64)) * (fm_cosOf (v.1 0))) / (1000000 : Int64))) - (((((v.1 5).toInt64) - ((((((v.1 (20 + 0)).toInt64) * (((v.1 4) - (fm_rest v.1)).toInt64)) / (1000 : Int64)) * (fm_cosOf (v.1 0))) / (1000000 : Int64))) * ((10 : Int64) <<< (((v.1 8) - (1 : Int32)).toInt64 &&& 63))) / (1000 : Int64))) (900000 : Int32)) (va_cwS 2 hts gX10_swing_X10_limited rfl rfl rfl (by decide +kernel) ⟨Nat.le_of_ble_eq_true rfl, Nat.le_of_ble_eq_true rfl⟩) (zqSR0 hK hN) rfl rfl hl.1 rfl (lv_room (Nat.le_of_ble_eq_true rfl)) dX10_swing_106 ⟨Nat.le_of_ble_eq_true rfl, Nat.le_of_ble_eq_true rfl⟩) ?_
    refine z_iast (k := 5) hx hb hK hP hD hS 1 1 rfl rfl rfl (by decide) (by decide) dX10_swing_109 (fun g_2 eg_2 H locs hP hD hS => ?_)
    have hP : va_P D vwCl [(h0, .inr (10, [.ref h1, .ref h2, .ref h3, .ref h4, .ref h5, .ref h6, .int v.2.2.2.2.2.2.1, .ref h7, .ref h8, .ref h9, .ref h10, .int v.2.2.2.2.2.2.2.2.2.2.2.1, .int v.2.2.2.2.2.2.2.2.2.2.2.2.1, .int v.2.2.2.2.2.2.2.2.2.2.2.2.2.1, .ref h11, .int v.2.2.2.2.2.2.2.2.2.2.2.2.2.2.2])), (h1, .inl ((cA 1), 85, .inl g_2)), (h2, .inl ((cA 0), 9, .inr (.inl v.2.1))), (h3, .inl ((cA 1), 85, .inl v.2.2.1)), (h4, .inl ((cA 0), 9, .inr (.inl v.2.2.2.1))), (h5, .inl ((cA 1), 510, .inl v.2.2.2.2.1)), (h6, .inl ((cA 0), 54, .inr (.inl v.2.2.2.2.2.1))), (h7, .inl ((cA 1), 170, .inl v.2.2.2.2.2.2.2.1)), (h8, .inl ((cA 0), 18, .inr (.inl v.2.2.2.2.2.2.2.2.1))), (h9, .inl ((cA 2), 2, .inl v.2.2.2.2.2.2.2.2.2.1)), (h10, .inl ((cA 1), 80, .inl v.2.2.2.2.2.2.2.2.2.2.1)), (h11, .inl ((cA 1), 60, .inl v.2.2.2.2.2.2.2.2.2.2.2.2.2.2.1))] H := hP
    have hD : va_D A [(h0, .inr (10, [.ref h1, .ref h2, .ref h3, .ref h4, .ref h5, .ref h6, .int v.2.2.2.2.2.2.1, .ref h7, .ref h8, .ref h9, .ref h10, .int v.2.2.2.2.2.2.2.2.2.2.2.1, .int v.2.2.2.2.2.2.2.2.2.2.2.2.1, .int v.2.2.2.2.2.2.2.2.2.2.2.2.2.1, .ref h11, .int v.2.2.2.2.2.2.2.2.2.2.2.2.2.2.2])), (h1, .inl ((cA 1), 85, .inl g_2)), (h2, .inl ((cA 0), 9, .inr (.inl v.2.1))), (h3, .inl ((cA 1), 85, .inl v.2.2.1)), (h4, .inl ((cA 0), 9, .inr (.inl v.2.2.2.1))), (h5, .inl ((cA 1), 510, .inl v.2.2.2.2.1)), (h6, .inl ((cA 0), 54, .inr (.inl v.2.2.2.2.2.1))), (h7, .inl ((cA 1), 170, .inl v.2.2.2.2.2.2.2.1)), (h8, .inl ((cA 0), 18, .inr (.inl v.2.2.2.2.2.2.2.2.1))), (h9, .inl ((cA 2), 2, .inl v.2.2.2.2.2.2.2.2.2.1)), (h10, .inl ((cA 1), 80, .inl v.2.2.2.2.2.2.2.2.2.2.1)), (h11, .inl ((cA 1), 60, .inl v.2.2.2.2.2.2.2.2.2.2.2.2.2.2.1))] := hD
    refine lv_aload_n hx hb dX10_swing_110 rfl (lv_at hl 4 rfl) ?_
    refine va_get (D := D) (ci := 10) (v := .ref h1) (C := RX10) (T := TX10) (N := 16) hx hb hts hinX10 hown hK hP 0 rfl rfl 0 (by decide) (hts (.fieldLink RX10 7 "GyroTrainerModel" "at" "[I") (List.mem_of_getElem? (i := 1) rfl)) (fun _ h9 => h9) rfl dX10_swing_111 ?_
    refine lv_iconst (v := 4) hx hb dX10_swing_114 (by decide) ?_
    refine lv_aload_n hx hb dX10_swing_115 rfl (lv_at hl 4 rfl) ?_
    refine va_get (D := D) (ci := 10) (v := .ref h1) (C := RX10) (T := TX10) (N := 16) hx hb hts hinX10 hown hK hP 0 rfl rfl 0 (by decide) (hts (.fieldLink RX10 7 "GyroTrainerModel" "at" "[I") (List.mem_of_getElem? (i := 1) rfl)) (fun _ h9 => h9) rfl dX10_swing_116 ?_
    refine lv_iconst (v := 4) hx hb dX10_swing_119 (by decide) ?_
    refine z_iald (k := 4) hx hb hK hP 1 1 rfl rfl rfl (by decide) (by decide) dX10_swing_120 ?_
    refine lv_i2l hx hb dX10_swing_121 rfl ?_
    refine lv_aload_n hx hb dX10_swing_122 rfl (lv_at hl 4 rfl) ?_
    refine lv_iconst (v := 1) hx hb dX10_swing_123 (by decide) ?_
    refine z_Ri (va_runV (As := [.int (1 : Int32)]) (rest := [.long ((g_2 4).toInt64), .int (4 : Int32), .ref h1]) ⟨hx, hb, hml, hown, hts⟩ (c_X10_setting l D cA h0 h1 h2 h3 h4 h5 h6 h7 h8 h9 h10 h11 1 (g_2, v.2) (by decide)) (cwV 1 hts gX10_swing_X10_setting rfl rfl rfl (by decide +kernel) ⟨Nat.le_of_ble_eq_true rfl, Nat.le_of_ble_eq_true rfl⟩) (zqVR hK hP hN (z_c1 (a := []) (b := []) rfl) 0 rfl rfl) rfl rfl hl.1 rfl (lv_room (Nat.le_of_ble_eq_true rfl)) dX10_swing_124 ⟨Nat.le_of_ble_eq_true rfl, Nat.le_of_ble_eq_true rfl⟩) ?_
    refine lv_i2l hx hb dX10_swing_127 rfl ?_
    refine lv_aload_n hx hb dX10_swing_128 rfl (lv_at hl 4 rfl) ?_
    refine va_get (D := D) (ci := 10) (v := .ref h1) (C := RX10) (T := TX10) (N := 16) hx hb hts hinX10 hown hK hP 0 rfl rfl 0 (by decide) (hts (.fieldLink RX10 7 "GyroTrainerModel" "at" "[I") (List.mem_of_getElem? (i := 1) rfl)) (fun _ h9 => h9) rfl dX10_swing_129 ?_
    refine lv_iconst (v := 5) hx hb dX10_swing_132 (by decide) ?_
    refine z_iald (k := 5) hx hb hK hP 1 1 rfl rfl rfl (by decide) (by decide) dX10_swing_133 ?_
    refine lv_i2l hx hb dX10_swing_134 rfl ?_
    refine lv_lmul hx hb dX10_swing_135 ?_
    refine lv_ldc2 hx hb hown (hts (.constantLong RX10 132 (1000)) (List.mem_of_getElem? (i := 3) rfl)) dX10_swing_136 ?_
    refine lv_ldiv hx hb dX10_swing_139 (by decide) ?_
    refine lv_ladd hx hb dX10_swing_140 ?_
    refine lv_ldc hx hb hown (hts (.constant RX10 140 (1800000)) (List.mem_of_getElem? (i := 6) rfl)) dX10_swing_141 ?_
    refine z_Ri (va_runS (As := [.long (((g_2 4).toInt64) + (((((g_2, v.2).1 (20 + 1)).toInt64) * ((g_2 5).toInt64)) / (1000 : Int64))), .int (1800000 : Int32)]) (rest := [.int (4 : Int32), .ref h1]) ⟨hx, hb, hml, hown, hts⟩ (c_X10_limited l D cA  (((g_2 4).toInt64) + (((((g_2, v.2).1 (20 + 1)).toInt64) * ((g_2 5).toInt64)) / (1000 : Int64))) (1800000 : Int32)) (va_cwS 2 hts gX10_swing_X10_limited rfl rfl rfl (by decide +kernel) ⟨Nat.le_of_ble_eq_true rfl, Nat.le_of_ble_eq_true rfl⟩) (zqSR0 hK hN) rfl rfl hl.1 rfl (lv_room (Nat.le_of_ble_eq_true rfl)) dX10_swing_143 ⟨Nat.le_of_ble_eq_true rfl, Nat.le_of_ble_eq_true rfl⟩) ?_
    refine z_iast (k := 4) hx hb hK hP hD hS 1 1 rfl rfl rfl (by decide) (by decide) dX10_swing_146 (fun g_3 eg_3 H locs hP hD hS => ?_)
    have hP : va_P D vwCl [(h0, .inr (10, [.ref h1, .ref h2, .ref h3, .ref h4, .ref h5, .ref h6, .int v.2.2.2.2.2.2.1, .ref h7, .ref h8, .ref h9, .ref h10, .int v.2.2.2.2.2.2.2.2.2.2.2.1, .int v.2.2.2.2.2.2.2.2.2.2.2.2.1, .int v.2.2.2.2.2.2.2.2.2.2.2.2.2.1, .ref h11, .int v.2.2.2.2.2.2.2.2.2.2.2.2.2.2.2])), (h1, .inl ((cA 1), 85, .inl g_3)), (h2, .inl ((cA 0), 9, .inr (.inl v.2.1))), (h3, .inl ((cA 1), 85, .inl v.2.2.1)), (h4, .inl ((cA 0), 9, .inr (.inl v.2.2.2.1))), (h5, .inl ((cA 1), 510, .inl v.2.2.2.2.1)), (h6, .inl ((cA 0), 54, .inr (.inl v.2.2.2.2.2.1))), (h7, .inl ((cA 1), 170, .inl v.2.2.2.2.2.2.2.1)), (h8, .inl ((cA 0), 18, .inr (.inl v.2.2.2.2.2.2.2.2.1))), (h9, .inl ((cA 2), 2, .inl v.2.2.2.2.2.2.2.2.2.1)), (h10, .inl ((cA 1), 80, .inl v.2.2.2.2.2.2.2.2.2.2.1)), (h11, .inl ((cA 1), 60, .inl v.2.2.2.2.2.2.2.2.2.2.2.2.2.2.1))] H := hP
    have hD : va_D A [(h0, .inr (10, [.ref h1, .ref h2, .ref h3, .ref h4, .ref h5, .ref h6, .int v.2.2.2.2.2.2.1, .ref h7, .ref h8, .ref h9, .ref h10, .int v.2.2.2.2.2.2.2.2.2.2.2.1, .int v.2.2.2.2.2.2.2.2.2.2.2.2.1, .int v.2.2.2.2.2.2.2.2.2.2.2.2.2.1, .ref h11, .int v.2.2.2.2.2.2.2.2.2.2.2.2.2.2.2])), (h1, .inl ((cA 1), 85, .inl g_3)), (h2, .inl ((cA 0), 9, .inr (.inl v.2.1))), (h3, .inl ((cA 1), 85, .inl v.2.2.1)), (h4, .inl ((cA 0), 9, .inr (.inl v.2.2.2.1))), (h5, .inl ((cA 1), 510, .inl v.2.2.2.2.1)), (h6, .inl ((cA 0), 54, .inr (.inl v.2.2.2.2.2.1))), (h7, .inl ((cA 1), 170, .inl v.2.2.2.2.2.2.2.1)), (h8, .inl ((cA 0), 18, .inr (.inl v.2.2.2.2.2.2.2.2.1))), (h9, .inl ((cA 2), 2, .inl v.2.2.2.2.2.2.2.2.2.1)), (h10, .inl ((cA 1), 80, .inl v.2.2.2.2.2.2.2.2.2.2.1)), (h11, .inl ((cA 1), 60, .inl v.2.2.2.2.2.2.2.2.2.2.2.2.2.2.1))] := hD
    have e9 : (fm_swing v) = (g_3, v.2) := by unfold fm_swing fm_sw2 fm_sw1 fm_tilt fm_damp1; simp only [← eg_2, ← eg_3, if_neg c_1] <;> rfl
    have hP9 : va_P D vwCl (wX10 cA h0 h1 h2 h3 h4 h5 h6 h7 h8 h9 h10 h11 ((g_3, v.2) : vX10)) H := hP
    have hD9 : va_D A (wX10 cA h0 h1 h2 h3 h4 h5 h6 h7 h8 h9 h10 h11 ((g_3, v.2) : vX10)) := hD
    subst hQ
    exact W.vret hx hb hr (fun t ht hW => ⟨⟨(g_3, v.2), rfl, e9.symm, ⟨by rw [ht]; exact hP9, va_K.moved hW.alike hK, hD9⟩⟩, hS.F ht⟩) hS.2.2 dX10_swing_147
  · skip
    have c_1 : ((v.1 8).toInt64) = (0 : Int64) := (lg_cmp_eq _ _).mp kc_1
    refine lv_lconst (v := 0) hx hb dX10_swing_15 (by decide) ?_
    refine lv_goto (tgt := 32) hx hb dX10_swing_16 (by decide) ?_
    refine lv_lstore_n (lv' := [(3, .long (0 : Int64)), (1, .long ((v.1 8).toInt64)), (0, .ref h0)]) hx hb dX10_swing_32 rfl hl (by decide) rfl (fun ls hl => ?_)
    refine lv_aload_n hx hb dX10_swing_33 rfl (lv_at hl 2 rfl) ?_
    refine lv_iconst (v := 0) hx hb dX10_swing_34 (by decide) ?_
    refine z_Ri (va_runV (As := [.int (0 : Int32)]) (rest := []) ⟨hx, hb, hml, hown, hts⟩ (c_X10_setting l D cA h0 h1 h2 h3 h4 h5 h6 h7 h8 h9 h10 h11 0 v (by decide)) (cwV 1 hts gX10_swing_X10_setting rfl rfl rfl (by decide +kernel) ⟨Nat.le_of_ble_eq_true rfl, Nat.le_of_ble_eq_true rfl⟩) (zqVR hK hP hN (z_c1 (a := []) (b := []) rfl) 0 rfl rfl) rfl rfl hl.1 rfl (lv_room (Nat.le_of_ble_eq_true rfl)) dX10_swing_35 ⟨Nat.le_of_ble_eq_true rfl, Nat.le_of_ble_eq_true rfl⟩) ?_
    refine lv_i2l hx hb dX10_swing_38 rfl ?_
    refine lv_aload_n hx hb dX10_swing_39 rfl (lv_at hl 2 rfl) ?_
    refine va_get (D := D) (ci := 10) (v := .ref h1) (C := RX10) (T := TX10) (N := 16) hx hb hts hinX10 hown hK hP 0 rfl rfl 0 (by decide) (hts (.fieldLink RX10 7 "GyroTrainerModel" "at" "[I") (List.mem_of_getElem? (i := 1) rfl)) (fun _ h9 => h9) rfl dX10_swing_40 ?_
    refine lv_iconst (v := 4) hx hb dX10_swing_43 (by decide) ?_
    refine z_iald (k := 4) hx hb hK hP 1 1 rfl rfl rfl (by decide) (by decide) dX10_swing_44 ?_
    refine lv_aload_n hx hb dX10_swing_45 rfl (lv_at hl 2 rfl) ?_
    refine z_Ri (va_runV (As := []) (rest := [.int (v.1 4), .long ((v.1 (20 + 0)).toInt64)]) ⟨hx, hb, hml, hown, hts⟩ (c_X10_rest l D cA h0 h1 h2 h3 h4 h5 h6 h7 h8 h9 h10 h11 v hR) (cwV 0 hts gX10_swing_X10_rest rfl rfl rfl (by decide +kernel) ⟨Nat.le_of_ble_eq_true rfl, Nat.le_of_ble_eq_true rfl⟩) (zqVR hK hP hN (z_c1 (a := []) (b := []) rfl) 0 rfl rfl) rfl rfl hl.1 rfl (lv_room (Nat.le_of_ble_eq_true rfl)) dX10_swing_46 ⟨Nat.le_of_ble_eq_true rfl, Nat.le_of_ble_eq_true rfl⟩) ?_
    refine lv_isub hx hb dX10_swing_49 ?_
    refine lv_i2l hx hb dX10_swing_50 rfl ?_
    refine lv_lmul hx hb dX10_swing_51 ?_
    refine lv_ldc2 hx hb hown (hts (.constantLong RX10 132 (1000)) (List.mem_of_getElem? (i := 3) rfl)) dX10_swing_52 ?_
    refine lv_ldiv hx hb dX10_swing_55 (by decide) ?_
    refine lv_lstore (lv' := [(5, .long ((((v.1 (20 + 0)).toInt64) * (((v.1 4) - (fm_rest v.1)).toInt64)) / (1000 : Int64))), (3, .long (0 : Int64)), (1, .long ((v.1 8).toInt64)), (0, .ref h0)]) hx hb dX10_swing_56 hl (by decide) rfl (fun ls hl => ?_)
    refine lv_aload_n hx hb dX10_swing_58 rfl (lv_at hl 3 rfl) ?_
    refine va_get (D := D) (ci := 10) (v := .ref h1) (C := RX10) (T := TX10) (N := 16) hx hb hts hinX10 hown hK hP 0 rfl rfl 0 (by decide) (hts (.fieldLink RX10 7 "GyroTrainerModel" "at" "[I") (List.mem_of_getElem? (i := 1) rfl)) (fun _ h9 => h9) rfl dX10_swing_59 ?_
    refine lv_iconst (v := 5) hx hb dX10_swing_62 (by decide) ?_
    refine z_iald (k := 5) hx hb hK hP 1 1 rfl rfl rfl (by decide) (by decide) dX10_swing_63 ?_
    refine lv_i2l hx hb dX10_swing_64 rfl ?_
    refine lv_lload hx hb dX10_swing_65 (lv_at hl 0 rfl) ?_
    refine lv_aload_n hx hb dX10_swing_67 rfl (lv_at hl 3 rfl) ?_
    refine va_get (D := D) (ci := 10) (v := .ref h1) (C := RX10) (T := TX10) (N := 16) hx hb hts hinX10 hown hK hP 0 rfl rfl 0 (by decide) (hts (.fieldLink RX10 7 "GyroTrainerModel" "at" "[I") (List.mem_of_getElem? (i := 1) rfl)) (fun _ h9 => h9) rfl dX10_swing_68 ?_
    refine lv_iconst (v := 0) hx hb dX10_swing_71 (by decide) ?_
    refine z_iald (k := 0) hx hb hK hP 1 1 rfl rfl rfl (by decide) (by decide) dX10_swing_72 ?_
    refine z_Rl (va_runS (As := [.int (v.1 0)]) (rest := [.long ((((v.1 (20 + 0)).toInt64) * (((v.1 4) - (fm_rest v.1)).toInt64)) / (1000 : Int64)), .long ((v.1 5).toInt64)]) ⟨hx, hb, hml, hown, hts⟩ (c_X10_cosineOf l D cA  (v.1 0) hR.1) (va_cwS 1 hts gX10_swing_X10_cosineOf rfl rfl rfl (by decide +kernel) ⟨Nat.le_of_ble_eq_true rfl, Nat.le_of_ble_eq_true rfl⟩) (zqSR0 hK hN) rfl rfl hl.1 rfl (lv_room (Nat.le_of_ble_eq_true rfl)) dX10_swing_73 ⟨Nat.le_of_ble_eq_true rfl, Nat.le_of_ble_eq_true rfl⟩) ?_
    refine lv_lmul hx hb dX10_swing_76 ?_
    refine lv_ldc2 hx hb hown (hts (.constantLong RX10 134 (1000000)) (List.mem_of_getElem? (i := 4) rfl)) dX10_swing_77 ?_
    refine lv_ldiv hx hb dX10_swing_80 (by decide) ?_
    refine lv_lsub hx hb dX10_swing_81 ?_
    refine lv_lstore (lv' := [(7, .long (((v.1 5).toInt64) - ((((((v.1 (20 + 0)).toInt64) * (((v.1 4) - (fm_rest v.1)).toInt64)) / (1000 : Int64)) * (fm_cosOf (v.1 0))) / (1000000 : Int64)))), (5, .long ((((v.1 (20 + 0)).toInt64) * (((v.1 4) - (fm_rest v.1)).toInt64)) / (1000 : Int64))), (3, .long (0 : Int64)), (1, .long ((v.1 8).toInt64)), (0, .ref h0)]) hx hb dX10_swing_82 hl (by decide) rfl (fun ls hl => ?_)
    refine lv_lload hx hb dX10_swing_84 (lv_at hl 0 rfl) ?_
    refine lv_lload hx hb dX10_swing_86 (lv_at hl 0 rfl) ?_
    refine lv_lload_n hx hb dX10_swing_88 rfl (lv_at hl 2 rfl) ?_
    refine lv_lmul hx hb dX10_swing_89 ?_
    refine lv_ldc2 hx hb hown (hts (.constantLong RX10 132 (1000)) (List.mem_of_getElem? (i := 3) rfl)) dX10_swing_90 ?_
    refine lv_ldiv hx hb dX10_swing_93 (by decide) ?_
    refine lv_lsub hx hb dX10_swing_94 ?_
    refine lv_lstore (lv' := [(7, .long ((((v.1 5).toInt64) - ((((((v.1 (20 + 0)).toInt64) * (((v.1 4) - (fm_rest v.1)).toInt64)) / (1000 : Int64)) * (fm_cosOf (v.1 0))) / (1000000 : Int64))) - (((((v.1 5).toInt64) - ((((((v.1 (20 + 0)).toInt64) * (((v.1 4) - (fm_rest v.1)).toInt64)) / (1000 : Int64)) * (fm_cosOf (v.1 0))) / (1000000 : Int64))) * (0 : Int64)) / (1000 : Int64)))), (5, .long ((((v.1 (20 + 0)).toInt64) * (((v.1 4) - (fm_rest v.1)).toInt64)) / (1000 : Int64))), (3, .long (0 : Int64)), (1, .long ((v.1 8).toInt64)), (0, .ref h0)]) hx hb dX10_swing_95 hl (by decide) rfl (fun ls hl => ?_)
    refine lv_aload_n hx hb dX10_swing_97 rfl (lv_at hl 4 rfl) ?_
    refine va_get (D := D) (ci := 10) (v := .ref h1) (C := RX10) (T := TX10) (N := 16) hx hb hts hinX10 hown hK hP 0 rfl rfl 0 (by decide) (hts (.fieldLink RX10 7 "GyroTrainerModel" "at" "[I") (List.mem_of_getElem? (i := 1) rfl)) (fun _ h9 => h9) rfl dX10_swing_98 ?_
    refine lv_iconst (v := 5) hx hb dX10_swing_101 (by decide) ?_
    refine lv_lload hx hb dX10_swing_102 (lv_at hl 0 rfl) ?_
    refine lv_ldc hx hb hown (hts (.constant RX10 109 (900000)) (List.mem_of_getElem? (i := 5) rfl)) dX10_swing_104 ?_
    refine z_Ri (va_runS (As := [.long ((((v.1 5).toInt64) - ((((((v.1 (20 + 0)).toInt64) * (((v.1 4) - (fm_rest v.1)).toInt64)) / (1000 : Int64)) * (fm_cosOf (v.1 0))) / (1000000 : Int64))) - (((((v.1 5).toInt64) - ((((((v.1 (20 + 0)).toInt64) * (((v.1 4) - (fm_rest v.1)).toInt64)) / (1000 : Int64)) * (fm_cosOf (v.1 0))) / (1000000 : Int64))) * (0 : Int64)) / (1000 : Int64))), .int (900000 : Int32)]) (rest := [.int (5 : Int32), .ref h1]) ⟨hx, hb, hml, hown, hts⟩ (c_X10_limited l D cA  ((((v.1 5).toInt64) - ((((((v.1 (20 + 0)).toInt64) * (((v.1 4) - (fm_rest v.1)).toInt64)) / (1000 : Int64)) * (fm_cosOf (v.1 0))) / (1000000 : Int64))) - (((((v.1 5).toInt64) - ((((((v.1 (20 + 0)).toInt64) * (((v.1 4) - (fm_rest v.1)).toInt64)) / (1000 : Int64)) * (fm_cosOf (v.1 0))) / (1000000 : Int64))) * (0 : Int64)) / (1000 : Int64))) (900000 : Int32)) (va_cwS 2 hts gX10_swing_X10_limited rfl rfl rfl (by decide +kernel) ⟨Nat.le_of_ble_eq_true rfl, Nat.le_of_ble_eq_true rfl⟩) (zqSR0 hK hN) rfl rfl hl.1 rfl (lv_room (Nat.le_of_ble_eq_true rfl)) dX10_swing_106 ⟨Nat.le_of_ble_eq_true rfl, Nat.le_of_ble_eq_true rfl⟩) ?_
    refine z_iast (k := 5) hx hb hK hP hD hS 1 1 rfl rfl rfl (by decide) (by decide) dX10_swing_109 (fun g_4 eg_4 H locs hP hD hS => ?_)
    have hP : va_P D vwCl [(h0, .inr (10, [.ref h1, .ref h2, .ref h3, .ref h4, .ref h5, .ref h6, .int v.2.2.2.2.2.2.1, .ref h7, .ref h8, .ref h9, .ref h10, .int v.2.2.2.2.2.2.2.2.2.2.2.1, .int v.2.2.2.2.2.2.2.2.2.2.2.2.1, .int v.2.2.2.2.2.2.2.2.2.2.2.2.2.1, .ref h11, .int v.2.2.2.2.2.2.2.2.2.2.2.2.2.2.2])), (h1, .inl ((cA 1), 85, .inl g_4)), (h2, .inl ((cA 0), 9, .inr (.inl v.2.1))), (h3, .inl ((cA 1), 85, .inl v.2.2.1)), (h4, .inl ((cA 0), 9, .inr (.inl v.2.2.2.1))), (h5, .inl ((cA 1), 510, .inl v.2.2.2.2.1)), (h6, .inl ((cA 0), 54, .inr (.inl v.2.2.2.2.2.1))), (h7, .inl ((cA 1), 170, .inl v.2.2.2.2.2.2.2.1)), (h8, .inl ((cA 0), 18, .inr (.inl v.2.2.2.2.2.2.2.2.1))), (h9, .inl ((cA 2), 2, .inl v.2.2.2.2.2.2.2.2.2.1)), (h10, .inl ((cA 1), 80, .inl v.2.2.2.2.2.2.2.2.2.2.1)), (h11, .inl ((cA 1), 60, .inl v.2.2.2.2.2.2.2.2.2.2.2.2.2.2.1))] H := hP
    have hD : va_D A [(h0, .inr (10, [.ref h1, .ref h2, .ref h3, .ref h4, .ref h5, .ref h6, .int v.2.2.2.2.2.2.1, .ref h7, .ref h8, .ref h9, .ref h10, .int v.2.2.2.2.2.2.2.2.2.2.2.1, .int v.2.2.2.2.2.2.2.2.2.2.2.2.1, .int v.2.2.2.2.2.2.2.2.2.2.2.2.2.1, .ref h11, .int v.2.2.2.2.2.2.2.2.2.2.2.2.2.2.2])), (h1, .inl ((cA 1), 85, .inl g_4)), (h2, .inl ((cA 0), 9, .inr (.inl v.2.1))), (h3, .inl ((cA 1), 85, .inl v.2.2.1)), (h4, .inl ((cA 0), 9, .inr (.inl v.2.2.2.1))), (h5, .inl ((cA 1), 510, .inl v.2.2.2.2.1)), (h6, .inl ((cA 0), 54, .inr (.inl v.2.2.2.2.2.1))), (h7, .inl ((cA 1), 170, .inl v.2.2.2.2.2.2.2.1)), (h8, .inl ((cA 0), 18, .inr (.inl v.2.2.2.2.2.2.2.2.1))), (h9, .inl ((cA 2), 2, .inl v.2.2.2.2.2.2.2.2.2.1)), (h10, .inl ((cA 1), 80, .inl v.2.2.2.2.2.2.2.2.2.2.1)), (h11, .inl ((cA 1), 60, .inl v.2.2.2.2.2.2.2.2.2.2.2.2.2.2.1))] := hD
    refine lv_aload_n hx hb dX10_swing_110 rfl (lv_at hl 4 rfl) ?_
    refine va_get (D := D) (ci := 10) (v := .ref h1) (C := RX10) (T := TX10) (N := 16) hx hb hts hinX10 hown hK hP 0 rfl rfl 0 (by decide) (hts (.fieldLink RX10 7 "GyroTrainerModel" "at" "[I") (List.mem_of_getElem? (i := 1) rfl)) (fun _ h9 => h9) rfl dX10_swing_111 ?_
    refine lv_iconst (v := 4) hx hb dX10_swing_114 (by decide) ?_
    refine lv_aload_n hx hb dX10_swing_115 rfl (lv_at hl 4 rfl) ?_
    refine va_get (D := D) (ci := 10) (v := .ref h1) (C := RX10) (T := TX10) (N := 16) hx hb hts hinX10 hown hK hP 0 rfl rfl 0 (by decide) (hts (.fieldLink RX10 7 "GyroTrainerModel" "at" "[I") (List.mem_of_getElem? (i := 1) rfl)) (fun _ h9 => h9) rfl dX10_swing_116 ?_
    refine lv_iconst (v := 4) hx hb dX10_swing_119 (by decide) ?_
    refine z_iald (k := 4) hx hb hK hP 1 1 rfl rfl rfl (by decide) (by decide) dX10_swing_120 ?_
    refine lv_i2l hx hb dX10_swing_121 rfl ?_
    refine lv_aload_n hx hb dX10_swing_122 rfl (lv_at hl 4 rfl) ?_
    refine lv_iconst (v := 1) hx hb dX10_swing_123 (by decide) ?_
    refine z_Ri (va_runV (As := [.int (1 : Int32)]) (rest := [.long ((g_4 4).toInt64), .int (4 : Int32), .ref h1]) ⟨hx, hb, hml, hown, hts⟩ (c_X10_setting l D cA h0 h1 h2 h3 h4 h5 h6 h7 h8 h9 h10 h11 1 (g_4, v.2) (by decide)) (cwV 1 hts gX10_swing_X10_setting rfl rfl rfl (by decide +kernel) ⟨Nat.le_of_ble_eq_true rfl, Nat.le_of_ble_eq_true rfl⟩) (zqVR hK hP hN (z_c1 (a := []) (b := []) rfl) 0 rfl rfl) rfl rfl hl.1 rfl (lv_room (Nat.le_of_ble_eq_true rfl)) dX10_swing_124 ⟨Nat.le_of_ble_eq_true rfl, Nat.le_of_ble_eq_true rfl⟩) ?_
    refine lv_i2l hx hb dX10_swing_127 rfl ?_
    refine lv_aload_n hx hb dX10_swing_128 rfl (lv_at hl 4 rfl) ?_
    refine va_get (D := D) (ci := 10) (v := .ref h1) (C := RX10) (T := TX10) (N := 16) hx hb hts hinX10 hown hK hP 0 rfl rfl 0 (by decide) (hts (.fieldLink RX10 7 "GyroTrainerModel" "at" "[I") (List.mem_of_getElem? (i := 1) rfl)) (fun _ h9 => h9) rfl dX10_swing_129 ?_
    refine lv_iconst (v := 5) hx hb dX10_swing_132 (by decide) ?_
    refine z_iald (k := 5) hx hb hK hP 1 1 rfl rfl rfl (by decide) (by decide) dX10_swing_133 ?_
    refine lv_i2l hx hb dX10_swing_134 rfl ?_
    refine lv_lmul hx hb dX10_swing_135 ?_
    refine lv_ldc2 hx hb hown (hts (.constantLong RX10 132 (1000)) (List.mem_of_getElem? (i := 3) rfl)) dX10_swing_136 ?_
    refine lv_ldiv hx hb dX10_swing_139 (by decide) ?_
    refine lv_ladd hx hb dX10_swing_140 ?_
    refine lv_ldc hx hb hown (hts (.constant RX10 140 (1800000)) (List.mem_of_getElem? (i := 6) rfl)) dX10_swing_141 ?_
    refine z_Ri (va_runS (As := [.long (((g_4 4).toInt64) + (((((g_4, v.2).1 (20 + 1)).toInt64) * ((g_4 5).toInt64)) / (1000 : Int64))), .int (1800000 : Int32)]) (rest := [.int (4 : Int32), .ref h1]) ⟨hx, hb, hml, hown, hts⟩ (c_X10_limited l D cA  (((g_4 4).toInt64) + (((((g_4, v.2).1 (20 + 1)).toInt64) * ((g_4 5).toInt64)) / (1000 : Int64))) (1800000 : Int32)) (va_cwS 2 hts gX10_swing_X10_limited rfl rfl rfl (by decide +kernel) ⟨Nat.le_of_ble_eq_true rfl, Nat.le_of_ble_eq_true rfl⟩) (zqSR0 hK hN) rfl rfl hl.1 rfl (lv_room (Nat.le_of_ble_eq_true rfl)) dX10_swing_143 ⟨Nat.le_of_ble_eq_true rfl, Nat.le_of_ble_eq_true rfl⟩) ?_
    refine z_iast (k := 4) hx hb hK hP hD hS 1 1 rfl rfl rfl (by decide) (by decide) dX10_swing_146 (fun g_5 eg_5 H locs hP hD hS => ?_)
    have hP : va_P D vwCl [(h0, .inr (10, [.ref h1, .ref h2, .ref h3, .ref h4, .ref h5, .ref h6, .int v.2.2.2.2.2.2.1, .ref h7, .ref h8, .ref h9, .ref h10, .int v.2.2.2.2.2.2.2.2.2.2.2.1, .int v.2.2.2.2.2.2.2.2.2.2.2.2.1, .int v.2.2.2.2.2.2.2.2.2.2.2.2.2.1, .ref h11, .int v.2.2.2.2.2.2.2.2.2.2.2.2.2.2.2])), (h1, .inl ((cA 1), 85, .inl g_5)), (h2, .inl ((cA 0), 9, .inr (.inl v.2.1))), (h3, .inl ((cA 1), 85, .inl v.2.2.1)), (h4, .inl ((cA 0), 9, .inr (.inl v.2.2.2.1))), (h5, .inl ((cA 1), 510, .inl v.2.2.2.2.1)), (h6, .inl ((cA 0), 54, .inr (.inl v.2.2.2.2.2.1))), (h7, .inl ((cA 1), 170, .inl v.2.2.2.2.2.2.2.1)), (h8, .inl ((cA 0), 18, .inr (.inl v.2.2.2.2.2.2.2.2.1))), (h9, .inl ((cA 2), 2, .inl v.2.2.2.2.2.2.2.2.2.1)), (h10, .inl ((cA 1), 80, .inl v.2.2.2.2.2.2.2.2.2.2.1)), (h11, .inl ((cA 1), 60, .inl v.2.2.2.2.2.2.2.2.2.2.2.2.2.2.1))] H := hP
    have hD : va_D A [(h0, .inr (10, [.ref h1, .ref h2, .ref h3, .ref h4, .ref h5, .ref h6, .int v.2.2.2.2.2.2.1, .ref h7, .ref h8, .ref h9, .ref h10, .int v.2.2.2.2.2.2.2.2.2.2.2.1, .int v.2.2.2.2.2.2.2.2.2.2.2.2.1, .int v.2.2.2.2.2.2.2.2.2.2.2.2.2.1, .ref h11, .int v.2.2.2.2.2.2.2.2.2.2.2.2.2.2.2])), (h1, .inl ((cA 1), 85, .inl g_5)), (h2, .inl ((cA 0), 9, .inr (.inl v.2.1))), (h3, .inl ((cA 1), 85, .inl v.2.2.1)), (h4, .inl ((cA 0), 9, .inr (.inl v.2.2.2.1))), (h5, .inl ((cA 1), 510, .inl v.2.2.2.2.1)), (h6, .inl ((cA 0), 54, .inr (.inl v.2.2.2.2.2.1))), (h7, .inl ((cA 1), 170, .inl v.2.2.2.2.2.2.2.1)), (h8, .inl ((cA 0), 18, .inr (.inl v.2.2.2.2.2.2.2.2.1))), (h9, .inl ((cA 2), 2, .inl v.2.2.2.2.2.2.2.2.2.1)), (h10, .inl ((cA 1), 80, .inl v.2.2.2.2.2.2.2.2.2.2.1)), (h11, .inl ((cA 1), 60, .inl v.2.2.2.2.2.2.2.2.2.2.2.2.2.2.1))] := hD
    have e9 : (fm_swing v) = (g_5, v.2) := by unfold fm_swing fm_sw2 fm_sw1 fm_tilt fm_damp1; simp only [← eg_4, ← eg_5, if_pos c_1] <;> rfl
    have hP9 : va_P D vwCl (wX10 cA h0 h1 h2 h3 h4 h5 h6 h7 h8 h9 h10 h11 ((g_5, v.2) : vX10)) H := hP
    have hD9 : va_D A (wX10 cA h0 h1 h2 h3 h4 h5 h6 h7 h8 h9 h10 h11 ((g_5, v.2) : vX10)) := hD
    subst hQ
    exact W.vret hx hb hr (fun t ht hW => ⟨⟨(g_5, v.2), rfl, e9.symm, ⟨by rw [ht]; exact hP9, va_K.moved hW.alike hK, hD9⟩⟩, hS.F ht⟩) hS.2.2 dX10_swing_147
set_option maxHeartbeats 4000000 in
set_option maxRecDepth 100000 in
theorem c_X10_makeMinute (l : Launch) (D : va_G) (cA : Nat → ClassId) (h0 h1 h2 h3 h4 h5 h6 h7 h8 h9 h10 h11 : Nat) (sz : Nat) (t : Nat) (lv : Nat) (k0 : Nat) (v : vX10) (hR : okR v.1) (ht : v.1 13 = nI t) (ht8 : t ≤ 8) (hlv8 : v.1 8 = nI lv) (hlv : lv ≤ 4) (h3k : v.1 3 = nI k0) (hk8 : k0 ≤ 8) : Met l yX10_makeMinute wsX10_makeMinute ({ frames := 7, cells := 0, slots := 0, locals := 157 }) (va_Pc [.ref h0] (zPre D (zty cA) (wX10 cA h0 h1 h2 h3 h4 h5 h6 h7 h8 h9 h10 h11 v) sz)) (va_Qv (fun (u : vX10) => u = (fm_minute t lv k0 v)) (fun u => zPost D (zty cA) (va_A (wX10 cA h0 h1 h2 h3 h4 h5 h6 h7 h8 h9 h10 h11 v) sz) (wX10 cA h0 h1 h2 h3 h4 h5 h6 h7 h8 h9 h10 h11 u)) (va_A (wX10 cA h0 h1 h2 h3 h4 h5 h6 h7 h8 h9 h10 h11 v) sz)) 0 0 (va_A (wX10 cA h0 h1 h2 h3 h4 h5 h6 h7 h8 h9 h10 h11 v) sz) := by
  refine Met.ofW (cc := cX10_makeMinute) (maxL := 4) (ret := none) (by decide) rfl ?_
  intro p e s m args below meth c s₁ B hml hv
  obtain ⟨rfl, hsz, hP, hK, hD0, hE⟩ := hv
  have hx := B.exec
  have hb := B.bytes
  have hr := B.returns
  have hts := atoms_spec (ws := wsX10_makeMinute) B.pre
  have hown : s.vm.findClass RX10 = some m.cls := findClass_of_methodNamed B.named
  have hlocks := B.notSynchronized
  have hinX10 : ∀ w ∈ u_ws RX10 TX10 16, w ∈ wsX10_makeMinute := fun w h => List.mem_cons_of_mem _ (List.mem_append_right _ h)
  subst hsz
  have hD := hD0.self (sz := s.heap.size)
  generalize hAe : va_A (wX10 cA h0 h1 h2 h3 h4 h5 h6 h7 h8 h9 h10 h11 v) s.heap.size = A at hD hE ⊢
  have hA : ∀ q : Nat, s.heap.size ≤ q → A q := fun q h => by rw [← hAe]; exact Or.inr h
  have hS : va_S A s.heap s.heap [] := va_S.rf
  have hN : zN s := hE.1
  have hP : va_P D vwCl [(h0, .inr (10, [.ref h1, .ref h2, .ref h3, .ref h4, .ref h5, .ref h6, .int v.2.2.2.2.2.2.1, .ref h7, .ref h8, .ref h9, .ref h10, .int v.2.2.2.2.2.2.2.2.2.2.2.1, .int v.2.2.2.2.2.2.2.2.2.2.2.2.1, .int v.2.2.2.2.2.2.2.2.2.2.2.2.2.1, .ref h11, .int v.2.2.2.2.2.2.2.2.2.2.2.2.2.2.2])), (h1, .inl ((cA 1), 85, .inl v.1)), (h2, .inl ((cA 0), 9, .inr (.inl v.2.1))), (h3, .inl ((cA 1), 85, .inl v.2.2.1)), (h4, .inl ((cA 0), 9, .inr (.inl v.2.2.2.1))), (h5, .inl ((cA 1), 510, .inl v.2.2.2.2.1)), (h6, .inl ((cA 0), 54, .inr (.inl v.2.2.2.2.2.1))), (h7, .inl ((cA 1), 170, .inl v.2.2.2.2.2.2.2.1)), (h8, .inl ((cA 0), 18, .inr (.inl v.2.2.2.2.2.2.2.2.1))), (h9, .inl ((cA 2), 2, .inl v.2.2.2.2.2.2.2.2.2.1)), (h10, .inl ((cA 1), 80, .inl v.2.2.2.2.2.2.2.2.2.2.1)), (h11, .inl ((cA 1), 60, .inl v.2.2.2.2.2.2.2.2.2.2.2.2.2.2.1))] s.heap := hP
  have hD : va_D A [(h0, .inr (10, [.ref h1, .ref h2, .ref h3, .ref h4, .ref h5, .ref h6, .int v.2.2.2.2.2.2.1, .ref h7, .ref h8, .ref h9, .ref h10, .int v.2.2.2.2.2.2.2.2.2.2.2.1, .int v.2.2.2.2.2.2.2.2.2.2.2.2.1, .int v.2.2.2.2.2.2.2.2.2.2.2.2.2.1, .ref h11, .int v.2.2.2.2.2.2.2.2.2.2.2.2.2.2.2])), (h1, .inl ((cA 1), 85, .inl v.1)), (h2, .inl ((cA 0), 9, .inr (.inl v.2.1))), (h3, .inl ((cA 1), 85, .inl v.2.2.1)), (h4, .inl ((cA 0), 9, .inr (.inl v.2.2.2.1))), (h5, .inl ((cA 1), 510, .inl v.2.2.2.2.1)), (h6, .inl ((cA 0), 54, .inr (.inl v.2.2.2.2.2.1))), (h7, .inl ((cA 1), 170, .inl v.2.2.2.2.2.2.2.1)), (h8, .inl ((cA 0), 18, .inr (.inl v.2.2.2.2.2.2.2.2.1))), (h9, .inl ((cA 2), 2, .inl v.2.2.2.2.2.2.2.2.2.1)), (h10, .inl ((cA 1), 80, .inl v.2.2.2.2.2.2.2.2.2.2.1)), (h11, .inl ((cA 1), 60, .inl v.2.2.2.2.2.2.2.2.2.2.2.2.2.2.1))] := hD
  have hl := lv_entry ([.ref h0]) (n := 4) (Nat.le_of_ble_eq_true rfl)
  rw [lg_entry_eq]
  generalize (lg_sl ([.ref h0]) ++ List.replicate (4 - (lg_sl ([.ref h0])).length) Slot.unset).toArray = ls at hl ⊢
  have hl : lv_has ls 4 [(0, .ref h0)] := hl
  refine z_genQ (fun Q hQ => ?_)
  refine lv_aload_n hx hb dX10_makeMinute_0 rfl (lv_at hl 0 rfl) ?_
  refine va_get (D := D) (ci := 10) (v := .ref h1) (C := RX10) (T := TX10) (N := 16) hx hb hts hinX10 hown hK hP 0 rfl rfl 0 (by decide) (hts (.fieldLink RX10 7 "GyroTrainerModel" "at" "[I") (List.mem_of_getElem? (i := 1) rfl)) (fun _ h9 => h9) rfl dX10_makeMinute_1 ?_
  refine lv_iconst (v := 1) hx hb dX10_makeMinute_4 (by decide) ?_
  refine lv_aload_n hx hb dX10_makeMinute_5 rfl (lv_at hl 0 rfl) ?_
  refine z_Ri (va_runV (As := []) (rest := [.int (1 : Int32), .ref h1]) ⟨hx, hb, hml, hown, hts⟩ (c_X10_course l D cA h0 h1 h2 h3 h4 h5 h6 h7 h8 h9 h10 h11 v) (cwV 0 hts gX10_makeMinute_X10_course rfl rfl rfl (by decide +kernel) ⟨Nat.le_of_ble_eq_true rfl, Nat.le_of_ble_eq_true rfl⟩) (zqVR hK hP hN (z_c1 (a := []) (b := []) rfl) 0 rfl rfl) rfl rfl hl.1 rfl (lv_room (Nat.le_of_ble_eq_true rfl)) dX10_makeMinute_6 ⟨Nat.le_of_ble_eq_true rfl, Nat.le_of_ble_eq_true rfl⟩) ?_
  refine z_iast (k := 1) hx hb hK hP hD hS 1 1 rfl rfl rfl (by decide) (by decide) dX10_makeMinute_9 (fun g_1 eg_1 H locs hP hD hS => ?_)
  have hP : va_P D vwCl [(h0, .inr (10, [.ref h1, .ref h2, .ref h3, .ref h4, .ref h5, .ref h6, .int v.2.2.2.2.2.2.1, .ref h7, .ref h8, .ref h9, .ref h10, .int v.2.2.2.2.2.2.2.2.2.2.2.1, .int v.2.2.2.2.2.2.2.2.2.2.2.2.1, .int v.2.2.2.2.2.2.2.2.2.2.2.2.2.1, .ref h11, .int v.2.2.2.2.2.2.2.2.2.2.2.2.2.2.2])), (h1, .inl ((cA 1), 85, .inl g_1)), (h2, .inl ((cA 0), 9, .inr (.inl v.2.1))), (h3, .inl ((cA 1), 85, .inl v.2.2.1)), (h4, .inl ((cA 0), 9, .inr (.inl v.2.2.2.1))), (h5, .inl ((cA 1), 510, .inl v.2.2.2.2.1)), (h6, .inl ((cA 0), 54, .inr (.inl v.2.2.2.2.2.1))), (h7, .inl ((cA 1), 170, .inl v.2.2.2.2.2.2.2.1)), (h8, .inl ((cA 0), 18, .inr (.inl v.2.2.2.2.2.2.2.2.1))), (h9, .inl ((cA 2), 2, .inl v.2.2.2.2.2.2.2.2.2.1)), (h10, .inl ((cA 1), 80, .inl v.2.2.2.2.2.2.2.2.2.2.1)), (h11, .inl ((cA 1), 60, .inl v.2.2.2.2.2.2.2.2.2.2.2.2.2.2.1))] H := hP
  have hD : va_D A [(h0, .inr (10, [.ref h1, .ref h2, .ref h3, .ref h4, .ref h5, .ref h6, .int v.2.2.2.2.2.2.1, .ref h7, .ref h8, .ref h9, .ref h10, .int v.2.2.2.2.2.2.2.2.2.2.2.1, .int v.2.2.2.2.2.2.2.2.2.2.2.2.1, .int v.2.2.2.2.2.2.2.2.2.2.2.2.2.1, .ref h11, .int v.2.2.2.2.2.2.2.2.2.2.2.2.2.2.2])), (h1, .inl ((cA 1), 85, .inl g_1)), (h2, .inl ((cA 0), 9, .inr (.inl v.2.1))), (h3, .inl ((cA 1), 85, .inl v.2.2.1)), (h4, .inl ((cA 0), 9, .inr (.inl v.2.2.2.1))), (h5, .inl ((cA 1), 510, .inl v.2.2.2.2.1)), (h6, .inl ((cA 0), 54, .inr (.inl v.2.2.2.2.2.1))), (h7, .inl ((cA 1), 170, .inl v.2.2.2.2.2.2.2.1)), (h8, .inl ((cA 0), 18, .inr (.inl v.2.2.2.2.2.2.2.2.1))), (h9, .inl ((cA 2), 2, .inl v.2.2.2.2.2.2.2.2.2.1)), (h10, .inl ((cA 1), 80, .inl v.2.2.2.2.2.2.2.2.2.2.1)), (h11, .inl ((cA 1), 60, .inl v.2.2.2.2.2.2.2.2.2.2.2.2.2.2.1))] := hD
  refine lv_aload_n hx hb dX10_makeMinute_10 rfl (lv_at hl 0 rfl) ?_
  refine va_get (D := D) (ci := 10) (v := .ref h1) (C := RX10) (T := TX10) (N := 16) hx hb hts hinX10 hown hK hP 0 rfl rfl 0 (by decide) (hts (.fieldLink RX10 7 "GyroTrainerModel" "at" "[I") (List.mem_of_getElem? (i := 1) rfl)) (fun _ h9 => h9) rfl dX10_makeMinute_11 ?_
  refine lv_iconst (v := 2) hx hb dX10_makeMinute_14 (by decide) ?_
  refine lv_aload_n hx hb dX10_makeMinute_15 rfl (lv_at hl 0 rfl) ?_
  refine z_Ri (va_runV (As := []) (rest := [.int (2 : Int32), .ref h1]) ⟨hx, hb, hml, hown, hts⟩ (c_X10_speed l D cA h0 h1 h2 h3 h4 h5 h6 h7 h8 h9 h10 h11 (g_1, v.2)) (cwV 0 hts gX10_makeMinute_X10_speed rfl rfl rfl (by decide +kernel) ⟨Nat.le_of_ble_eq_true rfl, Nat.le_of_ble_eq_true rfl⟩) (zqVR hK hP hN (z_c1 (a := []) (b := []) rfl) 0 rfl rfl) rfl rfl hl.1 rfl (lv_room (Nat.le_of_ble_eq_true rfl)) dX10_makeMinute_16 ⟨Nat.le_of_ble_eq_true rfl, Nat.le_of_ble_eq_true rfl⟩) ?_
  refine z_iast (k := 2) hx hb hK hP hD hS 1 1 rfl rfl rfl (by decide) (by decide) dX10_makeMinute_19 (fun g_2 eg_2 H locs hP hD hS => ?_)
  have hP : va_P D vwCl [(h0, .inr (10, [.ref h1, .ref h2, .ref h3, .ref h4, .ref h5, .ref h6, .int v.2.2.2.2.2.2.1, .ref h7, .ref h8, .ref h9, .ref h10, .int v.2.2.2.2.2.2.2.2.2.2.2.1, .int v.2.2.2.2.2.2.2.2.2.2.2.2.1, .int v.2.2.2.2.2.2.2.2.2.2.2.2.2.1, .ref h11, .int v.2.2.2.2.2.2.2.2.2.2.2.2.2.2.2])), (h1, .inl ((cA 1), 85, .inl g_2)), (h2, .inl ((cA 0), 9, .inr (.inl v.2.1))), (h3, .inl ((cA 1), 85, .inl v.2.2.1)), (h4, .inl ((cA 0), 9, .inr (.inl v.2.2.2.1))), (h5, .inl ((cA 1), 510, .inl v.2.2.2.2.1)), (h6, .inl ((cA 0), 54, .inr (.inl v.2.2.2.2.2.1))), (h7, .inl ((cA 1), 170, .inl v.2.2.2.2.2.2.2.1)), (h8, .inl ((cA 0), 18, .inr (.inl v.2.2.2.2.2.2.2.2.1))), (h9, .inl ((cA 2), 2, .inl v.2.2.2.2.2.2.2.2.2.1)), (h10, .inl ((cA 1), 80, .inl v.2.2.2.2.2.2.2.2.2.2.1)), (h11, .inl ((cA 1), 60, .inl v.2.2.2.2.2.2.2.2.2.2.2.2.2.2.1))] H := hP
  have hD : va_D A [(h0, .inr (10, [.ref h1, .ref h2, .ref h3, .ref h4, .ref h5, .ref h6, .int v.2.2.2.2.2.2.1, .ref h7, .ref h8, .ref h9, .ref h10, .int v.2.2.2.2.2.2.2.2.2.2.2.1, .int v.2.2.2.2.2.2.2.2.2.2.2.2.1, .int v.2.2.2.2.2.2.2.2.2.2.2.2.2.1, .ref h11, .int v.2.2.2.2.2.2.2.2.2.2.2.2.2.2.2])), (h1, .inl ((cA 1), 85, .inl g_2)), (h2, .inl ((cA 0), 9, .inr (.inl v.2.1))), (h3, .inl ((cA 1), 85, .inl v.2.2.1)), (h4, .inl ((cA 0), 9, .inr (.inl v.2.2.2.1))), (h5, .inl ((cA 1), 510, .inl v.2.2.2.2.1)), (h6, .inl ((cA 0), 54, .inr (.inl v.2.2.2.2.2.1))), (h7, .inl ((cA 1), 170, .inl v.2.2.2.2.2.2.2.1)), (h8, .inl ((cA 0), 18, .inr (.inl v.2.2.2.2.2.2.2.2.1))), (h9, .inl ((cA 2), 2, .inl v.2.2.2.2.2.2.2.2.2.1)), (h10, .inl ((cA 1), 80, .inl v.2.2.2.2.2.2.2.2.2.2.1)), (h11, .inl ((cA 1), 60, .inl v.2.2.2.2.2.2.2.2.2.2.2.2.2.2.1))] := hD
  refine lv_aload_n hx hb dX10_makeMinute_20 rfl (lv_at hl 0 rfl) ?_
  refine va_get (D := D) (ci := 10) (v := .ref h1) (C := RX10) (T := TX10) (N := 16) hx hb hts hinX10 hown hK hP 0 rfl rfl 0 (by decide) (hts (.fieldLink RX10 7 "GyroTrainerModel" "at" "[I") (List.mem_of_getElem? (i := 1) rfl)) (fun _ h9 => h9) rfl dX10_makeMinute_21 ?_
  refine lv_iconst (v := 4) hx hb dX10_makeMinute_24 (by decide) ?_
  refine z_iald (k := 4) hx hb hK hP 1 1 rfl rfl rfl (by decide) (by decide) dX10_makeMinute_25 ?_
  refine lv_istore_n (lv' := [(1, .int (g_2 4)), (0, .ref h0)]) hx hb dX10_makeMinute_26 rfl hl (by decide) rfl (fun ls hl => ?_)
  refine lv_aload_n hx hb dX10_makeMinute_27 rfl (lv_at hl 1 rfl) ?_
  refine z_Hv (wt := fun (u_3 : vX10) => [(h0, .inr (10, [.ref h1, .ref h2, .ref h3, .ref h4, .ref h5, .ref h6, .int u_3.2.2.2.2.2.2.1, .ref h7, .ref h8, .ref h9, .ref h10, .int u_3.2.2.2.2.2.2.2.2.2.2.2.1, .int u_3.2.2.2.2.2.2.2.2.2.2.2.2.1, .int u_3.2.2.2.2.2.2.2.2.2.2.2.2.2.1, .ref h11, .int u_3.2.2.2.2.2.2.2.2.2.2.2.2.2.2.2])), (h1, .inl ((cA 1), 85, .inl u_3.1)), (h2, .inl ((cA 0), 9, .inr (.inl u_3.2.1))), (h3, .inl ((cA 1), 85, .inl u_3.2.2.1)), (h4, .inl ((cA 0), 9, .inr (.inl u_3.2.2.2.1))), (h5, .inl ((cA 1), 510, .inl u_3.2.2.2.2.1)), (h6, .inl ((cA 0), 54, .inr (.inl u_3.2.2.2.2.2.1))), (h7, .inl ((cA 1), 170, .inl u_3.2.2.2.2.2.2.2.1)), (h8, .inl ((cA 0), 18, .inr (.inl u_3.2.2.2.2.2.2.2.2.1))), (h9, .inl ((cA 2), 2, .inl u_3.2.2.2.2.2.2.2.2.2.1)), (h10, .inl ((cA 1), 80, .inl u_3.2.2.2.2.2.2.2.2.2.2.1)), (h11, .inl ((cA 1), 60, .inl u_3.2.2.2.2.2.2.2.2.2.2.2.2.2.2.1))]) (va_runV (As := []) (rest := []) ⟨hx, hb, hml, hown, hts⟩ (c_X10_swing l D cA h0 h1 h2 h3 h4 h5 h6 h7 h8 h9 h10 h11 H.size (g_2, v.2) (by rw [eg_2, eg_1]; exact okR_12 hR _)) (cwV 0 hts gX10_makeMinute_X10_swing rfl rfl rfl (by decide +kernel) ⟨Nat.le_of_ble_eq_true rfl, Nat.le_of_ble_eq_true rfl⟩) (zqV hK hP hD hS hA hE (z_c1 (a := []) (b := []) rfl) 0 rfl rfl) rfl rfl hl.1 rfl (lv_room (Nat.le_of_ble_eq_true rfl)) dX10_makeMinute_28 ⟨Nat.le_of_ble_eq_true rfl, Nat.le_of_ble_eq_true rfl⟩) hP hD hS hA (z_c1 (a := []) (b := []) rfl) (fun u_3 => (z_c1' (a := []) (b := []) rfl)) (fun u_3 H locs eu_3 hP hD hS => ?_)
  have hP : va_P D vwCl [(h0, .inr (10, [.ref h1, .ref h2, .ref h3, .ref h4, .ref h5, .ref h6, .int u_3.2.2.2.2.2.2.1, .ref h7, .ref h8, .ref h9, .ref h10, .int u_3.2.2.2.2.2.2.2.2.2.2.2.1, .int u_3.2.2.2.2.2.2.2.2.2.2.2.2.1, .int u_3.2.2.2.2.2.2.2.2.2.2.2.2.2.1, .ref h11, .int u_3.2.2.2.2.2.2.2.2.2.2.2.2.2.2.2])), (h1, .inl ((cA 1), 85, .inl u_3.1)), (h2, .inl ((cA 0), 9, .inr (.inl u_3.2.1))), (h3, .inl ((cA 1), 85, .inl u_3.2.2.1)), (h4, .inl ((cA 0), 9, .inr (.inl u_3.2.2.2.1))), (h5, .inl ((cA 1), 510, .inl u_3.2.2.2.2.1)), (h6, .inl ((cA 0), 54, .inr (.inl u_3.2.2.2.2.2.1))), (h7, .inl ((cA 1), 170, .inl u_3.2.2.2.2.2.2.2.1)), (h8, .inl ((cA 0), 18, .inr (.inl u_3.2.2.2.2.2.2.2.2.1))), (h9, .inl ((cA 2), 2, .inl u_3.2.2.2.2.2.2.2.2.2.1)), (h10, .inl ((cA 1), 80, .inl u_3.2.2.2.2.2.2.2.2.2.2.1)), (h11, .inl ((cA 1), 60, .inl u_3.2.2.2.2.2.2.2.2.2.2.2.2.2.2.1))] H := hP
  have hD : va_D A [(h0, .inr (10, [.ref h1, .ref h2, .ref h3, .ref h4, .ref h5, .ref h6, .int u_3.2.2.2.2.2.2.1, .ref h7, .ref h8, .ref h9, .ref h10, .int u_3.2.2.2.2.2.2.2.2.2.2.2.1, .int u_3.2.2.2.2.2.2.2.2.2.2.2.2.1, .int u_3.2.2.2.2.2.2.2.2.2.2.2.2.2.1, .ref h11, .int u_3.2.2.2.2.2.2.2.2.2.2.2.2.2.2.2])), (h1, .inl ((cA 1), 85, .inl u_3.1)), (h2, .inl ((cA 0), 9, .inr (.inl u_3.2.1))), (h3, .inl ((cA 1), 85, .inl u_3.2.2.1)), (h4, .inl ((cA 0), 9, .inr (.inl u_3.2.2.2.1))), (h5, .inl ((cA 1), 510, .inl u_3.2.2.2.2.1)), (h6, .inl ((cA 0), 54, .inr (.inl u_3.2.2.2.2.2.1))), (h7, .inl ((cA 1), 170, .inl u_3.2.2.2.2.2.2.2.1)), (h8, .inl ((cA 0), 18, .inr (.inl u_3.2.2.2.2.2.2.2.2.1))), (h9, .inl ((cA 2), 2, .inl u_3.2.2.2.2.2.2.2.2.2.1)), (h10, .inl ((cA 1), 80, .inl u_3.2.2.2.2.2.2.2.2.2.2.1)), (h11, .inl ((cA 1), 60, .inl u_3.2.2.2.2.2.2.2.2.2.2.2.2.2.2.1))] := hD
  refine lv_aload_n hx hb dX10_makeMinute_31 rfl (lv_at hl 1 rfl) ?_
  refine va_get (D := D) (ci := 10) (v := .ref h1) (C := RX10) (T := TX10) (N := 16) hx hb hts hinX10 hown hK hP 0 rfl rfl 0 (by decide) (hts (.fieldLink RX10 7 "GyroTrainerModel" "at" "[I") (List.mem_of_getElem? (i := 1) rfl)) (fun _ h9 => h9) rfl dX10_makeMinute_32 ?_
  refine lv_iconst (v := 4) hx hb dX10_makeMinute_35 (by decide) ?_
  refine z_iald (k := 4) hx hb hK hP 1 1 rfl rfl rfl (by decide) (by decide) dX10_makeMinute_36 ?_
  refine lv_iload_n hx hb dX10_makeMinute_37 rfl (lv_at hl 0 rfl) ?_
  have E1 : fm_mm1 v.1 = g_2 := by unfold fm_mm1; rw [← eg_1, ← eg_2]
  have E2 : fm_swing (fm_mm1 v.1, v.2) = u_3 := by rw [E1, ← eu_3]
  have K8 : u_3.1 8 = nI lv := by rw [eu_3, sw_8, eg_2, eg_1]; exact hlv8
  have K3 : u_3.1 3 = nI k0 := by rw [eu_3, sw_3, eg_2, eg_1]; exact h3k
  have K13 : u_3.1 13 = nI t := by rw [eu_3, sw_13, eg_2, eg_1]; exact ht
  have K1 : zcR (u_3.1 1) := by rw [eu_3, sw_1, eg_2, eg_1]; exact hR.2.2
  have C82 : ∀ (w : vX10), (fm_mm2 t (fm_swing (fm_mm1 v.1, v.2)) (fm_mm1 v.1 4) = w) → (w.1 8 = nI lv) → (w.1 3 = nI k0) → (zcR (w.1 1)) → ∀ (H : Heap) (locs : List Loc), va_P D vwCl [(h0, .inr (10, [.ref h1, .ref h2, .ref h3, .ref h4, .ref h5, .ref h6, .int w.2.2.2.2.2.2.1, .ref h7, .ref h8, .ref h9, .ref h10, .int w.2.2.2.2.2.2.2.2.2.2.2.1, .int w.2.2.2.2.2.2.2.2.2.2.2.2.1, .int w.2.2.2.2.2.2.2.2.2.2.2.2.2.1, .ref h11, .int w.2.2.2.2.2.2.2.2.2.2.2.2.2.2.2])), (h1, .inl ((cA 1), 85, .inl w.1)), (h2, .inl ((cA 0), 9, .inr (.inl w.2.1))), (h3, .inl ((cA 1), 85, .inl w.2.2.1)), (h4, .inl ((cA 0), 9, .inr (.inl w.2.2.2.1))), (h5, .inl ((cA 1), 510, .inl w.2.2.2.2.1)), (h6, .inl ((cA 0), 54, .inr (.inl w.2.2.2.2.2.1))), (h7, .inl ((cA 1), 170, .inl w.2.2.2.2.2.2.2.1)), (h8, .inl ((cA 0), 18, .inr (.inl w.2.2.2.2.2.2.2.2.1))), (h9, .inl ((cA 2), 2, .inl w.2.2.2.2.2.2.2.2.2.1)), (h10, .inl ((cA 1), 80, .inl w.2.2.2.2.2.2.2.2.2.2.1)), (h11, .inl ((cA 1), 60, .inl w.2.2.2.2.2.2.2.2.2.2.2.2.2.2.1))] H → va_D A [(h0, .inr (10, [.ref h1, .ref h2, .ref h3, .ref h4, .ref h5, .ref h6, .int w.2.2.2.2.2.2.1, .ref h7, .ref h8, .ref h9, .ref h10, .int w.2.2.2.2.2.2.2.2.2.2.2.1, .int w.2.2.2.2.2.2.2.2.2.2.2.2.1, .int w.2.2.2.2.2.2.2.2.2.2.2.2.2.1, .ref h11, .int w.2.2.2.2.2.2.2.2.2.2.2.2.2.2.2])), (h1, .inl ((cA 1), 85, .inl w.1)), (h2, .inl ((cA 0), 9, .inr (.inl w.2.1))), (h3, .inl ((cA 1), 85, .inl w.2.2.1)), (h4, .inl ((cA 0), 9, .inr (.inl w.2.2.2.1))), (h5, .inl ((cA 1), 510, .inl w.2.2.2.2.1)), (h6, .inl ((cA 0), 54, .inr (.inl w.2.2.2.2.2.1))), (h7, .inl ((cA 1), 170, .inl w.2.2.2.2.2.2.2.1)), (h8, .inl ((cA 0), 18, .inr (.inl w.2.2.2.2.2.2.2.2.1))), (h9, .inl ((cA 2), 2, .inl w.2.2.2.2.2.2.2.2.2.1)), (h10, .inl ((cA 1), 80, .inl w.2.2.2.2.2.2.2.2.2.2.1)), (h11, .inl ((cA 1), 60, .inl w.2.2.2.2.2.2.2.2.2.2.2.2.2.2.1))] → va_S A s.heap H locs → ∀ (ls : Array Slot), lv_has ls 4 [(0, .ref h0)] → W p l e (headSpec wsX10_makeMinute ({ frames := 7, cells := 0, slots := 0, locals := 157 })).room s m (([.ref h0] : List Value).toArray) below meth c H locs 0 0 Q (F0 m 82 ls []) := by
    intro w hw w8 w3 w1 H locs hP hD hS ls hl
    refine lv_aload_n hx hb dX10_makeMinute_82 rfl (lv_at hl 0 rfl) ?_
    refine va_get (D := D) (ci := 10) (v := .ref h2) (C := RX10) (T := TX10) (N := 16) hx hb hts hinX10 hown hK hP 0 rfl rfl 1 (by decide) (hts (.fieldLink RX10 13 "GyroTrainerModel" "sums" "[J") (List.mem_of_getElem? (i := 2) rfl)) (fun _ h9 => h9) rfl dX10_makeMinute_83 ?_
    refine lv_iconst (v := 0) hx hb dX10_makeMinute_86 (by decide) ?_
    refine lv_dup2_11 hx hb dX10_makeMinute_87 rfl rfl ?_
    refine z_lald (k := 0) hx hb hK hP 2 0 rfl rfl rfl (by decide) (by decide) dX10_makeMinute_88 ?_
    refine lv_aload_n hx hb dX10_makeMinute_89 rfl (lv_at hl 0 rfl) ?_
    refine va_get (D := D) (ci := 10) (v := .ref h1) (C := RX10) (T := TX10) (N := 16) hx hb hts hinX10 hown hK hP 0 rfl rfl 0 (by decide) (hts (.fieldLink RX10 7 "GyroTrainerModel" "at" "[I") (List.mem_of_getElem? (i := 1) rfl)) (fun _ h9 => h9) rfl dX10_makeMinute_90 ?_
    refine lv_iconst (v := 4) hx hb dX10_makeMinute_93 (by decide) ?_
    refine z_iald (k := 4) hx hb hK hP 1 1 rfl rfl rfl (by decide) (by decide) dX10_makeMinute_94 ?_
    refine lv_i2l hx hb dX10_makeMinute_95 rfl ?_
    refine lv_ladd hx hb dX10_makeMinute_96 ?_
    refine z_last (k := 0) hx hb hK hP hD hS 2 0 rfl rfl rfl (by decide) (by decide) dX10_makeMinute_97 (fun g_5 eg_5 H locs hP hD hS => ?_)
    have hP : va_P D vwCl [(h0, .inr (10, [.ref h1, .ref h2, .ref h3, .ref h4, .ref h5, .ref h6, .int w.2.2.2.2.2.2.1, .ref h7, .ref h8, .ref h9, .ref h10, .int w.2.2.2.2.2.2.2.2.2.2.2.1, .int w.2.2.2.2.2.2.2.2.2.2.2.2.1, .int w.2.2.2.2.2.2.2.2.2.2.2.2.2.1, .ref h11, .int w.2.2.2.2.2.2.2.2.2.2.2.2.2.2.2])), (h1, .inl ((cA 1), 85, .inl w.1)), (h2, .inl ((cA 0), 9, .inr (.inl g_5))), (h3, .inl ((cA 1), 85, .inl w.2.2.1)), (h4, .inl ((cA 0), 9, .inr (.inl w.2.2.2.1))), (h5, .inl ((cA 1), 510, .inl w.2.2.2.2.1)), (h6, .inl ((cA 0), 54, .inr (.inl w.2.2.2.2.2.1))), (h7, .inl ((cA 1), 170, .inl w.2.2.2.2.2.2.2.1)), (h8, .inl ((cA 0), 18, .inr (.inl w.2.2.2.2.2.2.2.2.1))), (h9, .inl ((cA 2), 2, .inl w.2.2.2.2.2.2.2.2.2.1)), (h10, .inl ((cA 1), 80, .inl w.2.2.2.2.2.2.2.2.2.2.1)), (h11, .inl ((cA 1), 60, .inl w.2.2.2.2.2.2.2.2.2.2.2.2.2.2.1))] H := hP
    have hD : va_D A [(h0, .inr (10, [.ref h1, .ref h2, .ref h3, .ref h4, .ref h5, .ref h6, .int w.2.2.2.2.2.2.1, .ref h7, .ref h8, .ref h9, .ref h10, .int w.2.2.2.2.2.2.2.2.2.2.2.1, .int w.2.2.2.2.2.2.2.2.2.2.2.2.1, .int w.2.2.2.2.2.2.2.2.2.2.2.2.2.1, .ref h11, .int w.2.2.2.2.2.2.2.2.2.2.2.2.2.2.2])), (h1, .inl ((cA 1), 85, .inl w.1)), (h2, .inl ((cA 0), 9, .inr (.inl g_5))), (h3, .inl ((cA 1), 85, .inl w.2.2.1)), (h4, .inl ((cA 0), 9, .inr (.inl w.2.2.2.1))), (h5, .inl ((cA 1), 510, .inl w.2.2.2.2.1)), (h6, .inl ((cA 0), 54, .inr (.inl w.2.2.2.2.2.1))), (h7, .inl ((cA 1), 170, .inl w.2.2.2.2.2.2.2.1)), (h8, .inl ((cA 0), 18, .inr (.inl w.2.2.2.2.2.2.2.2.1))), (h9, .inl ((cA 2), 2, .inl w.2.2.2.2.2.2.2.2.2.1)), (h10, .inl ((cA 1), 80, .inl w.2.2.2.2.2.2.2.2.2.2.1)), (h11, .inl ((cA 1), 60, .inl w.2.2.2.2.2.2.2.2.2.2.2.2.2.2.1))] := hD
    refine lv_aload_n hx hb dX10_makeMinute_98 rfl (lv_at hl 0 rfl) ?_
    refine va_get (D := D) (ci := 10) (v := .ref h1) (C := RX10) (T := TX10) (N := 16) hx hb hts hinX10 hown hK hP 0 rfl rfl 0 (by decide) (hts (.fieldLink RX10 7 "GyroTrainerModel" "at" "[I") (List.mem_of_getElem? (i := 1) rfl)) (fun _ h9 => h9) rfl dX10_makeMinute_99 ?_
    refine lv_iconst (v := 2) hx hb dX10_makeMinute_102 (by decide) ?_
    refine z_iald (k := 2) hx hb hK hP 1 1 rfl rfl rfl (by decide) (by decide) dX10_makeMinute_103 ?_
    refine lv_i2l hx hb dX10_makeMinute_104 rfl ?_
    refine lv_ldc2 hx hb hown (hts (.constantLong RX10 148 (28)) (List.mem_of_getElem? (i := 3) rfl)) dX10_makeMinute_105 ?_
    refine lv_lmul hx hb dX10_makeMinute_108 ?_
    refine lv_aload_n hx hb dX10_makeMinute_109 rfl (lv_at hl 0 rfl) ?_
    refine va_get (D := D) (ci := 10) (v := .ref h1) (C := RX10) (T := TX10) (N := 16) hx hb hts hinX10 hown hK hP 0 rfl rfl 0 (by decide) (hts (.fieldLink RX10 7 "GyroTrainerModel" "at" "[I") (List.mem_of_getElem? (i := 1) rfl)) (fun _ h9 => h9) rfl dX10_makeMinute_110 ?_
    refine lv_iconst (v := 1) hx hb dX10_makeMinute_113 (by decide) ?_
    refine z_iald (k := 1) hx hb hK hP 1 1 rfl rfl rfl (by decide) (by decide) dX10_makeMinute_114 ?_
    refine z_Ri (va_runS (As := [.int (w.1 1)]) (rest := [.long (((w.1 2).toInt64) * (28 : Int64))]) ⟨hx, hb, hml, hown, hts⟩ (c_X10_cosine l D cA  (w.1 1) w1) (va_cwS 1 hts gX10_makeMinute_X10_cosine rfl rfl rfl (by decide +kernel) ⟨Nat.le_of_ble_eq_true rfl, Nat.le_of_ble_eq_true rfl⟩) (zqSR0 hK hN) rfl rfl hl.1 rfl (lv_room (Nat.le_of_ble_eq_true rfl)) dX10_makeMinute_115 ⟨Nat.le_of_ble_eq_true rfl, Nat.le_of_ble_eq_true rfl⟩) ?_
    refine lv_i2l hx hb dX10_makeMinute_118 rfl ?_
    refine lv_lmul hx hb dX10_makeMinute_119 ?_
    refine lv_ldc2 hx hb hown (hts (.constantLong RX10 134 (1000000)) (List.mem_of_getElem? (i := 4) rfl)) dX10_makeMinute_120 ?_
    refine lv_ldiv hx hb dX10_makeMinute_123 (by decide) ?_
    refine lv_lstore_n (lv' := [(2, .long (((((w.1 2).toInt64) * (28 : Int64)) * ((fm_cosine (w.1 1)).toInt64)) / (1000000 : Int64))), (0, .ref h0)]) hx hb dX10_makeMinute_124 rfl hl (by decide) rfl (fun ls hl => ?_)
    refine lv_aload_n hx hb dX10_makeMinute_125 rfl (lv_at hl 1 rfl) ?_
    refine va_get (D := D) (ci := 10) (v := .ref h1) (C := RX10) (T := TX10) (N := 16) hx hb hts hinX10 hown hK hP 0 rfl rfl 0 (by decide) (hts (.fieldLink RX10 7 "GyroTrainerModel" "at" "[I") (List.mem_of_getElem? (i := 1) rfl)) (fun _ h9 => h9) rfl dX10_makeMinute_126 ?_
    refine lv_iconst (v := 0) hx hb dX10_makeMinute_129 (by decide) ?_
    refine lv_aload_n hx hb dX10_makeMinute_130 rfl (lv_at hl 1 rfl) ?_
    refine va_get (D := D) (ci := 10) (v := .ref h1) (C := RX10) (T := TX10) (N := 16) hx hb hts hinX10 hown hK hP 0 rfl rfl 0 (by decide) (hts (.fieldLink RX10 7 "GyroTrainerModel" "at" "[I") (List.mem_of_getElem? (i := 1) rfl)) (fun _ h9 => h9) rfl dX10_makeMinute_131 ?_
    refine lv_iconst (v := 0) hx hb dX10_makeMinute_134 (by decide) ?_
    refine z_iald (k := 0) hx hb hK hP 1 1 rfl rfl rfl (by decide) (by decide) dX10_makeMinute_135 ?_
    refine lv_i2l hx hb dX10_makeMinute_136 rfl ?_
    refine lv_lload_n hx hb dX10_makeMinute_137 rfl (lv_at hl 0 rfl) ?_
    refine lv_ladd hx hb dX10_makeMinute_138 ?_
    refine lv_ldc hx hb hown (hts (.constant RX10 150 (70000000)) (List.mem_of_getElem? (i := 5) rfl)) dX10_makeMinute_139 ?_
    refine z_Ri (va_runS (As := [.long (((w.1 0).toInt64) + (((((w.1 2).toInt64) * (28 : Int64)) * ((fm_cosine (w.1 1)).toInt64)) / (1000000 : Int64))), .int (70000000 : Int32)]) (rest := [.int (0 : Int32), .ref h1]) ⟨hx, hb, hml, hown, hts⟩ (c_X10_limited l D cA  (((w.1 0).toInt64) + (((((w.1 2).toInt64) * (28 : Int64)) * ((fm_cosine (w.1 1)).toInt64)) / (1000000 : Int64))) (70000000 : Int32)) (va_cwS 2 hts gX10_makeMinute_X10_limited rfl rfl rfl (by decide +kernel) ⟨Nat.le_of_ble_eq_true rfl, Nat.le_of_ble_eq_true rfl⟩) (zqSR0 hK hN) rfl rfl hl.1 rfl (lv_room (Nat.le_of_ble_eq_true rfl)) dX10_makeMinute_141 ⟨Nat.le_of_ble_eq_true rfl, Nat.le_of_ble_eq_true rfl⟩) ?_
    refine z_iast (k := 0) hx hb hK hP hD hS 1 1 rfl rfl rfl (by decide) (by decide) dX10_makeMinute_144 (fun g_6 eg_6 H locs hP hD hS => ?_)
    have hP : va_P D vwCl [(h0, .inr (10, [.ref h1, .ref h2, .ref h3, .ref h4, .ref h5, .ref h6, .int w.2.2.2.2.2.2.1, .ref h7, .ref h8, .ref h9, .ref h10, .int w.2.2.2.2.2.2.2.2.2.2.2.1, .int w.2.2.2.2.2.2.2.2.2.2.2.2.1, .int w.2.2.2.2.2.2.2.2.2.2.2.2.2.1, .ref h11, .int w.2.2.2.2.2.2.2.2.2.2.2.2.2.2.2])), (h1, .inl ((cA 1), 85, .inl g_6)), (h2, .inl ((cA 0), 9, .inr (.inl g_5))), (h3, .inl ((cA 1), 85, .inl w.2.2.1)), (h4, .inl ((cA 0), 9, .inr (.inl w.2.2.2.1))), (h5, .inl ((cA 1), 510, .inl w.2.2.2.2.1)), (h6, .inl ((cA 0), 54, .inr (.inl w.2.2.2.2.2.1))), (h7, .inl ((cA 1), 170, .inl w.2.2.2.2.2.2.2.1)), (h8, .inl ((cA 0), 18, .inr (.inl w.2.2.2.2.2.2.2.2.1))), (h9, .inl ((cA 2), 2, .inl w.2.2.2.2.2.2.2.2.2.1)), (h10, .inl ((cA 1), 80, .inl w.2.2.2.2.2.2.2.2.2.2.1)), (h11, .inl ((cA 1), 60, .inl w.2.2.2.2.2.2.2.2.2.2.2.2.2.2.1))] H := hP
    have hD : va_D A [(h0, .inr (10, [.ref h1, .ref h2, .ref h3, .ref h4, .ref h5, .ref h6, .int w.2.2.2.2.2.2.1, .ref h7, .ref h8, .ref h9, .ref h10, .int w.2.2.2.2.2.2.2.2.2.2.2.1, .int w.2.2.2.2.2.2.2.2.2.2.2.2.1, .int w.2.2.2.2.2.2.2.2.2.2.2.2.2.1, .ref h11, .int w.2.2.2.2.2.2.2.2.2.2.2.2.2.2.2])), (h1, .inl ((cA 1), 85, .inl g_6)), (h2, .inl ((cA 0), 9, .inr (.inl g_5))), (h3, .inl ((cA 1), 85, .inl w.2.2.1)), (h4, .inl ((cA 0), 9, .inr (.inl w.2.2.2.1))), (h5, .inl ((cA 1), 510, .inl w.2.2.2.2.1)), (h6, .inl ((cA 0), 54, .inr (.inl w.2.2.2.2.2.1))), (h7, .inl ((cA 1), 170, .inl w.2.2.2.2.2.2.2.1)), (h8, .inl ((cA 0), 18, .inr (.inl w.2.2.2.2.2.2.2.2.1))), (h9, .inl ((cA 2), 2, .inl w.2.2.2.2.2.2.2.2.2.1)), (h10, .inl ((cA 1), 80, .inl w.2.2.2.2.2.2.2.2.2.2.1)), (h11, .inl ((cA 1), 60, .inl w.2.2.2.2.2.2.2.2.2.2.2.2.2.2.1))] := hD
    refine lv_aload_n hx hb dX10_makeMinute_145 rfl (lv_at hl 1 rfl) ?_
    refine va_get (D := D) (ci := 10) (v := .ref h1) (C := RX10) (T := TX10) (N := 16) hx hb hts hinX10 hown hK hP 0 rfl rfl 0 (by decide) (hts (.fieldLink RX10 7 "GyroTrainerModel" "at" "[I") (List.mem_of_getElem? (i := 1) rfl)) (fun _ h9 => h9) rfl dX10_makeMinute_146 ?_
    refine lv_bipush (v := 10) hx hb dX10_makeMinute_149 (by decide) ?_
    refine lv_dup2_11 hx hb dX10_makeMinute_151 rfl rfl ?_
    refine z_iald (k := 10) hx hb hK hP 1 1 rfl rfl rfl (by decide) (by decide) dX10_makeMinute_152 ?_
    refine lv_iconst (v := 1) hx hb dX10_makeMinute_153 (by decide) ?_
    refine lv_iadd hx hb dX10_makeMinute_154 ?_
    refine z_iast (k := 10) hx hb hK hP hD hS 1 1 rfl rfl rfl (by decide) (by decide) dX10_makeMinute_155 (fun g_7 eg_7 H locs hP hD hS => ?_)
    have hP : va_P D vwCl [(h0, .inr (10, [.ref h1, .ref h2, .ref h3, .ref h4, .ref h5, .ref h6, .int w.2.2.2.2.2.2.1, .ref h7, .ref h8, .ref h9, .ref h10, .int w.2.2.2.2.2.2.2.2.2.2.2.1, .int w.2.2.2.2.2.2.2.2.2.2.2.2.1, .int w.2.2.2.2.2.2.2.2.2.2.2.2.2.1, .ref h11, .int w.2.2.2.2.2.2.2.2.2.2.2.2.2.2.2])), (h1, .inl ((cA 1), 85, .inl g_7)), (h2, .inl ((cA 0), 9, .inr (.inl g_5))), (h3, .inl ((cA 1), 85, .inl w.2.2.1)), (h4, .inl ((cA 0), 9, .inr (.inl w.2.2.2.1))), (h5, .inl ((cA 1), 510, .inl w.2.2.2.2.1)), (h6, .inl ((cA 0), 54, .inr (.inl w.2.2.2.2.2.1))), (h7, .inl ((cA 1), 170, .inl w.2.2.2.2.2.2.2.1)), (h8, .inl ((cA 0), 18, .inr (.inl w.2.2.2.2.2.2.2.2.1))), (h9, .inl ((cA 2), 2, .inl w.2.2.2.2.2.2.2.2.2.1)), (h10, .inl ((cA 1), 80, .inl w.2.2.2.2.2.2.2.2.2.2.1)), (h11, .inl ((cA 1), 60, .inl w.2.2.2.2.2.2.2.2.2.2.2.2.2.2.1))] H := hP
    have hD : va_D A [(h0, .inr (10, [.ref h1, .ref h2, .ref h3, .ref h4, .ref h5, .ref h6, .int w.2.2.2.2.2.2.1, .ref h7, .ref h8, .ref h9, .ref h10, .int w.2.2.2.2.2.2.2.2.2.2.2.1, .int w.2.2.2.2.2.2.2.2.2.2.2.2.1, .int w.2.2.2.2.2.2.2.2.2.2.2.2.2.1, .ref h11, .int w.2.2.2.2.2.2.2.2.2.2.2.2.2.2.2])), (h1, .inl ((cA 1), 85, .inl g_7)), (h2, .inl ((cA 0), 9, .inr (.inl g_5))), (h3, .inl ((cA 1), 85, .inl w.2.2.1)), (h4, .inl ((cA 0), 9, .inr (.inl w.2.2.2.1))), (h5, .inl ((cA 1), 510, .inl w.2.2.2.2.1)), (h6, .inl ((cA 0), 54, .inr (.inl w.2.2.2.2.2.1))), (h7, .inl ((cA 1), 170, .inl w.2.2.2.2.2.2.2.1)), (h8, .inl ((cA 0), 18, .inr (.inl w.2.2.2.2.2.2.2.2.1))), (h9, .inl ((cA 2), 2, .inl w.2.2.2.2.2.2.2.2.2.1)), (h10, .inl ((cA 1), 80, .inl w.2.2.2.2.2.2.2.2.2.2.1)), (h11, .inl ((cA 1), 60, .inl w.2.2.2.2.2.2.2.2.2.2.2.2.2.2.1))] := hD
    refine lv_aload_n hx hb dX10_makeMinute_156 rfl (lv_at hl 1 rfl) ?_
    refine va_get (D := D) (ci := 10) (v := .ref h1) (C := RX10) (T := TX10) (N := 16) hx hb hts hinX10 hown hK hP 0 rfl rfl 0 (by decide) (hts (.fieldLink RX10 7 "GyroTrainerModel" "at" "[I") (List.mem_of_getElem? (i := 1) rfl)) (fun _ h9 => h9) rfl dX10_makeMinute_157 ?_
    refine lv_bipush (v := 29) hx hb dX10_makeMinute_160 (by decide) ?_
    refine lv_aload_n hx hb dX10_makeMinute_162 rfl (lv_at hl 1 rfl) ?_
    refine va_get (D := D) (ci := 10) (v := .ref h1) (C := RX10) (T := TX10) (N := 16) hx hb hts hinX10 hown hK hP 0 rfl rfl 0 (by decide) (hts (.fieldLink RX10 7 "GyroTrainerModel" "at" "[I") (List.mem_of_getElem? (i := 1) rfl)) (fun _ h9 => h9) rfl dX10_makeMinute_163 ?_
    refine lv_bipush (v := 8) hx hb dX10_makeMinute_166 (by decide) ?_
    refine z_iald (k := 8) hx hb hK hP 1 1 rfl rfl rfl (by decide) (by decide) dX10_makeMinute_168 ?_
    refine lv_iadd hx hb dX10_makeMinute_169 ?_
    have Z8 : g_7 8 = nI lv := by rw [eg_7, eg_6]; exact w8
    rw [show ((29 : Int32) + (g_7 8)) = nI (29 + lv) from by rw [Z8]; exact nI_add 29 lv]
    refine lv_dup2_11 hx hb dX10_makeMinute_170 rfl rfl ?_
    refine z_iald (k := (29 + lv)) hx hb hK hP 1 1 rfl rfl rfl (by omega) (by decide) dX10_makeMinute_171 ?_
    refine lv_iconst (v := 1) hx hb dX10_makeMinute_172 (by decide) ?_
    refine lv_iadd hx hb dX10_makeMinute_173 ?_
    refine z_iast (k := (29 + lv)) hx hb hK hP hD hS 1 1 rfl rfl rfl (by omega) (by decide) dX10_makeMinute_174 (fun g_8 eg_8 H locs hP hD hS => ?_)
    have hP : va_P D vwCl [(h0, .inr (10, [.ref h1, .ref h2, .ref h3, .ref h4, .ref h5, .ref h6, .int w.2.2.2.2.2.2.1, .ref h7, .ref h8, .ref h9, .ref h10, .int w.2.2.2.2.2.2.2.2.2.2.2.1, .int w.2.2.2.2.2.2.2.2.2.2.2.2.1, .int w.2.2.2.2.2.2.2.2.2.2.2.2.2.1, .ref h11, .int w.2.2.2.2.2.2.2.2.2.2.2.2.2.2.2])), (h1, .inl ((cA 1), 85, .inl g_8)), (h2, .inl ((cA 0), 9, .inr (.inl g_5))), (h3, .inl ((cA 1), 85, .inl w.2.2.1)), (h4, .inl ((cA 0), 9, .inr (.inl w.2.2.2.1))), (h5, .inl ((cA 1), 510, .inl w.2.2.2.2.1)), (h6, .inl ((cA 0), 54, .inr (.inl w.2.2.2.2.2.1))), (h7, .inl ((cA 1), 170, .inl w.2.2.2.2.2.2.2.1)), (h8, .inl ((cA 0), 18, .inr (.inl w.2.2.2.2.2.2.2.2.1))), (h9, .inl ((cA 2), 2, .inl w.2.2.2.2.2.2.2.2.2.1)), (h10, .inl ((cA 1), 80, .inl w.2.2.2.2.2.2.2.2.2.2.1)), (h11, .inl ((cA 1), 60, .inl w.2.2.2.2.2.2.2.2.2.2.2.2.2.2.1))] H := hP
    have hD : va_D A [(h0, .inr (10, [.ref h1, .ref h2, .ref h3, .ref h4, .ref h5, .ref h6, .int w.2.2.2.2.2.2.1, .ref h7, .ref h8, .ref h9, .ref h10, .int w.2.2.2.2.2.2.2.2.2.2.2.1, .int w.2.2.2.2.2.2.2.2.2.2.2.2.1, .int w.2.2.2.2.2.2.2.2.2.2.2.2.2.1, .ref h11, .int w.2.2.2.2.2.2.2.2.2.2.2.2.2.2.2])), (h1, .inl ((cA 1), 85, .inl g_8)), (h2, .inl ((cA 0), 9, .inr (.inl g_5))), (h3, .inl ((cA 1), 85, .inl w.2.2.1)), (h4, .inl ((cA 0), 9, .inr (.inl w.2.2.2.1))), (h5, .inl ((cA 1), 510, .inl w.2.2.2.2.1)), (h6, .inl ((cA 0), 54, .inr (.inl w.2.2.2.2.2.1))), (h7, .inl ((cA 1), 170, .inl w.2.2.2.2.2.2.2.1)), (h8, .inl ((cA 0), 18, .inr (.inl w.2.2.2.2.2.2.2.2.1))), (h9, .inl ((cA 2), 2, .inl w.2.2.2.2.2.2.2.2.2.1)), (h10, .inl ((cA 1), 80, .inl w.2.2.2.2.2.2.2.2.2.2.1)), (h11, .inl ((cA 1), 60, .inl w.2.2.2.2.2.2.2.2.2.2.2.2.2.2.1))] := hD
    refine lv_aload_n hx hb dX10_makeMinute_175 rfl (lv_at hl 1 rfl) ?_
    refine va_get (D := D) (ci := 10) (v := .ref h1) (C := RX10) (T := TX10) (N := 16) hx hb hts hinX10 hown hK hP 0 rfl rfl 0 (by decide) (hts (.fieldLink RX10 7 "GyroTrainerModel" "at" "[I") (List.mem_of_getElem? (i := 1) rfl)) (fun _ h9 => h9) rfl dX10_makeMinute_176 ?_
    refine lv_bipush (v := 11) hx hb dX10_makeMinute_179 (by decide) ?_
    refine lv_dup2_11 hx hb dX10_makeMinute_181 rfl rfl ?_
    refine z_iald (k := 11) hx hb hK hP 1 1 rfl rfl rfl (by decide) (by decide) dX10_makeMinute_182 ?_
    refine lv_aload_n hx hb dX10_makeMinute_183 rfl (lv_at hl 1 rfl) ?_
    refine va_get (D := D) (ci := 10) (v := .ref h1) (C := RX10) (T := TX10) (N := 16) hx hb hts hinX10 hown hK hP 0 rfl rfl 0 (by decide) (hts (.fieldLink RX10 7 "GyroTrainerModel" "at" "[I") (List.mem_of_getElem? (i := 1) rfl)) (fun _ h9 => h9) rfl dX10_makeMinute_184 ?_
    refine lv_iconst (v := 2) hx hb dX10_makeMinute_187 (by decide) ?_
    refine z_iald (k := 2) hx hb hK hP 1 1 rfl rfl rfl (by decide) (by decide) dX10_makeMinute_188 ?_
    refine lv_iadd hx hb dX10_makeMinute_189 ?_
    refine z_iast (k := 11) hx hb hK hP hD hS 1 1 rfl rfl rfl (by decide) (by decide) dX10_makeMinute_190 (fun g_9 eg_9 H locs hP hD hS => ?_)
    have hP : va_P D vwCl [(h0, .inr (10, [.ref h1, .ref h2, .ref h3, .ref h4, .ref h5, .ref h6, .int w.2.2.2.2.2.2.1, .ref h7, .ref h8, .ref h9, .ref h10, .int w.2.2.2.2.2.2.2.2.2.2.2.1, .int w.2.2.2.2.2.2.2.2.2.2.2.2.1, .int w.2.2.2.2.2.2.2.2.2.2.2.2.2.1, .ref h11, .int w.2.2.2.2.2.2.2.2.2.2.2.2.2.2.2])), (h1, .inl ((cA 1), 85, .inl g_9)), (h2, .inl ((cA 0), 9, .inr (.inl g_5))), (h3, .inl ((cA 1), 85, .inl w.2.2.1)), (h4, .inl ((cA 0), 9, .inr (.inl w.2.2.2.1))), (h5, .inl ((cA 1), 510, .inl w.2.2.2.2.1)), (h6, .inl ((cA 0), 54, .inr (.inl w.2.2.2.2.2.1))), (h7, .inl ((cA 1), 170, .inl w.2.2.2.2.2.2.2.1)), (h8, .inl ((cA 0), 18, .inr (.inl w.2.2.2.2.2.2.2.2.1))), (h9, .inl ((cA 2), 2, .inl w.2.2.2.2.2.2.2.2.2.1)), (h10, .inl ((cA 1), 80, .inl w.2.2.2.2.2.2.2.2.2.2.1)), (h11, .inl ((cA 1), 60, .inl w.2.2.2.2.2.2.2.2.2.2.2.2.2.2.1))] H := hP
    have hD : va_D A [(h0, .inr (10, [.ref h1, .ref h2, .ref h3, .ref h4, .ref h5, .ref h6, .int w.2.2.2.2.2.2.1, .ref h7, .ref h8, .ref h9, .ref h10, .int w.2.2.2.2.2.2.2.2.2.2.2.1, .int w.2.2.2.2.2.2.2.2.2.2.2.2.1, .int w.2.2.2.2.2.2.2.2.2.2.2.2.2.1, .ref h11, .int w.2.2.2.2.2.2.2.2.2.2.2.2.2.2.2])), (h1, .inl ((cA 1), 85, .inl g_9)), (h2, .inl ((cA 0), 9, .inr (.inl g_5))), (h3, .inl ((cA 1), 85, .inl w.2.2.1)), (h4, .inl ((cA 0), 9, .inr (.inl w.2.2.2.1))), (h5, .inl ((cA 1), 510, .inl w.2.2.2.2.1)), (h6, .inl ((cA 0), 54, .inr (.inl w.2.2.2.2.2.1))), (h7, .inl ((cA 1), 170, .inl w.2.2.2.2.2.2.2.1)), (h8, .inl ((cA 0), 18, .inr (.inl w.2.2.2.2.2.2.2.2.1))), (h9, .inl ((cA 2), 2, .inl w.2.2.2.2.2.2.2.2.2.1)), (h10, .inl ((cA 1), 80, .inl w.2.2.2.2.2.2.2.2.2.2.1)), (h11, .inl ((cA 1), 60, .inl w.2.2.2.2.2.2.2.2.2.2.2.2.2.2.1))] := hD
    refine lv_aload_n hx hb dX10_makeMinute_191 rfl (lv_at hl 1 rfl) ?_
    refine va_get (D := D) (ci := 10) (v := .ref h1) (C := RX10) (T := TX10) (N := 16) hx hb hts hinX10 hown hK hP 0 rfl rfl 0 (by decide) (hts (.fieldLink RX10 7 "GyroTrainerModel" "at" "[I") (List.mem_of_getElem? (i := 1) rfl)) (fun _ h9 => h9) rfl dX10_makeMinute_192 ?_
    refine lv_iconst (v := 3) hx hb dX10_makeMinute_195 (by decide) ?_
    refine z_iald (k := 3) hx hb hK hP 1 1 rfl rfl rfl (by decide) (by decide) dX10_makeMinute_196 ?_
    refine lv_if_le (tgt := 225) hx hb dX10_makeMinute_197 (by decide) (fun c_10 => ?_) (fun c_10 => ?_)
    · skip
      have e9 : (fm_minute t lv k0 v) = (g_9, g_5, w.2.2) := by unfold fm_minute; rw [hw]; unfold fm_mm3 fm_mm4 fm_md fm_mc fm_mb fm_ma fm_ms fm_me; simp only [← eg_5, ← eg_6, ← eg_7, ← eg_8, ← eg_9, if_pos c_10] <;> rfl
      have hP9 : va_P D vwCl (wX10 cA h0 h1 h2 h3 h4 h5 h6 h7 h8 h9 h10 h11 ((g_9, g_5, w.2.2) : vX10)) H := hP
      have hD9 : va_D A (wX10 cA h0 h1 h2 h3 h4 h5 h6 h7 h8 h9 h10 h11 ((g_9, g_5, w.2.2) : vX10)) := hD
      subst hQ
      exact W.vret hx hb hr (fun t ht hW => ⟨⟨(g_9, g_5, w.2.2), rfl, e9.symm, ⟨by rw [ht]; exact hP9, va_K.moved hW.alike hK, hD9⟩⟩, hS.F ht⟩) hS.2.2 dX10_makeMinute_225
    · skip
      refine lv_aload_n hx hb dX10_makeMinute_200 rfl (lv_at hl 1 rfl) ?_
      refine va_get (D := D) (ci := 10) (v := .ref h1) (C := RX10) (T := TX10) (N := 16) hx hb hts hinX10 hown hK hP 0 rfl rfl 0 (by decide) (hts (.fieldLink RX10 7 "GyroTrainerModel" "at" "[I") (List.mem_of_getElem? (i := 1) rfl)) (fun _ h9 => h9) rfl dX10_makeMinute_201 ?_
      refine lv_bipush (v := 36) hx hb dX10_makeMinute_204 (by decide) ?_
      refine lv_dup2_11 hx hb dX10_makeMinute_206 rfl rfl ?_
      refine z_iald (k := 36) hx hb hK hP 1 1 rfl rfl rfl (by decide) (by decide) dX10_makeMinute_207 ?_
      refine lv_iconst (v := 1) hx hb dX10_makeMinute_208 (by decide) ?_
      refine lv_isub hx hb dX10_makeMinute_209 ?_
      refine z_iast (k := 36) hx hb hK hP hD hS 1 1 rfl rfl rfl (by decide) (by decide) dX10_makeMinute_210 (fun g_11 eg_11 H locs hP hD hS => ?_)
      have hP : va_P D vwCl [(h0, .inr (10, [.ref h1, .ref h2, .ref h3, .ref h4, .ref h5, .ref h6, .int w.2.2.2.2.2.2.1, .ref h7, .ref h8, .ref h9, .ref h10, .int w.2.2.2.2.2.2.2.2.2.2.2.1, .int w.2.2.2.2.2.2.2.2.2.2.2.2.1, .int w.2.2.2.2.2.2.2.2.2.2.2.2.2.1, .ref h11, .int w.2.2.2.2.2.2.2.2.2.2.2.2.2.2.2])), (h1, .inl ((cA 1), 85, .inl g_11)), (h2, .inl ((cA 0), 9, .inr (.inl g_5))), (h3, .inl ((cA 1), 85, .inl w.2.2.1)), (h4, .inl ((cA 0), 9, .inr (.inl w.2.2.2.1))), (h5, .inl ((cA 1), 510, .inl w.2.2.2.2.1)), (h6, .inl ((cA 0), 54, .inr (.inl w.2.2.2.2.2.1))), (h7, .inl ((cA 1), 170, .inl w.2.2.2.2.2.2.2.1)), (h8, .inl ((cA 0), 18, .inr (.inl w.2.2.2.2.2.2.2.2.1))), (h9, .inl ((cA 2), 2, .inl w.2.2.2.2.2.2.2.2.2.1)), (h10, .inl ((cA 1), 80, .inl w.2.2.2.2.2.2.2.2.2.2.1)), (h11, .inl ((cA 1), 60, .inl w.2.2.2.2.2.2.2.2.2.2.2.2.2.2.1))] H := hP
      have hD : va_D A [(h0, .inr (10, [.ref h1, .ref h2, .ref h3, .ref h4, .ref h5, .ref h6, .int w.2.2.2.2.2.2.1, .ref h7, .ref h8, .ref h9, .ref h10, .int w.2.2.2.2.2.2.2.2.2.2.2.1, .int w.2.2.2.2.2.2.2.2.2.2.2.2.1, .int w.2.2.2.2.2.2.2.2.2.2.2.2.2.1, .ref h11, .int w.2.2.2.2.2.2.2.2.2.2.2.2.2.2.2])), (h1, .inl ((cA 1), 85, .inl g_11)), (h2, .inl ((cA 0), 9, .inr (.inl g_5))), (h3, .inl ((cA 1), 85, .inl w.2.2.1)), (h4, .inl ((cA 0), 9, .inr (.inl w.2.2.2.1))), (h5, .inl ((cA 1), 510, .inl w.2.2.2.2.1)), (h6, .inl ((cA 0), 54, .inr (.inl w.2.2.2.2.2.1))), (h7, .inl ((cA 1), 170, .inl w.2.2.2.2.2.2.2.1)), (h8, .inl ((cA 0), 18, .inr (.inl w.2.2.2.2.2.2.2.2.1))), (h9, .inl ((cA 2), 2, .inl w.2.2.2.2.2.2.2.2.2.1)), (h10, .inl ((cA 1), 80, .inl w.2.2.2.2.2.2.2.2.2.2.1)), (h11, .inl ((cA 1), 60, .inl w.2.2.2.2.2.2.2.2.2.2.2.2.2.2.1))] := hD
      refine lv_aload_n hx hb dX10_makeMinute_211 rfl (lv_at hl 1 rfl) ?_
      refine va_get (D := D) (ci := 10) (v := .ref h1) (C := RX10) (T := TX10) (N := 16) hx hb hts hinX10 hown hK hP 0 rfl rfl 0 (by decide) (hts (.fieldLink RX10 7 "GyroTrainerModel" "at" "[I") (List.mem_of_getElem? (i := 1) rfl)) (fun _ h9 => h9) rfl dX10_makeMinute_212 ?_
      refine lv_bipush (v := 36) hx hb dX10_makeMinute_215 (by decide) ?_
      refine z_iald (k := 36) hx hb hK hP 1 1 rfl rfl rfl (by decide) (by decide) dX10_makeMinute_217 ?_
      refine lv_if_ne (tgt := 225) hx hb dX10_makeMinute_218 (by decide) (fun c_12 => ?_) (fun c_12 => ?_)
      · skip
        have e9 : (fm_minute t lv k0 v) = (g_11, g_5, w.2.2) := by unfold fm_minute; rw [hw]; unfold fm_mm3 fm_mm4 fm_md fm_mc fm_mb fm_ma fm_ms fm_me; simp only [← eg_5, ← eg_6, ← eg_7, ← eg_8, ← eg_9, ← eg_11, if_neg c_10, if_neg c_12] <;> rfl
        have hP9 : va_P D vwCl (wX10 cA h0 h1 h2 h3 h4 h5 h6 h7 h8 h9 h10 h11 ((g_11, g_5, w.2.2) : vX10)) H := hP
        have hD9 : va_D A (wX10 cA h0 h1 h2 h3 h4 h5 h6 h7 h8 h9 h10 h11 ((g_11, g_5, w.2.2) : vX10)) := hD
        subst hQ
        exact W.vret hx hb hr (fun t ht hW => ⟨⟨(g_11, g_5, w.2.2), rfl, e9.symm, ⟨by rw [ht]; exact hP9, va_K.moved hW.alike hK, hD9⟩⟩, hS.F ht⟩) hS.2.2 dX10_makeMinute_225
      · skip
        refine lv_aload_n hx hb dX10_makeMinute_221 rfl (lv_at hl 1 rfl) ?_
        refine z_Hv (wt := fun (u_13 : vX10) => [(h0, .inr (10, [.ref h1, .ref h2, .ref h3, .ref h4, .ref h5, .ref h6, .int u_13.2.2.2.2.2.2.1, .ref h7, .ref h8, .ref h9, .ref h10, .int u_13.2.2.2.2.2.2.2.2.2.2.2.1, .int u_13.2.2.2.2.2.2.2.2.2.2.2.2.1, .int u_13.2.2.2.2.2.2.2.2.2.2.2.2.2.1, .ref h11, .int u_13.2.2.2.2.2.2.2.2.2.2.2.2.2.2.2])), (h1, .inl ((cA 1), 85, .inl u_13.1)), (h2, .inl ((cA 0), 9, .inr (.inl u_13.2.1))), (h3, .inl ((cA 1), 85, .inl u_13.2.2.1)), (h4, .inl ((cA 0), 9, .inr (.inl u_13.2.2.2.1))), (h5, .inl ((cA 1), 510, .inl u_13.2.2.2.2.1)), (h6, .inl ((cA 0), 54, .inr (.inl u_13.2.2.2.2.2.1))), (h7, .inl ((cA 1), 170, .inl u_13.2.2.2.2.2.2.2.1)), (h8, .inl ((cA 0), 18, .inr (.inl u_13.2.2.2.2.2.2.2.2.1))), (h9, .inl ((cA 2), 2, .inl u_13.2.2.2.2.2.2.2.2.2.1)), (h10, .inl ((cA 1), 80, .inl u_13.2.2.2.2.2.2.2.2.2.2.1)), (h11, .inl ((cA 1), 60, .inl u_13.2.2.2.2.2.2.2.2.2.2.2.2.2.2.1))]) (va_runV (As := []) (rest := []) ⟨hx, hb, hml, hown, hts⟩ (c_X10_endLeg l D cA h0 h1 h2 h3 h4 h5 h6 h7 h8 h9 h10 h11 H.size (k0 - 1) (g_11, g_5, w.2.2) (by show g_11 3 = _; rw [eg_11, eg_9, eg_8, eg_7, eg_6]; show fm_mc lv (fm_mb (fm_ma w.1)) 3 = _; rw [mc_ne _ _ (by decide)]; show w.1 3 = _; rw [w3]; exact congrArg nI (by have hk1 : ¬ k0 = 0 := fun h => c_10 (by rw [eg_9, eg_8, eg_7, eg_6]; show fm_mc lv (fm_mb (fm_ma w.1)) 3 ≤ 0; rw [mc_ne _ _ (by decide)]; show w.1 3 ≤ 0; rw [w3, h]; decide); omega)) (by omega)) (cwV 0 hts gX10_makeMinute_X10_endLeg rfl rfl rfl (by decide +kernel) ⟨Nat.le_of_ble_eq_true rfl, Nat.le_of_ble_eq_true rfl⟩) (zqV hK hP hD hS hA hE (z_c1 (a := []) (b := []) rfl) 0 rfl rfl) rfl rfl hl.1 rfl (lv_room (Nat.le_of_ble_eq_true rfl)) dX10_makeMinute_222 ⟨Nat.le_of_ble_eq_true rfl, Nat.le_of_ble_eq_true rfl⟩) hP hD hS hA (z_c1 (a := []) (b := []) rfl) (fun u_13 => (z_c1' (a := []) (b := []) rfl)) (fun u_13 H locs eu_13 hP hD hS => ?_)
        have hP : va_P D vwCl [(h0, .inr (10, [.ref h1, .ref h2, .ref h3, .ref h4, .ref h5, .ref h6, .int u_13.2.2.2.2.2.2.1, .ref h7, .ref h8, .ref h9, .ref h10, .int u_13.2.2.2.2.2.2.2.2.2.2.2.1, .int u_13.2.2.2.2.2.2.2.2.2.2.2.2.1, .int u_13.2.2.2.2.2.2.2.2.2.2.2.2.2.1, .ref h11, .int u_13.2.2.2.2.2.2.2.2.2.2.2.2.2.2.2])), (h1, .inl ((cA 1), 85, .inl u_13.1)), (h2, .inl ((cA 0), 9, .inr (.inl u_13.2.1))), (h3, .inl ((cA 1), 85, .inl u_13.2.2.1)), (h4, .inl ((cA 0), 9, .inr (.inl u_13.2.2.2.1))), (h5, .inl ((cA 1), 510, .inl u_13.2.2.2.2.1)), (h6, .inl ((cA 0), 54, .inr (.inl u_13.2.2.2.2.2.1))), (h7, .inl ((cA 1), 170, .inl u_13.2.2.2.2.2.2.2.1)), (h8, .inl ((cA 0), 18, .inr (.inl u_13.2.2.2.2.2.2.2.2.1))), (h9, .inl ((cA 2), 2, .inl u_13.2.2.2.2.2.2.2.2.2.1)), (h10, .inl ((cA 1), 80, .inl u_13.2.2.2.2.2.2.2.2.2.2.1)), (h11, .inl ((cA 1), 60, .inl u_13.2.2.2.2.2.2.2.2.2.2.2.2.2.2.1))] H := hP
        have hD : va_D A [(h0, .inr (10, [.ref h1, .ref h2, .ref h3, .ref h4, .ref h5, .ref h6, .int u_13.2.2.2.2.2.2.1, .ref h7, .ref h8, .ref h9, .ref h10, .int u_13.2.2.2.2.2.2.2.2.2.2.2.1, .int u_13.2.2.2.2.2.2.2.2.2.2.2.2.1, .int u_13.2.2.2.2.2.2.2.2.2.2.2.2.2.1, .ref h11, .int u_13.2.2.2.2.2.2.2.2.2.2.2.2.2.2.2])), (h1, .inl ((cA 1), 85, .inl u_13.1)), (h2, .inl ((cA 0), 9, .inr (.inl u_13.2.1))), (h3, .inl ((cA 1), 85, .inl u_13.2.2.1)), (h4, .inl ((cA 0), 9, .inr (.inl u_13.2.2.2.1))), (h5, .inl ((cA 1), 510, .inl u_13.2.2.2.2.1)), (h6, .inl ((cA 0), 54, .inr (.inl u_13.2.2.2.2.2.1))), (h7, .inl ((cA 1), 170, .inl u_13.2.2.2.2.2.2.2.1)), (h8, .inl ((cA 0), 18, .inr (.inl u_13.2.2.2.2.2.2.2.2.1))), (h9, .inl ((cA 2), 2, .inl u_13.2.2.2.2.2.2.2.2.2.1)), (h10, .inl ((cA 1), 80, .inl u_13.2.2.2.2.2.2.2.2.2.2.1)), (h11, .inl ((cA 1), 60, .inl u_13.2.2.2.2.2.2.2.2.2.2.2.2.2.2.1))] := hD
        have e9 : (fm_minute t lv k0 v) = u_13 := by unfold fm_minute; rw [hw]; unfold fm_mm3 fm_mm4 fm_md fm_mc fm_mb fm_ma fm_ms fm_me; simp only [← eg_5, ← eg_6, ← eg_7, ← eg_8, ← eg_9, ← eg_11, ← eu_13, if_neg c_10, if_pos c_12] <;> rfl
        have hP9 : va_P D vwCl (wX10 cA h0 h1 h2 h3 h4 h5 h6 h7 h8 h9 h10 h11 (u_13 : vX10)) H := hP
        have hD9 : va_D A (wX10 cA h0 h1 h2 h3 h4 h5 h6 h7 h8 h9 h10 h11 (u_13 : vX10)) := hD
        subst hQ
        exact W.vret hx hb hr (fun t ht hW => ⟨⟨u_13, rfl, e9.symm, ⟨by rw [ht]; exact hP9, va_K.moved hW.alike hK, hD9⟩⟩, hS.F ht⟩) hS.2.2 dX10_makeMinute_225
  refine lv_icmp_eq (tgt := 82) hx hb dX10_makeMinute_38 (by decide) (fun c_15 => ?_) (fun c_15 => ?_)
  · skip
    exact C82 (u_3) (by rw [E2, E1]; unfold fm_mm2 fm_dir; simp only [if_pos c_15]) K8 K3 K1 _ _ hP hD hS ls (lv_sub hl [1] rfl)
  · skip
    refine lv_aload_n hx hb dX10_makeMinute_41 rfl (lv_at hl 1 rfl) ?_
    refine va_get (D := D) (ci := 10) (v := .ref h1) (C := RX10) (T := TX10) (N := 16) hx hb hts hinX10 hown hK hP 0 rfl rfl 0 (by decide) (hts (.fieldLink RX10 7 "GyroTrainerModel" "at" "[I") (List.mem_of_getElem? (i := 1) rfl)) (fun _ h9 => h9) rfl dX10_makeMinute_42 ?_
    refine lv_iconst (v := 4) hx hb dX10_makeMinute_45 (by decide) ?_
    refine z_iald (k := 4) hx hb hK hP 1 1 rfl rfl rfl (by decide) (by decide) dX10_makeMinute_46 ?_
    refine lv_iload_n hx hb dX10_makeMinute_47 rfl (lv_at hl 0 rfl) ?_
    refine lv_icmp_le (tgt := 55) hx hb dX10_makeMinute_48 (by decide) (fun c_16 => ?_) (fun c_16 => ?_)
    · skip
      refine lv_iconst (v := -1) hx hb dX10_makeMinute_55 (by decide) ?_
      refine lv_istore_n (lv' := [(2, .int (-1 : Int32)), (1, .int (g_2 4)), (0, .ref h0)]) hx hb dX10_makeMinute_56 rfl hl (by decide) rfl (fun ls hl => ?_)
      refine lv_aload_n hx hb dX10_makeMinute_57 rfl (lv_at hl 2 rfl) ?_
      refine va_get (D := D) (ci := 10) (v := .ref h1) (C := RX10) (T := TX10) (N := 16) hx hb hts hinX10 hown hK hP 0 rfl rfl 0 (by decide) (hts (.fieldLink RX10 7 "GyroTrainerModel" "at" "[I") (List.mem_of_getElem? (i := 1) rfl)) (fun _ h9 => h9) rfl dX10_makeMinute_58 ?_
      refine lv_bipush (v := 12) hx hb dX10_makeMinute_61 (by decide) ?_
      refine z_iald (k := 12) hx hb hK hP 1 1 rfl rfl rfl (by decide) (by decide) dX10_makeMinute_63 ?_
      refine lv_iload_n hx hb dX10_makeMinute_64 rfl (lv_at hl 0 rfl) ?_
      refine lv_ineg hx hb dX10_makeMinute_65 ?_
      refine lv_icmp_ne (tgt := 74) hx hb dX10_makeMinute_66 (by decide) (fun c_17 => ?_) (fun c_17 => ?_)
      · skip
        refine lv_aload_n hx hb dX10_makeMinute_74 rfl (lv_at hl 2 rfl) ?_
        refine va_get (D := D) (ci := 10) (v := .ref h1) (C := RX10) (T := TX10) (N := 16) hx hb hts hinX10 hown hK hP 0 rfl rfl 0 (by decide) (hts (.fieldLink RX10 7 "GyroTrainerModel" "at" "[I") (List.mem_of_getElem? (i := 1) rfl)) (fun _ h9 => h9) rfl dX10_makeMinute_75 ?_
        refine lv_bipush (v := 12) hx hb dX10_makeMinute_78 (by decide) ?_
        refine lv_iload_n hx hb dX10_makeMinute_80 rfl (lv_at hl 0 rfl) ?_
        refine z_iast (k := 12) hx hb hK hP hD hS 1 1 rfl rfl rfl (by decide) (by decide) dX10_makeMinute_81 (fun g_18 eg_18 H locs hP hD hS => ?_)
        have hP : va_P D vwCl [(h0, .inr (10, [.ref h1, .ref h2, .ref h3, .ref h4, .ref h5, .ref h6, .int u_3.2.2.2.2.2.2.1, .ref h7, .ref h8, .ref h9, .ref h10, .int u_3.2.2.2.2.2.2.2.2.2.2.2.1, .int u_3.2.2.2.2.2.2.2.2.2.2.2.2.1, .int u_3.2.2.2.2.2.2.2.2.2.2.2.2.2.1, .ref h11, .int u_3.2.2.2.2.2.2.2.2.2.2.2.2.2.2.2])), (h1, .inl ((cA 1), 85, .inl g_18)), (h2, .inl ((cA 0), 9, .inr (.inl u_3.2.1))), (h3, .inl ((cA 1), 85, .inl u_3.2.2.1)), (h4, .inl ((cA 0), 9, .inr (.inl u_3.2.2.2.1))), (h5, .inl ((cA 1), 510, .inl u_3.2.2.2.2.1)), (h6, .inl ((cA 0), 54, .inr (.inl u_3.2.2.2.2.2.1))), (h7, .inl ((cA 1), 170, .inl u_3.2.2.2.2.2.2.2.1)), (h8, .inl ((cA 0), 18, .inr (.inl u_3.2.2.2.2.2.2.2.2.1))), (h9, .inl ((cA 2), 2, .inl u_3.2.2.2.2.2.2.2.2.2.1)), (h10, .inl ((cA 1), 80, .inl u_3.2.2.2.2.2.2.2.2.2.2.1)), (h11, .inl ((cA 1), 60, .inl u_3.2.2.2.2.2.2.2.2.2.2.2.2.2.2.1))] H := hP
        have hD : va_D A [(h0, .inr (10, [.ref h1, .ref h2, .ref h3, .ref h4, .ref h5, .ref h6, .int u_3.2.2.2.2.2.2.1, .ref h7, .ref h8, .ref h9, .ref h10, .int u_3.2.2.2.2.2.2.2.2.2.2.2.1, .int u_3.2.2.2.2.2.2.2.2.2.2.2.2.1, .int u_3.2.2.2.2.2.2.2.2.2.2.2.2.2.1, .ref h11, .int u_3.2.2.2.2.2.2.2.2.2.2.2.2.2.2.2])), (h1, .inl ((cA 1), 85, .inl g_18)), (h2, .inl ((cA 0), 9, .inr (.inl u_3.2.1))), (h3, .inl ((cA 1), 85, .inl u_3.2.2.1)), (h4, .inl ((cA 0), 9, .inr (.inl u_3.2.2.2.1))), (h5, .inl ((cA 1), 510, .inl u_3.2.2.2.2.1)), (h6, .inl ((cA 0), 54, .inr (.inl u_3.2.2.2.2.2.1))), (h7, .inl ((cA 1), 170, .inl u_3.2.2.2.2.2.2.2.1)), (h8, .inl ((cA 0), 18, .inr (.inl u_3.2.2.2.2.2.2.2.2.1))), (h9, .inl ((cA 2), 2, .inl u_3.2.2.2.2.2.2.2.2.2.1)), (h10, .inl ((cA 1), 80, .inl u_3.2.2.2.2.2.2.2.2.2.2.1)), (h11, .inl ((cA 1), 60, .inl u_3.2.2.2.2.2.2.2.2.2.2.2.2.2.2.1))] := hD
        exact C82 ((g_18, u_3.2)) (by rw [E2, E1]; unfold fm_mm2 fm_dir; simp only [if_neg c_15, if_pos c_16, if_neg c_17, ← eg_18]) (by show g_18 8 = nI lv; rw [eg_18]; exact K8) (by show g_18 3 = nI k0; rw [eg_18]; exact K3) (by show zcR (g_18 1); rw [eg_18]; exact K1) _ _ hP hD hS ls (lv_sub hl [2] rfl)
      · skip
        refine lv_aload_n hx hb dX10_makeMinute_69 rfl (lv_at hl 2 rfl) ?_
        refine lv_iload_n hx hb dX10_makeMinute_70 rfl (lv_at hl 1 rfl) ?_
        refine z_Hv (wt := fun (u_19 : vX10) => [(h0, .inr (10, [.ref h1, .ref h2, .ref h3, .ref h4, .ref h5, .ref h6, .int u_19.2.2.2.2.2.2.1, .ref h7, .ref h8, .ref h9, .ref h10, .int u_19.2.2.2.2.2.2.2.2.2.2.2.1, .int u_19.2.2.2.2.2.2.2.2.2.2.2.2.1, .int u_19.2.2.2.2.2.2.2.2.2.2.2.2.2.1, .ref h11, .int u_19.2.2.2.2.2.2.2.2.2.2.2.2.2.2.2])), (h1, .inl ((cA 1), 85, .inl u_19.1)), (h2, .inl ((cA 0), 9, .inr (.inl u_19.2.1))), (h3, .inl ((cA 1), 85, .inl u_19.2.2.1)), (h4, .inl ((cA 0), 9, .inr (.inl u_19.2.2.2.1))), (h5, .inl ((cA 1), 510, .inl u_19.2.2.2.2.1)), (h6, .inl ((cA 0), 54, .inr (.inl u_19.2.2.2.2.2.1))), (h7, .inl ((cA 1), 170, .inl u_19.2.2.2.2.2.2.2.1)), (h8, .inl ((cA 0), 18, .inr (.inl u_19.2.2.2.2.2.2.2.2.1))), (h9, .inl ((cA 2), 2, .inl u_19.2.2.2.2.2.2.2.2.2.1)), (h10, .inl ((cA 1), 80, .inl u_19.2.2.2.2.2.2.2.2.2.2.1)), (h11, .inl ((cA 1), 60, .inl u_19.2.2.2.2.2.2.2.2.2.2.2.2.2.2.1))]) (va_runV (As := [.int (g_2 4)]) (rest := []) ⟨hx, hb, hml, hown, hts⟩ (c_X10_addTurn l D cA h0 h1 h2 h3 h4 h5 h6 h7 h8 h9 h10 h11 H.size t u_3 (g_2 4) K13 ht8) (cwV 1 hts gX10_makeMinute_X10_addTurn rfl rfl rfl (by decide +kernel) ⟨Nat.le_of_ble_eq_true rfl, Nat.le_of_ble_eq_true rfl⟩) (zqV hK hP hD hS hA hE (z_c1 (a := []) (b := []) rfl) 0 rfl rfl) rfl rfl hl.1 rfl (lv_room (Nat.le_of_ble_eq_true rfl)) dX10_makeMinute_71 ⟨Nat.le_of_ble_eq_true rfl, Nat.le_of_ble_eq_true rfl⟩) hP hD hS hA (z_c1 (a := []) (b := []) rfl) (fun u_19 => (z_c1' (a := []) (b := []) rfl)) (fun u_19 H locs eu_19 hP hD hS => ?_)
        have hP : va_P D vwCl [(h0, .inr (10, [.ref h1, .ref h2, .ref h3, .ref h4, .ref h5, .ref h6, .int u_19.2.2.2.2.2.2.1, .ref h7, .ref h8, .ref h9, .ref h10, .int u_19.2.2.2.2.2.2.2.2.2.2.2.1, .int u_19.2.2.2.2.2.2.2.2.2.2.2.2.1, .int u_19.2.2.2.2.2.2.2.2.2.2.2.2.2.1, .ref h11, .int u_19.2.2.2.2.2.2.2.2.2.2.2.2.2.2.2])), (h1, .inl ((cA 1), 85, .inl u_19.1)), (h2, .inl ((cA 0), 9, .inr (.inl u_19.2.1))), (h3, .inl ((cA 1), 85, .inl u_19.2.2.1)), (h4, .inl ((cA 0), 9, .inr (.inl u_19.2.2.2.1))), (h5, .inl ((cA 1), 510, .inl u_19.2.2.2.2.1)), (h6, .inl ((cA 0), 54, .inr (.inl u_19.2.2.2.2.2.1))), (h7, .inl ((cA 1), 170, .inl u_19.2.2.2.2.2.2.2.1)), (h8, .inl ((cA 0), 18, .inr (.inl u_19.2.2.2.2.2.2.2.2.1))), (h9, .inl ((cA 2), 2, .inl u_19.2.2.2.2.2.2.2.2.2.1)), (h10, .inl ((cA 1), 80, .inl u_19.2.2.2.2.2.2.2.2.2.2.1)), (h11, .inl ((cA 1), 60, .inl u_19.2.2.2.2.2.2.2.2.2.2.2.2.2.2.1))] H := hP
        have hD : va_D A [(h0, .inr (10, [.ref h1, .ref h2, .ref h3, .ref h4, .ref h5, .ref h6, .int u_19.2.2.2.2.2.2.1, .ref h7, .ref h8, .ref h9, .ref h10, .int u_19.2.2.2.2.2.2.2.2.2.2.2.1, .int u_19.2.2.2.2.2.2.2.2.2.2.2.2.1, .int u_19.2.2.2.2.2.2.2.2.2.2.2.2.2.1, .ref h11, .int u_19.2.2.2.2.2.2.2.2.2.2.2.2.2.2.2])), (h1, .inl ((cA 1), 85, .inl u_19.1)), (h2, .inl ((cA 0), 9, .inr (.inl u_19.2.1))), (h3, .inl ((cA 1), 85, .inl u_19.2.2.1)), (h4, .inl ((cA 0), 9, .inr (.inl u_19.2.2.2.1))), (h5, .inl ((cA 1), 510, .inl u_19.2.2.2.2.1)), (h6, .inl ((cA 0), 54, .inr (.inl u_19.2.2.2.2.2.1))), (h7, .inl ((cA 1), 170, .inl u_19.2.2.2.2.2.2.2.1)), (h8, .inl ((cA 0), 18, .inr (.inl u_19.2.2.2.2.2.2.2.2.1))), (h9, .inl ((cA 2), 2, .inl u_19.2.2.2.2.2.2.2.2.2.1)), (h10, .inl ((cA 1), 80, .inl u_19.2.2.2.2.2.2.2.2.2.2.1)), (h11, .inl ((cA 1), 60, .inl u_19.2.2.2.2.2.2.2.2.2.2.2.2.2.2.1))] := hD
        refine lv_aload_n hx hb dX10_makeMinute_74 rfl (lv_at hl 2 rfl) ?_
        refine va_get (D := D) (ci := 10) (v := .ref h1) (C := RX10) (T := TX10) (N := 16) hx hb hts hinX10 hown hK hP 0 rfl rfl 0 (by decide) (hts (.fieldLink RX10 7 "GyroTrainerModel" "at" "[I") (List.mem_of_getElem? (i := 1) rfl)) (fun _ h9 => h9) rfl dX10_makeMinute_75 ?_
        refine lv_bipush (v := 12) hx hb dX10_makeMinute_78 (by decide) ?_
        refine lv_iload_n hx hb dX10_makeMinute_80 rfl (lv_at hl 0 rfl) ?_
        refine z_iast (k := 12) hx hb hK hP hD hS 1 1 rfl rfl rfl (by decide) (by decide) dX10_makeMinute_81 (fun g_21 eg_21 H locs hP hD hS => ?_)
        have hP : va_P D vwCl [(h0, .inr (10, [.ref h1, .ref h2, .ref h3, .ref h4, .ref h5, .ref h6, .int u_19.2.2.2.2.2.2.1, .ref h7, .ref h8, .ref h9, .ref h10, .int u_19.2.2.2.2.2.2.2.2.2.2.2.1, .int u_19.2.2.2.2.2.2.2.2.2.2.2.2.1, .int u_19.2.2.2.2.2.2.2.2.2.2.2.2.2.1, .ref h11, .int u_19.2.2.2.2.2.2.2.2.2.2.2.2.2.2.2])), (h1, .inl ((cA 1), 85, .inl g_21)), (h2, .inl ((cA 0), 9, .inr (.inl u_19.2.1))), (h3, .inl ((cA 1), 85, .inl u_19.2.2.1)), (h4, .inl ((cA 0), 9, .inr (.inl u_19.2.2.2.1))), (h5, .inl ((cA 1), 510, .inl u_19.2.2.2.2.1)), (h6, .inl ((cA 0), 54, .inr (.inl u_19.2.2.2.2.2.1))), (h7, .inl ((cA 1), 170, .inl u_19.2.2.2.2.2.2.2.1)), (h8, .inl ((cA 0), 18, .inr (.inl u_19.2.2.2.2.2.2.2.2.1))), (h9, .inl ((cA 2), 2, .inl u_19.2.2.2.2.2.2.2.2.2.1)), (h10, .inl ((cA 1), 80, .inl u_19.2.2.2.2.2.2.2.2.2.2.1)), (h11, .inl ((cA 1), 60, .inl u_19.2.2.2.2.2.2.2.2.2.2.2.2.2.2.1))] H := hP
        have hD : va_D A [(h0, .inr (10, [.ref h1, .ref h2, .ref h3, .ref h4, .ref h5, .ref h6, .int u_19.2.2.2.2.2.2.1, .ref h7, .ref h8, .ref h9, .ref h10, .int u_19.2.2.2.2.2.2.2.2.2.2.2.1, .int u_19.2.2.2.2.2.2.2.2.2.2.2.2.1, .int u_19.2.2.2.2.2.2.2.2.2.2.2.2.2.1, .ref h11, .int u_19.2.2.2.2.2.2.2.2.2.2.2.2.2.2.2])), (h1, .inl ((cA 1), 85, .inl g_21)), (h2, .inl ((cA 0), 9, .inr (.inl u_19.2.1))), (h3, .inl ((cA 1), 85, .inl u_19.2.2.1)), (h4, .inl ((cA 0), 9, .inr (.inl u_19.2.2.2.1))), (h5, .inl ((cA 1), 510, .inl u_19.2.2.2.2.1)), (h6, .inl ((cA 0), 54, .inr (.inl u_19.2.2.2.2.2.1))), (h7, .inl ((cA 1), 170, .inl u_19.2.2.2.2.2.2.2.1)), (h8, .inl ((cA 0), 18, .inr (.inl u_19.2.2.2.2.2.2.2.2.1))), (h9, .inl ((cA 2), 2, .inl u_19.2.2.2.2.2.2.2.2.2.1)), (h10, .inl ((cA 1), 80, .inl u_19.2.2.2.2.2.2.2.2.2.2.1)), (h11, .inl ((cA 1), 60, .inl u_19.2.2.2.2.2.2.2.2.2.2.2.2.2.2.1))] := hD
        exact C82 ((g_21, u_19.2)) (by rw [E2, E1]; unfold fm_mm2 fm_dir; simp only [if_neg c_15, if_pos c_16, if_pos c_17, ← eu_19, ← eg_21]) (by show g_21 8 = nI lv; rw [eg_21]; show u_19.1 8 = nI lv; rw [eu_19, tn_lo _ _ _ (by decide)]; exact K8) (by show g_21 3 = nI k0; rw [eg_21]; show u_19.1 3 = nI k0; rw [eu_19, tn_lo _ _ _ (by decide)]; exact K3) (by show zcR (g_21 1); rw [eg_21]; show zcR (u_19.1 1); rw [eu_19, tn_lo _ _ _ (by decide)]; exact K1) _ _ hP hD hS ls (lv_sub hl [2] rfl)
    · skip
      refine lv_iconst (v := 1) hx hb dX10_makeMinute_51 (by decide) ?_
      refine lv_goto (tgt := 56) hx hb dX10_makeMinute_52 (by decide) ?_
      refine lv_istore_n (lv' := [(2, .int (1 : Int32)), (1, .int (g_2 4)), (0, .ref h0)]) hx hb dX10_makeMinute_56 rfl hl (by decide) rfl (fun ls hl => ?_)
      refine lv_aload_n hx hb dX10_makeMinute_57 rfl (lv_at hl 2 rfl) ?_
      refine va_get (D := D) (ci := 10) (v := .ref h1) (C := RX10) (T := TX10) (N := 16) hx hb hts hinX10 hown hK hP 0 rfl rfl 0 (by decide) (hts (.fieldLink RX10 7 "GyroTrainerModel" "at" "[I") (List.mem_of_getElem? (i := 1) rfl)) (fun _ h9 => h9) rfl dX10_makeMinute_58 ?_
      refine lv_bipush (v := 12) hx hb dX10_makeMinute_61 (by decide) ?_
      refine z_iald (k := 12) hx hb hK hP 1 1 rfl rfl rfl (by decide) (by decide) dX10_makeMinute_63 ?_
      refine lv_iload_n hx hb dX10_makeMinute_64 rfl (lv_at hl 0 rfl) ?_
      refine lv_ineg hx hb dX10_makeMinute_65 ?_
      refine lv_icmp_ne (tgt := 74) hx hb dX10_makeMinute_66 (by decide) (fun c_22 => ?_) (fun c_22 => ?_)
      · skip
        refine lv_aload_n hx hb dX10_makeMinute_74 rfl (lv_at hl 2 rfl) ?_
        refine va_get (D := D) (ci := 10) (v := .ref h1) (C := RX10) (T := TX10) (N := 16) hx hb hts hinX10 hown hK hP 0 rfl rfl 0 (by decide) (hts (.fieldLink RX10 7 "GyroTrainerModel" "at" "[I") (List.mem_of_getElem? (i := 1) rfl)) (fun _ h9 => h9) rfl dX10_makeMinute_75 ?_
        refine lv_bipush (v := 12) hx hb dX10_makeMinute_78 (by decide) ?_
        refine lv_iload_n hx hb dX10_makeMinute_80 rfl (lv_at hl 0 rfl) ?_
        refine z_iast (k := 12) hx hb hK hP hD hS 1 1 rfl rfl rfl (by decide) (by decide) dX10_makeMinute_81 (fun g_23 eg_23 H locs hP hD hS => ?_)
        have hP : va_P D vwCl [(h0, .inr (10, [.ref h1, .ref h2, .ref h3, .ref h4, .ref h5, .ref h6, .int u_3.2.2.2.2.2.2.1, .ref h7, .ref h8, .ref h9, .ref h10, .int u_3.2.2.2.2.2.2.2.2.2.2.2.1, .int u_3.2.2.2.2.2.2.2.2.2.2.2.2.1, .int u_3.2.2.2.2.2.2.2.2.2.2.2.2.2.1, .ref h11, .int u_3.2.2.2.2.2.2.2.2.2.2.2.2.2.2.2])), (h1, .inl ((cA 1), 85, .inl g_23)), (h2, .inl ((cA 0), 9, .inr (.inl u_3.2.1))), (h3, .inl ((cA 1), 85, .inl u_3.2.2.1)), (h4, .inl ((cA 0), 9, .inr (.inl u_3.2.2.2.1))), (h5, .inl ((cA 1), 510, .inl u_3.2.2.2.2.1)), (h6, .inl ((cA 0), 54, .inr (.inl u_3.2.2.2.2.2.1))), (h7, .inl ((cA 1), 170, .inl u_3.2.2.2.2.2.2.2.1)), (h8, .inl ((cA 0), 18, .inr (.inl u_3.2.2.2.2.2.2.2.2.1))), (h9, .inl ((cA 2), 2, .inl u_3.2.2.2.2.2.2.2.2.2.1)), (h10, .inl ((cA 1), 80, .inl u_3.2.2.2.2.2.2.2.2.2.2.1)), (h11, .inl ((cA 1), 60, .inl u_3.2.2.2.2.2.2.2.2.2.2.2.2.2.2.1))] H := hP
        have hD : va_D A [(h0, .inr (10, [.ref h1, .ref h2, .ref h3, .ref h4, .ref h5, .ref h6, .int u_3.2.2.2.2.2.2.1, .ref h7, .ref h8, .ref h9, .ref h10, .int u_3.2.2.2.2.2.2.2.2.2.2.2.1, .int u_3.2.2.2.2.2.2.2.2.2.2.2.2.1, .int u_3.2.2.2.2.2.2.2.2.2.2.2.2.2.1, .ref h11, .int u_3.2.2.2.2.2.2.2.2.2.2.2.2.2.2.2])), (h1, .inl ((cA 1), 85, .inl g_23)), (h2, .inl ((cA 0), 9, .inr (.inl u_3.2.1))), (h3, .inl ((cA 1), 85, .inl u_3.2.2.1)), (h4, .inl ((cA 0), 9, .inr (.inl u_3.2.2.2.1))), (h5, .inl ((cA 1), 510, .inl u_3.2.2.2.2.1)), (h6, .inl ((cA 0), 54, .inr (.inl u_3.2.2.2.2.2.1))), (h7, .inl ((cA 1), 170, .inl u_3.2.2.2.2.2.2.2.1)), (h8, .inl ((cA 0), 18, .inr (.inl u_3.2.2.2.2.2.2.2.2.1))), (h9, .inl ((cA 2), 2, .inl u_3.2.2.2.2.2.2.2.2.2.1)), (h10, .inl ((cA 1), 80, .inl u_3.2.2.2.2.2.2.2.2.2.2.1)), (h11, .inl ((cA 1), 60, .inl u_3.2.2.2.2.2.2.2.2.2.2.2.2.2.2.1))] := hD
        exact C82 ((g_23, u_3.2)) (by rw [E2, E1]; unfold fm_mm2 fm_dir; simp only [if_neg c_15, if_neg c_16, if_neg c_22, ← eg_23]) (by show g_23 8 = nI lv; rw [eg_23]; exact K8) (by show g_23 3 = nI k0; rw [eg_23]; exact K3) (by show zcR (g_23 1); rw [eg_23]; exact K1) _ _ hP hD hS ls (lv_sub hl [2] rfl)
      · skip
        refine lv_aload_n hx hb dX10_makeMinute_69 rfl (lv_at hl 2 rfl) ?_
        refine lv_iload_n hx hb dX10_makeMinute_70 rfl (lv_at hl 1 rfl) ?_
        refine z_Hv (wt := fun (u_24 : vX10) => [(h0, .inr (10, [.ref h1, .ref h2, .ref h3, .ref h4, .ref h5, .ref h6, .int u_24.2.2.2.2.2.2.1, .ref h7, .ref h8, .ref h9, .ref h10, .int u_24.2.2.2.2.2.2.2.2.2.2.2.1, .int u_24.2.2.2.2.2.2.2.2.2.2.2.2.1, .int u_24.2.2.2.2.2.2.2.2.2.2.2.2.2.1, .ref h11, .int u_24.2.2.2.2.2.2.2.2.2.2.2.2.2.2.2])), (h1, .inl ((cA 1), 85, .inl u_24.1)), (h2, .inl ((cA 0), 9, .inr (.inl u_24.2.1))), (h3, .inl ((cA 1), 85, .inl u_24.2.2.1)), (h4, .inl ((cA 0), 9, .inr (.inl u_24.2.2.2.1))), (h5, .inl ((cA 1), 510, .inl u_24.2.2.2.2.1)), (h6, .inl ((cA 0), 54, .inr (.inl u_24.2.2.2.2.2.1))), (h7, .inl ((cA 1), 170, .inl u_24.2.2.2.2.2.2.2.1)), (h8, .inl ((cA 0), 18, .inr (.inl u_24.2.2.2.2.2.2.2.2.1))), (h9, .inl ((cA 2), 2, .inl u_24.2.2.2.2.2.2.2.2.2.1)), (h10, .inl ((cA 1), 80, .inl u_24.2.2.2.2.2.2.2.2.2.2.1)), (h11, .inl ((cA 1), 60, .inl u_24.2.2.2.2.2.2.2.2.2.2.2.2.2.2.1))]) (va_runV (As := [.int (g_2 4)]) (rest := []) ⟨hx, hb, hml, hown, hts⟩ (c_X10_addTurn l D cA h0 h1 h2 h3 h4 h5 h6 h7 h8 h9 h10 h11 H.size t u_3 (g_2 4) K13 ht8) (cwV 1 hts gX10_makeMinute_X10_addTurn rfl rfl rfl (by decide +kernel) ⟨Nat.le_of_ble_eq_true rfl, Nat.le_of_ble_eq_true rfl⟩) (zqV hK hP hD hS hA hE (z_c1 (a := []) (b := []) rfl) 0 rfl rfl) rfl rfl hl.1 rfl (lv_room (Nat.le_of_ble_eq_true rfl)) dX10_makeMinute_71 ⟨Nat.le_of_ble_eq_true rfl, Nat.le_of_ble_eq_true rfl⟩) hP hD hS hA (z_c1 (a := []) (b := []) rfl) (fun u_24 => (z_c1' (a := []) (b := []) rfl)) (fun u_24 H locs eu_24 hP hD hS => ?_)
        have hP : va_P D vwCl [(h0, .inr (10, [.ref h1, .ref h2, .ref h3, .ref h4, .ref h5, .ref h6, .int u_24.2.2.2.2.2.2.1, .ref h7, .ref h8, .ref h9, .ref h10, .int u_24.2.2.2.2.2.2.2.2.2.2.2.1, .int u_24.2.2.2.2.2.2.2.2.2.2.2.2.1, .int u_24.2.2.2.2.2.2.2.2.2.2.2.2.2.1, .ref h11, .int u_24.2.2.2.2.2.2.2.2.2.2.2.2.2.2.2])), (h1, .inl ((cA 1), 85, .inl u_24.1)), (h2, .inl ((cA 0), 9, .inr (.inl u_24.2.1))), (h3, .inl ((cA 1), 85, .inl u_24.2.2.1)), (h4, .inl ((cA 0), 9, .inr (.inl u_24.2.2.2.1))), (h5, .inl ((cA 1), 510, .inl u_24.2.2.2.2.1)), (h6, .inl ((cA 0), 54, .inr (.inl u_24.2.2.2.2.2.1))), (h7, .inl ((cA 1), 170, .inl u_24.2.2.2.2.2.2.2.1)), (h8, .inl ((cA 0), 18, .inr (.inl u_24.2.2.2.2.2.2.2.2.1))), (h9, .inl ((cA 2), 2, .inl u_24.2.2.2.2.2.2.2.2.2.1)), (h10, .inl ((cA 1), 80, .inl u_24.2.2.2.2.2.2.2.2.2.2.1)), (h11, .inl ((cA 1), 60, .inl u_24.2.2.2.2.2.2.2.2.2.2.2.2.2.2.1))] H := hP
        have hD : va_D A [(h0, .inr (10, [.ref h1, .ref h2, .ref h3, .ref h4, .ref h5, .ref h6, .int u_24.2.2.2.2.2.2.1, .ref h7, .ref h8, .ref h9, .ref h10, .int u_24.2.2.2.2.2.2.2.2.2.2.2.1, .int u_24.2.2.2.2.2.2.2.2.2.2.2.2.1, .int u_24.2.2.2.2.2.2.2.2.2.2.2.2.2.1, .ref h11, .int u_24.2.2.2.2.2.2.2.2.2.2.2.2.2.2.2])), (h1, .inl ((cA 1), 85, .inl u_24.1)), (h2, .inl ((cA 0), 9, .inr (.inl u_24.2.1))), (h3, .inl ((cA 1), 85, .inl u_24.2.2.1)), (h4, .inl ((cA 0), 9, .inr (.inl u_24.2.2.2.1))), (h5, .inl ((cA 1), 510, .inl u_24.2.2.2.2.1)), (h6, .inl ((cA 0), 54, .inr (.inl u_24.2.2.2.2.2.1))), (h7, .inl ((cA 1), 170, .inl u_24.2.2.2.2.2.2.2.1)), (h8, .inl ((cA 0), 18, .inr (.inl u_24.2.2.2.2.2.2.2.2.1))), (h9, .inl ((cA 2), 2, .inl u_24.2.2.2.2.2.2.2.2.2.1)), (h10, .inl ((cA 1), 80, .inl u_24.2.2.2.2.2.2.2.2.2.2.1)), (h11, .inl ((cA 1), 60, .inl u_24.2.2.2.2.2.2.2.2.2.2.2.2.2.2.1))] := hD
        refine lv_aload_n hx hb dX10_makeMinute_74 rfl (lv_at hl 2 rfl) ?_
        refine va_get (D := D) (ci := 10) (v := .ref h1) (C := RX10) (T := TX10) (N := 16) hx hb hts hinX10 hown hK hP 0 rfl rfl 0 (by decide) (hts (.fieldLink RX10 7 "GyroTrainerModel" "at" "[I") (List.mem_of_getElem? (i := 1) rfl)) (fun _ h9 => h9) rfl dX10_makeMinute_75 ?_
        refine lv_bipush (v := 12) hx hb dX10_makeMinute_78 (by decide) ?_
        refine lv_iload_n hx hb dX10_makeMinute_80 rfl (lv_at hl 0 rfl) ?_
        refine z_iast (k := 12) hx hb hK hP hD hS 1 1 rfl rfl rfl (by decide) (by decide) dX10_makeMinute_81 (fun g_26 eg_26 H locs hP hD hS => ?_)
        have hP : va_P D vwCl [(h0, .inr (10, [.ref h1, .ref h2, .ref h3, .ref h4, .ref h5, .ref h6, .int u_24.2.2.2.2.2.2.1, .ref h7, .ref h8, .ref h9, .ref h10, .int u_24.2.2.2.2.2.2.2.2.2.2.2.1, .int u_24.2.2.2.2.2.2.2.2.2.2.2.2.1, .int u_24.2.2.2.2.2.2.2.2.2.2.2.2.2.1, .ref h11, .int u_24.2.2.2.2.2.2.2.2.2.2.2.2.2.2.2])), (h1, .inl ((cA 1), 85, .inl g_26)), (h2, .inl ((cA 0), 9, .inr (.inl u_24.2.1))), (h3, .inl ((cA 1), 85, .inl u_24.2.2.1)), (h4, .inl ((cA 0), 9, .inr (.inl u_24.2.2.2.1))), (h5, .inl ((cA 1), 510, .inl u_24.2.2.2.2.1)), (h6, .inl ((cA 0), 54, .inr (.inl u_24.2.2.2.2.2.1))), (h7, .inl ((cA 1), 170, .inl u_24.2.2.2.2.2.2.2.1)), (h8, .inl ((cA 0), 18, .inr (.inl u_24.2.2.2.2.2.2.2.2.1))), (h9, .inl ((cA 2), 2, .inl u_24.2.2.2.2.2.2.2.2.2.1)), (h10, .inl ((cA 1), 80, .inl u_24.2.2.2.2.2.2.2.2.2.2.1)), (h11, .inl ((cA 1), 60, .inl u_24.2.2.2.2.2.2.2.2.2.2.2.2.2.2.1))] H := hP
        have hD : va_D A [(h0, .inr (10, [.ref h1, .ref h2, .ref h3, .ref h4, .ref h5, .ref h6, .int u_24.2.2.2.2.2.2.1, .ref h7, .ref h8, .ref h9, .ref h10, .int u_24.2.2.2.2.2.2.2.2.2.2.2.1, .int u_24.2.2.2.2.2.2.2.2.2.2.2.2.1, .int u_24.2.2.2.2.2.2.2.2.2.2.2.2.2.1, .ref h11, .int u_24.2.2.2.2.2.2.2.2.2.2.2.2.2.2.2])), (h1, .inl ((cA 1), 85, .inl g_26)), (h2, .inl ((cA 0), 9, .inr (.inl u_24.2.1))), (h3, .inl ((cA 1), 85, .inl u_24.2.2.1)), (h4, .inl ((cA 0), 9, .inr (.inl u_24.2.2.2.1))), (h5, .inl ((cA 1), 510, .inl u_24.2.2.2.2.1)), (h6, .inl ((cA 0), 54, .inr (.inl u_24.2.2.2.2.2.1))), (h7, .inl ((cA 1), 170, .inl u_24.2.2.2.2.2.2.2.1)), (h8, .inl ((cA 0), 18, .inr (.inl u_24.2.2.2.2.2.2.2.2.1))), (h9, .inl ((cA 2), 2, .inl u_24.2.2.2.2.2.2.2.2.2.1)), (h10, .inl ((cA 1), 80, .inl u_24.2.2.2.2.2.2.2.2.2.2.1)), (h11, .inl ((cA 1), 60, .inl u_24.2.2.2.2.2.2.2.2.2.2.2.2.2.2.1))] := hD
        exact C82 ((g_26, u_24.2)) (by rw [E2, E1]; unfold fm_mm2 fm_dir; simp only [if_neg c_15, if_neg c_16, if_pos c_22, ← eu_24, ← eg_26]) (by show g_26 8 = nI lv; rw [eg_26]; show u_24.1 8 = nI lv; rw [eu_24, tn_lo _ _ _ (by decide)]; exact K8) (by show g_26 3 = nI k0; rw [eg_26]; show u_24.1 3 = nI k0; rw [eu_24, tn_lo _ _ _ (by decide)]; exact K3) (by show zcR (g_26 1); rw [eg_26]; show zcR (u_24.1 1); rw [eu_24, tn_lo _ _ _ (by decide)]; exact K1) _ _ hP hD hS ls (lv_sub hl [2] rfl)
