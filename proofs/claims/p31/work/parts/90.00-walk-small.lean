set_option maxHeartbeats 4000000 in
set_option maxRecDepth 100000 in
theorem c_L_up (l : Launch) (D : va_G) (cA : Nat → ClassId) (x1 : Int32) (x2 : Int32) (hm : ¬ x2 = 0) : Met l yL_up wsL_up ({ frames := 0, cells := 0, slots := 0, locals := 0 }) (va_Pc [.int x1, .int x2] (zPreR D (zty cA) [])) (vp_Si (fun x => x = fl_up x1 x2)) 0 0 (fun _ => False) := by
  refine Met.ofW (cc := cL_up) (maxL := 2) (ret := (some .int)) (by decide) rfl ?_
  intro p e s m args below meth c s₁ B hml hv
  obtain ⟨rfl, hP, hK, hN⟩ := hv
  have hx := B.exec
  have hb := B.bytes
  have hr := B.returns
  have hts := atoms_spec (ws := wsL_up) B.pre
  have hown : s.vm.findClass RL = some m.cls := findClass_of_methodNamed B.named
  have hP : va_P D vwCl [] s.heap := hP
  have hl := lv_entry ([.int x1, .int x2]) (n := 2) (Nat.le_of_ble_eq_true rfl)
  rw [lg_entry_eq]
  generalize (lg_sl ([.int x1, .int x2]) ++ List.replicate (2 - (lg_sl ([.int x1, .int x2])).length) Slot.unset).toArray = ls at hl ⊢
  have hl : lv_has ls 2 [(0, .int x1), (1, .int x2)] := hl
  refine z_genQ (fun Q hQ => ?_)
  refine lv_iload_n hx hb dL_up_0 rfl (lv_at hl 0 rfl) ?_
  refine lv_ldc hx hb hown (hts (.constant RL 8 (2147483647)) (List.mem_of_getElem? (i := 1) rfl)) dL_up_1 ?_
  refine lv_iand hx hb dL_up_3 ?_
  refine lv_iload_n hx hb dL_up_4 rfl (lv_at hl 1 rfl) ?_
  refine lv_irem hx hb dL_up_5 hm ?_
  have e9 : fl_up x1 x2 = ((x1 &&& (2147483647 : Int32)) - (x1 &&& (2147483647 : Int32)) / x2 * x2) := rfl
  subst hQ
  exact W.iret (v := ((x1 &&& (2147483647 : Int32)) - (x1 &&& (2147483647 : Int32)) / x2 * x2)) hx hb hr (fun t ht hW => ⟨_, rfl, e9.symm, ht⟩) (fun q h => by cases h) dL_up_6
set_option maxHeartbeats 4000000 in
set_option maxRecDepth 100000 in
theorem c_L_size (l : Launch) (D : va_G) (cA : Nat → ClassId) (x1 : Int32) : Met l yL_size wsL_size ({ frames := 0, cells := 0, slots := 0, locals := 0 }) (va_Pc [.int x1] (zPreR D (zty cA) [])) (vp_Si (fun x => x = fm_size x1)) 0 0 (fun _ => False) := by
  refine Met.ofW (cc := cL_size) (maxL := 1) (ret := (some .int)) (by decide) rfl ?_
  intro p e s m args below meth c s₁ B hml hv
  obtain ⟨rfl, hP, hK, hN⟩ := hv
  have hx := B.exec
  have hb := B.bytes
  have hr := B.returns
  have hts := atoms_spec (ws := wsL_size) B.pre
  have hown : s.vm.findClass RL = some m.cls := findClass_of_methodNamed B.named
  have hP : va_P D vwCl [] s.heap := hP
  have hl := lv_entry ([.int x1]) (n := 1) (Nat.le_of_ble_eq_true rfl)
  rw [lg_entry_eq]
  generalize (lg_sl ([.int x1]) ++ List.replicate (1 - (lg_sl ([.int x1])).length) Slot.unset).toArray = ls at hl ⊢
  have hl : lv_has ls 1 [(0, .int x1)] := hl
  refine z_genQ (fun Q hQ => ?_)
  refine lv_iload_n hx hb dL_size_0 rfl (lv_at hl 0 rfl) ?_
  refine lv_if_ge (tgt := 9) hx hb dL_size_1 (by decide) (fun c_1 => ?_) (fun c_1 => ?_)
  · skip
    refine lv_iload_n hx hb dL_size_9 rfl (lv_at hl 0 rfl) ?_
    have e9 : fm_size x1 = x1 := by unfold fm_size; rw [if_pos c_1]
    subst hQ
    exact W.iret (v := x1) hx hb hr (fun t ht hW => ⟨_, rfl, e9.symm, ht⟩) (fun q h => by cases h) dL_size_10
  · skip
    refine lv_iload_n hx hb dL_size_4 rfl (lv_at hl 0 rfl) ?_
    refine lv_ineg hx hb dL_size_5 ?_
    refine lv_goto (tgt := 10) hx hb dL_size_6 (by decide) ?_
    have e9 : fm_size x1 = (-x1) := by unfold fm_size; rw [if_neg c_1]
    subst hQ
    exact W.iret (v := (-x1)) hx hb hr (fun t ht hW => ⟨_, rfl, e9.symm, ht⟩) (fun q h => by cases h) dL_size_10
