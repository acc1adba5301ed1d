/-! plain numbers: what the functions of the outer type answer -/
def zf_in (a b c : Int64) : Int32 := if a < b then 0 else if c < a then 0 else 1
theorem zf_in_b (a b c : Int64) : narrow .boolean (.int (zf_in a b c)) = .int (zf_in a b c) := by
  unfold zf_in
  split
  · rfl
  · split <;> rfl
def zf_isCourse (a : Int32) : Int32 := zf_in a.toInt64 0 35999
def zf_isSpeed (a : Int32) : Int32 := zf_in a.toInt64 0 400
def zf_isMinutes (a : Int32) : Int32 := zf_in a.toInt64 1 600
def zf_isDegrees (a : Int32) : Int32 := zf_in a.toInt64 (-70) 70
def zf_limited (a b : Int64) : Int64 := if (if a < b then a else b) < -b then -b else (if a < b then a else b)
def zf_at (n : Nat) (f : Nat → Int64) (i : Int32) : Int64 := if i < 0 then 0 else if nI n ≤ i then 0 else f i.toNatClampNeg
def zf_write (n : Nat) (f : Nat → Int64) (i : Int32) (x : Int64) : Nat → Int64 := if i < 0 then f else if nI n ≤ i then f else vp_updL f i.toNatClampNeg x
theorem z_ixof {x : Int32} {n : Nat} (h0 : ¬ x < 0) (h : ¬ nI n ≤ x) (hn : n < 2 ^ 31) : ∃ k : Nat, k < n ∧ x = nI k := by
  obtain ⟨k, hk, e⟩ := nI_of h0
  refine ⟨k, ?_, e⟩
  subst e
  exact Nat.lt_of_not_le (fun q => h (nI_le q hk))
def zcp {α : Type} (k : Nat) (f g : Nat → α) : Nat → α := fun j => if j < k then f j else g j
theorem zcp_0 {α : Type} (f g : Nat → α) : zcp 0 f g = g := by
  funext j; unfold zcp; rw [if_neg (Nat.not_lt_zero j)]
theorem zcp_s (k : Nat) (f g : Nat → Int64) : vp_updL (zcp k f g) k (f k) = zcp (k + 1) f g := by
  funext j
  unfold vp_updL zcp
  by_cases h : j = k
  · subst h; rw [if_pos rfl, if_pos (Nat.lt_succ_self j)]
  · rw [if_neg h]
    by_cases h2 : j < k
    · rw [if_pos h2, if_pos (by omega)]
    · rw [if_neg h2, if_neg (by omega)]
theorem zcp_sI (k : Nat) (f g : Nat → Int32) : upd (zcp k f g) k (f k) = zcp (k + 1) f g := by
  funext j
  unfold upd zcp
  by_cases h : j = k
  · subst h; rw [if_pos rfl, if_pos (Nat.lt_succ_self j)]
  · rw [if_neg h]
    by_cases h2 : j < k
    · rw [if_pos h2, if_pos (by omega)]
    · rw [if_neg h2, if_neg (by omega)]
def zf_quot (a b : Int64) : Int64 := if b = 0 then 0 else a / b
def zf_sine (a : Int64) : Int64 :=
  if a ≤ 18000 then (if 405000000 - a * (18000 - a) = 0 then 0 else 4000000 * (a * (18000 - a)) / (405000000 - a * (18000 - a)))
  else (if 405000000 - (a - 18000) * (18000 - (a - 18000)) = 0 then 0 else -(4000000 * ((a - 18000) * (18000 - (a - 18000))) / (405000000 - (a - 18000) * (18000 - (a - 18000)))))
def zf_cosine (a : Int64) : Int64 := zf_sine (a + 9000 - (a + 9000) / 36000 * 36000)
def zf_cLat (a : Int64) : Int64 := (if 0 < a then a else -a) / 10000
def zf_free (a b c d : Int64) : Int64 :=
  zf_quot (a * (if 0 ≤ b then zf_sine (zf_cLat b) else -zf_sine (zf_cLat b))) (zf_cosine (zf_cLat b)) - zf_quot (64 * c * zf_cosine d) (zf_cosine (zf_cLat b))

set_option maxHeartbeats 4000000 in
set_option maxRecDepth 100000 in
theorem c_X9_isBetween (l : Launch) (D : va_G) (cA : Nat → ClassId) (x0 : Int64) (x1 : Int64) (x2 : Int64)  : Met l yX9_isBetween wsX9_isBetween ({ frames := 0, cells := 0, slots := 0, locals := 0 }) (va_Pc [.long x0, .long x1, .long x2] (zPreR D (zty cA) ([]))) (vp_Si (fun x => x = (zf_in x0 x1 x2))) 0 0 (fun _ => False) := by
  refine Met.ofW (cc := cX9_isBetween) (maxL := 6) (ret := (some .boolean)) (by decide) rfl ?_
  intro p e s m args below meth c s₁ B hml hv
  obtain ⟨rfl, hP, hK, hN⟩ := hv
  have hx := B.exec
  have hb := B.bytes
  have hr := B.returns
  have hts := atoms_spec (ws := wsX9_isBetween) B.pre
  have hown : s.vm.findClass RX9 = some m.cls := findClass_of_methodNamed B.named
  have hlocks := B.notSynchronized
  have hP : va_P D vwCl [] s.heap := hP
  have hl := lv_entry ([.long x0, .long x1, .long x2]) (n := 6) (Nat.le_of_ble_eq_true rfl)
  rw [lg_entry_eq]
  generalize (lg_sl ([.long x0, .long x1, .long x2]) ++ List.replicate (6 - (lg_sl ([.long x0, .long x1, .long x2])).length) Slot.unset).toArray = ls at hl ⊢
  have hl : lv_has ls 6 [(0, .long x0), (2, .long x1), (4, .long x2)] := hl
  refine z_genQ (fun Q hQ => ?_)
  refine lv_lload_n hx hb dX9_isBetween_0 rfl (lv_at hl 0 rfl) ?_
  refine lv_lload_n hx hb dX9_isBetween_1 rfl (lv_at hl 1 rfl) ?_
  refine W.lcmp hx hb dX9_isBetween_2 ?_
  refine lv_if_lt (tgt := 17) hx hb dX9_isBetween_3 (by decide) (fun kc_1 => ?_) (fun kc_1 => ?_)
  · skip
    have c_1 : x0 < x1 := (lg_cmp_lt _ _).mp kc_1
    refine lv_iconst (v := 0) hx hb dX9_isBetween_17 (by decide) ?_
    have e9 : (zf_in x0 x1 x2) = (0 : Int32) := by unfold zf_in; simp only [if_pos c_1] <;> rfl
    subst hQ
    exact W.zret (ty := .boolean) (v := (0 : Int32)) hx hb hr rfl (fun t ht hW => ⟨_, rfl, e9.symm, ht⟩) (fun q h => by cases h) dX9_isBetween_18
  · skip
    have c_1 : ¬ (x0 < x1) := fun h => kc_1 ((lg_cmp_lt _ _).mpr h)
    refine lv_lload_n hx hb dX9_isBetween_6 rfl (lv_at hl 0 rfl) ?_
    refine lv_lload hx hb dX9_isBetween_7 (lv_at hl 2 rfl) ?_
    refine W.lcmp hx hb dX9_isBetween_9 ?_
    refine lv_if_gt (tgt := 17) hx hb dX9_isBetween_10 (by decide) (fun kc_2 => ?_) (fun kc_2 => ?_)
    · skip
      have c_2 : x2 < x0 := (lg_cmp_gt _ _).mp kc_2
      refine lv_iconst (v := 0) hx hb dX9_isBetween_17 (by decide) ?_
      have e9 : (zf_in x0 x1 x2) = (0 : Int32) := by unfold zf_in; simp only [if_neg c_1, if_pos c_2] <;> rfl
      subst hQ
      exact W.zret (ty := .boolean) (v := (0 : Int32)) hx hb hr rfl (fun t ht hW => ⟨_, rfl, e9.symm, ht⟩) (fun q h => by cases h) dX9_isBetween_18
    · skip
      have c_2 : ¬ (x2 < x0) := fun h => kc_2 ((lg_cmp_gt _ _).mpr h)
      refine lv_iconst (v := 1) hx hb dX9_isBetween_13 (by decide) ?_
      refine lv_goto (tgt := 18) hx hb dX9_isBetween_14 (by decide) ?_
      have e9 : (zf_in x0 x1 x2) = (1 : Int32) := by unfold zf_in; simp only [if_neg c_1, if_neg c_2] <;> rfl
      subst hQ
      exact W.zret (ty := .boolean) (v := (1 : Int32)) hx hb hr rfl (fun t ht hW => ⟨_, rfl, e9.symm, ht⟩) (fun q h => by cases h) dX9_isBetween_18
set_option maxHeartbeats 4000000 in
set_option maxRecDepth 100000 in
theorem c_X9_isCourse (l : Launch) (D : va_G) (cA : Nat → ClassId) (x0 : Int32)  : Met l yX9_isCourse wsX9_isCourse ({ frames := 1, cells := 0, slots := 0, locals := 25 }) (va_Pc [.int x0] (zPreR D (zty cA) ([]))) (vp_Si (fun x => x = (zf_isCourse x0))) 0 0 (fun _ => False) := by
  refine Met.ofW (cc := cX9_isCourse) (maxL := 1) (ret := (some .boolean)) (by decide) rfl ?_
  intro p e s m args below meth c s₁ B hml hv
  obtain ⟨rfl, hP, hK, hN⟩ := hv
  have hx := B.exec
  have hb := B.bytes
  have hr := B.returns
  have hts := atoms_spec (ws := wsX9_isCourse) B.pre
  have hown : s.vm.findClass RX9 = some m.cls := findClass_of_methodNamed B.named
  have hlocks := B.notSynchronized
  have hP : va_P D vwCl [] s.heap := hP
  have hl := lv_entry ([.int x0]) (n := 1) (Nat.le_of_ble_eq_true rfl)
  rw [lg_entry_eq]
  generalize (lg_sl ([.int x0]) ++ List.replicate (1 - (lg_sl ([.int x0])).length) Slot.unset).toArray = ls at hl ⊢
  have hl : lv_has ls 1 [(0, .int x0)] := hl
  refine z_genQ (fun Q hQ => ?_)
  refine lv_iload_n hx hb dX9_isCourse_0 rfl (lv_at hl 0 rfl) ?_
  refine lv_i2l hx hb dX9_isCourse_1 rfl ?_
  refine lv_lconst (v := 0) hx hb dX9_isCourse_2 (by decide) ?_
  refine lv_ldc2 hx hb hown (hts (.constantLong RX9 351 (35999)) (List.mem_of_getElem? (i := 1) rfl)) dX9_isCourse_3 ?_
  refine z_Ri (va_runS (As := [.long (x0.toInt64), .long (0 : Int64), .long (35999 : Int64)]) (rest := []) ⟨hx, hb, hml, hown, hts⟩ (c_X9_isBetween l D cA  (x0.toInt64) (0 : Int64) (35999 : Int64)) (va_cwS 3 hts gX9_isCourse_X9_isBetween rfl rfl rfl (by decide +kernel) ⟨Nat.le_of_ble_eq_true rfl, Nat.le_of_ble_eq_true rfl⟩) (zpSR hK hP hN [] [0, 1, 2, 3, 4] rfl rfl) rfl rfl hl.1 rfl (lv_room (Nat.le_of_ble_eq_true rfl)) dX9_isCourse_6 ⟨Nat.le_of_ble_eq_true rfl, Nat.le_of_ble_eq_true rfl⟩) ?_
  have e9 : (zf_isCourse x0) = (zf_in (x0.toInt64) (0 : Int64) (35999 : Int64)) := by rfl
  subst hQ
  exact W.zret (ty := .boolean) (v := (zf_in (x0.toInt64) (0 : Int64) (35999 : Int64))) hx hb hr (zf_in_b _ _ _) (fun t ht hW => ⟨_, rfl, e9.symm, ht⟩) (fun q h => by cases h) dX9_isCourse_9
set_option maxHeartbeats 4000000 in
set_option maxRecDepth 100000 in
theorem c_X9_isSpeed (l : Launch) (D : va_G) (cA : Nat → ClassId) (x0 : Int32)  : Met l yX9_isSpeed wsX9_isSpeed ({ frames := 1, cells := 0, slots := 0, locals := 25 }) (va_Pc [.int x0] (zPreR D (zty cA) ([]))) (vp_Si (fun x => x = (zf_isSpeed x0))) 0 0 (fun _ => False) := by
  refine Met.ofW (cc := cX9_isSpeed) (maxL := 1) (ret := (some .boolean)) (by decide) rfl ?_
  intro p e s m args below meth c s₁ B hml hv
  obtain ⟨rfl, hP, hK, hN⟩ := hv
  have hx := B.exec
  have hb := B.bytes
  have hr := B.returns
  have hts := atoms_spec (ws := wsX9_isSpeed) B.pre
  have hown : s.vm.findClass RX9 = some m.cls := findClass_of_methodNamed B.named
  have hlocks := B.notSynchronized
  have hP : va_P D vwCl [] s.heap := hP
  have hl := lv_entry ([.int x0]) (n := 1) (Nat.le_of_ble_eq_true rfl)
  rw [lg_entry_eq]
  generalize (lg_sl ([.int x0]) ++ List.replicate (1 - (lg_sl ([.int x0])).length) Slot.unset).toArray = ls at hl ⊢
  have hl : lv_has ls 1 [(0, .int x0)] := hl
  refine z_genQ (fun Q hQ => ?_)
  refine lv_iload_n hx hb dX9_isSpeed_0 rfl (lv_at hl 0 rfl) ?_
  refine lv_i2l hx hb dX9_isSpeed_1 rfl ?_
  refine lv_lconst (v := 0) hx hb dX9_isSpeed_2 (by decide) ?_
  refine lv_ldc2 hx hb hown (hts (.constantLong RX9 353 (400)) (List.mem_of_getElem? (i := 1) rfl)) dX9_isSpeed_3 ?_
  refine z_Ri (va_runS (As := [.long (x0.toInt64), .long (0 : Int64), .long (400 : Int64)]) (rest := []) ⟨hx, hb, hml, hown, hts⟩ (c_X9_isBetween l D cA  (x0.toInt64) (0 : Int64) (400 : Int64)) (va_cwS 3 hts gX9_isSpeed_X9_isBetween rfl rfl rfl (by decide +kernel) ⟨Nat.le_of_ble_eq_true rfl, Nat.le_of_ble_eq_true rfl⟩) (zpSR hK hP hN [] [0, 1, 2, 3, 4] rfl rfl) rfl rfl hl.1 rfl (lv_room (Nat.le_of_ble_eq_true rfl)) dX9_isSpeed_6 ⟨Nat.le_of_ble_eq_true rfl, Nat.le_of_ble_eq_true rfl⟩) ?_
  have e9 : (zf_isSpeed x0) = (zf_in (x0.toInt64) (0 : Int64) (400 : Int64)) := by rfl
  subst hQ
  exact W.zret (ty := .boolean) (v := (zf_in (x0.toInt64) (0 : Int64) (400 : Int64))) hx hb hr (zf_in_b _ _ _) (fun t ht hW => ⟨_, rfl, e9.symm, ht⟩) (fun q h => by cases h) dX9_isSpeed_9
set_option maxHeartbeats 4000000 in
set_option maxRecDepth 100000 in
theorem c_X9_isMinutes (l : Launch) (D : va_G) (cA : Nat → ClassId) (x0 : Int32)  : Met l yX9_isMinutes wsX9_isMinutes ({ frames := 1, cells := 0, slots := 0, locals := 25 }) (va_Pc [.int x0] (zPreR D (zty cA) ([]))) (vp_Si (fun x => x = (zf_isMinutes x0))) 0 0 (fun _ => False) := by
  refine Met.ofW (cc := cX9_isMinutes) (maxL := 1) (ret := (some .boolean)) (by decide) rfl ?_
  intro p e s m args below meth c s₁ B hml hv
  obtain ⟨rfl, hP, hK, hN⟩ := hv
  have hx := B.exec
  have hb := B.bytes
  have hr := B.returns
  have hts := atoms_spec (ws := wsX9_isMinutes) B.pre
  have hown : s.vm.findClass RX9 = some m.cls := findClass_of_methodNamed B.named
  have hlocks := B.notSynchronized
  have hP : va_P D vwCl [] s.heap := hP
  have hl := lv_entry ([.int x0]) (n := 1) (Nat.le_of_ble_eq_true rfl)
  rw [lg_entry_eq]
  generalize (lg_sl ([.int x0]) ++ List.replicate (1 - (lg_sl ([.int x0])).length) Slot.unset).toArray = ls at hl ⊢
  have hl : lv_has ls 1 [(0, .int x0)] := hl
  refine z_genQ (fun Q hQ => ?_)
  refine lv_iload_n hx hb dX9_isMinutes_0 rfl (lv_at hl 0 rfl) ?_
  refine lv_i2l hx hb dX9_isMinutes_1 rfl ?_
  refine lv_lconst (v := 1) hx hb dX9_isMinutes_2 (by decide) ?_
  refine lv_ldc2 hx hb hown (hts (.constantLong RX9 355 (600)) (List.mem_of_getElem? (i := 1) rfl)) dX9_isMinutes_3 ?_
  refine z_Ri (va_runS (As := [.long (x0.toInt64), .long (1 : Int64), .long (600 : Int64)]) (rest := []) ⟨hx, hb, hml, hown, hts⟩ (c_X9_isBetween l D cA  (x0.toInt64) (1 : Int64) (600 : Int64)) (va_cwS 3 hts gX9_isMinutes_X9_isBetween rfl rfl rfl (by decide +kernel) ⟨Nat.le_of_ble_eq_true rfl, Nat.le_of_ble_eq_true rfl⟩) (zpSR hK hP hN [] [0, 1, 2, 3, 4] rfl rfl) rfl rfl hl.1 rfl (lv_room (Nat.le_of_ble_eq_true rfl)) dX9_isMinutes_6 ⟨Nat.le_of_ble_eq_true rfl, Nat.le_of_ble_eq_true rfl⟩) ?_
  have e9 : (zf_isMinutes x0) = (zf_in (x0.toInt64) (1 : Int64) (600 : Int64)) := by rfl
  subst hQ
  exact W.zret (ty := .boolean) (v := (zf_in (x0.toInt64) (1 : Int64) (600 : Int64))) hx hb hr (zf_in_b _ _ _) (fun t ht hW => ⟨_, rfl, e9.symm, ht⟩) (fun q h => by cases h) dX9_isMinutes_9
set_option maxHeartbeats 4000000 in
set_option maxRecDepth 100000 in
theorem c_X9_isDegrees (l : Launch) (D : va_G) (cA : Nat → ClassId) (x0 : Int32)  : Met l yX9_isDegrees wsX9_isDegrees ({ frames := 1, cells := 0, slots := 0, locals := 25 }) (va_Pc [.int x0] (zPreR D (zty cA) ([]))) (vp_Si (fun x => x = (zf_isDegrees x0))) 0 0 (fun _ => False) := by
  refine Met.ofW (cc := cX9_isDegrees) (maxL := 1) (ret := (some .boolean)) (by decide) rfl ?_
  intro p e s m args below meth c s₁ B hml hv
  obtain ⟨rfl, hP, hK, hN⟩ := hv
  have hx := B.exec
  have hb := B.bytes
  have hr := B.returns
  have hts := atoms_spec (ws := wsX9_isDegrees) B.pre
  have hown : s.vm.findClass RX9 = some m.cls := findClass_of_methodNamed B.named
  have hlocks := B.notSynchronized
  have hP : va_P D vwCl [] s.heap := hP
  have hl := lv_entry ([.int x0]) (n := 1) (Nat.le_of_ble_eq_true rfl)
  rw [lg_entry_eq]
  generalize (lg_sl ([.int x0]) ++ List.replicate (1 - (lg_sl ([.int x0])).length) Slot.unset).toArray = ls at hl ⊢
  have hl : lv_has ls 1 [(0, .int x0)] := hl
  refine z_genQ (fun Q hQ => ?_)
  refine lv_iload_n hx hb dX9_isDegrees_0 rfl (lv_at hl 0 rfl) ?_
  refine lv_i2l hx hb dX9_isDegrees_1 rfl ?_
  refine lv_ldc2 hx hb hown (hts (.constantLong RX9 357 (-70)) (List.mem_of_getElem? (i := 1) rfl)) dX9_isDegrees_2 ?_
  refine lv_ldc2 hx hb hown (hts (.constantLong RX9 359 (70)) (List.mem_of_getElem? (i := 2) rfl)) dX9_isDegrees_5 ?_
  refine z_Ri (va_runS (As := [.long (x0.toInt64), .long (-70 : Int64), .long (70 : Int64)]) (rest := []) ⟨hx, hb, hml, hown, hts⟩ (c_X9_isBetween l D cA  (x0.toInt64) (-70 : Int64) (70 : Int64)) (va_cwS 3 hts gX9_isDegrees_X9_isBetween rfl rfl rfl (by decide +kernel) ⟨Nat.le_of_ble_eq_true rfl, Nat.le_of_ble_eq_true rfl⟩) (zpSR hK hP hN [] [0, 1, 2, 3, 4] rfl rfl) rfl rfl hl.1 rfl (lv_room (Nat.le_of_ble_eq_true rfl)) dX9_isDegrees_8 ⟨Nat.le_of_ble_eq_true rfl, Nat.le_of_ble_eq_true rfl⟩) ?_
  have e9 : (zf_isDegrees x0) = (zf_in (x0.toInt64) (-70 : Int64) (70 : Int64)) := by rfl
  subst hQ
  exact W.zret (ty := .boolean) (v := (zf_in (x0.toInt64) (-70 : Int64) (70 : Int64))) hx hb hr (zf_in_b _ _ _) (fun t ht hW => ⟨_, rfl, e9.symm, ht⟩) (fun q h => by cases h) dX9_isDegrees_11
set_option maxHeartbeats 4000000 in
set_option maxRecDepth 100000 in
theorem c_X9_limited (l : Launch) (D : va_G) (cA : Nat → ClassId) (x0 : Int64) (x1 : Int64)  : Met l yX9_limited wsX9_limited ({ frames := 1, cells := 0, slots := 0, locals := 19 }) (va_Pc [.long x0, .long x1] (zPreR D (zty cA) ([]))) (vp_Sl (fun x => x = (zf_limited x0 x1))) 0 0 (fun _ => False) := by
  refine Met.ofW (cc := cX9_limited) (maxL := 4) (ret := (some .long)) (by decide) rfl ?_
  intro p e s m args below meth c s₁ B hml hv
  obtain ⟨rfl, hP, hK, hN⟩ := hv
  have hx := B.exec
  have hb := B.bytes
  have hr := B.returns
  have hts := atoms_spec (ws := wsX9_limited) B.pre
  have hown : s.vm.findClass RX9 = some m.cls := findClass_of_methodNamed B.named
  have hlocks := B.notSynchronized
  have hP : va_P D vwCl [] s.heap := hP
  have hl := lv_entry ([.long x0, .long x1]) (n := 4) (Nat.le_of_ble_eq_true rfl)
  rw [lg_entry_eq]
  generalize (lg_sl ([.long x0, .long x1]) ++ List.replicate (4 - (lg_sl ([.long x0, .long x1])).length) Slot.unset).toArray = ls at hl ⊢
  have hl : lv_has ls 4 [(0, .long x0), (2, .long x1)] := hl
  refine z_genQ (fun Q hQ => ?_)
  refine lv_lload_n hx hb dX9_limited_0 rfl (lv_at hl 1 rfl) ?_
  refine lv_lneg hx hb dX9_limited_1 ?_
  refine lv_lload_n hx hb dX9_limited_2 rfl (lv_at hl 1 rfl) ?_
  refine lv_lload_n hx hb dX9_limited_3 rfl (lv_at hl 0 rfl) ?_
  refine va_mmin_long hx hb (hml.trans hl.1.symm) hown (hts (.methodLink RX9 361 Lib.MathLoose.min_long.x) (List.mem_of_getElem? (i := 1) rfl)) (hts (.static Lib.MathLoose.min_long.x) (List.mem_of_getElem? (i := 2) rfl)) (hts (.initialized "java/lang/Math") (List.mem_of_getElem? (i := 3) rfl)) (hts (.code Lib.MathLoose.min_long.x Lib.MathLoose.min_long.code 4 (some .long)) (List.mem_of_getElem? (i := 4) rfl)) (Nat.le_of_ble_eq_true rfl) (Nat.le_of_ble_eq_true rfl) (Nat.le_of_ble_eq_true rfl) (Nat.le_of_ble_eq_true rfl) dX9_limited_4 ?_
  refine va_mmax_long hx hb (hml.trans hl.1.symm) hown (hts (.methodLink RX9 364 Lib.MathLoose.max_long.x) (List.mem_of_getElem? (i := 5) rfl)) (hts (.static Lib.MathLoose.max_long.x) (List.mem_of_getElem? (i := 6) rfl)) (hts (.initialized "java/lang/Math") (List.mem_of_getElem? (i := 3) rfl)) (hts (.code Lib.MathLoose.max_long.x Lib.MathLoose.max_long.code 4 (some .long)) (List.mem_of_getElem? (i := 7) rfl)) (Nat.le_of_ble_eq_true rfl) (Nat.le_of_ble_eq_true rfl) (Nat.le_of_ble_eq_true rfl) (Nat.le_of_ble_eq_true rfl) dX9_limited_7 ?_
  have e9 : (zf_limited x0 x1) = (if (if x0 < x1 then x0 else x1) < (-x1) then (-x1) else (if x0 < x1 then x0 else x1)) := by rfl
  subst hQ
  exact W.lret (v := (if (if x0 < x1 then x0 else x1) < (-x1) then (-x1) else (if x0 < x1 then x0 else x1))) hx hb hr (fun t ht hW => ⟨_, rfl, e9.symm, ht⟩) (fun q h => by cases h) dX9_limited_10
set_option maxHeartbeats 4000000 in
set_option maxRecDepth 100000 in
theorem c_X9_at (l : Launch) (D : va_G) (cA : Nat → ClassId) (h0 : Nat) (n : Nat) (f : (Nat → Int64)) (x0 : Int32) (hn : n < 2 ^ 31) : Met l yX9_at wsX9_at ({ frames := 0, cells := 0, slots := 0, locals := 0 }) (va_Pc [.ref h0, .int x0] (zPreR D (zty cA) ([(h0, .inl ((cA 0), n, .inr (.inl f)))]))) (vp_Sl (fun x => x = (zf_at n f x0))) 0 0 (fun _ => False) := by
  refine Met.ofW (cc := cX9_at) (maxL := 2) (ret := (some .long)) (by decide) rfl ?_
  intro p e s m args below meth c s₁ B hml hv
  obtain ⟨rfl, hP, hK, hN⟩ := hv
  have hx := B.exec
  have hb := B.bytes
  have hr := B.returns
  have hts := atoms_spec (ws := wsX9_at) B.pre
  have hown : s.vm.findClass RX9 = some m.cls := findClass_of_methodNamed B.named
  have hlocks := B.notSynchronized
  have hP : va_P D vwCl [(h0, .inl ((cA 0), n, .inr (.inl f)))] s.heap := hP
  have hl := lv_entry ([.ref h0, .int x0]) (n := 2) (Nat.le_of_ble_eq_true rfl)
  rw [lg_entry_eq]
  generalize (lg_sl ([.ref h0, .int x0]) ++ List.replicate (2 - (lg_sl ([.ref h0, .int x0])).length) Slot.unset).toArray = ls at hl ⊢
  have hl : lv_has ls 2 [(0, .ref h0), (1, .int x0)] := hl
  refine z_genQ (fun Q hQ => ?_)
  refine lv_iload_n hx hb dX9_at_0 rfl (lv_at hl 1 rfl) ?_
  refine lv_if_lt (tgt := 16) hx hb dX9_at_1 (by decide) (fun c_1 => ?_) (fun c_1 => ?_)
  · skip
    refine lv_lconst (v := 0) hx hb dX9_at_16 (by decide) ?_
    have e9 : (zf_at n f x0) = (0 : Int64) := by unfold zf_at; simp only [if_pos c_1] <;> rfl
    subst hQ
    exact W.lret (v := (0 : Int64)) hx hb hr (fun t ht hW => ⟨_, rfl, e9.symm, ht⟩) (fun q h => by cases h) dX9_at_17
  · skip
    refine lv_iload_n hx hb dX9_at_4 rfl (lv_at hl 1 rfl) ?_
    refine lv_aload_n hx hb dX9_at_5 rfl (lv_at hl 0 rfl) ?_
    refine va_alen (v := (nI n)) hx hb hK hP 0 0 rfl rfl rfl dX9_at_6 ?_
    refine lv_icmp_ge (tgt := 16) hx hb dX9_at_7 (by decide) (fun c_2 => ?_) (fun c_2 => ?_)
    · skip
      refine lv_lconst (v := 0) hx hb dX9_at_16 (by decide) ?_
      have e9 : (zf_at n f x0) = (0 : Int64) := by unfold zf_at; simp only [if_neg c_1, if_pos c_2] <;> rfl
      subst hQ
      exact W.lret (v := (0 : Int64)) hx hb hr (fun t ht hW => ⟨_, rfl, e9.symm, ht⟩) (fun q h => by cases h) dX9_at_17
    · skip
      obtain ⟨k, hk, ek⟩ := z_ixof c_1 c_2 hn
      refine lv_aload_n hx hb dX9_at_10 rfl (lv_at hl 0 rfl) ?_
      refine lv_iload_n hx hb dX9_at_11 rfl (lv_at hl 1 rfl) ?_
      refine z_lald (k := k) hx hb hK hP 0 0 rfl rfl ek hk hn dX9_at_12 ?_
      refine lv_goto (tgt := 17) hx hb dX9_at_13 (by decide) ?_
      have e9 : (zf_at n f x0) = (f k) := by unfold zf_at; simp only [if_neg c_1, if_neg c_2]; rw [ek, nI_clamp (by omega)]
      subst hQ
      exact W.lret (v := (f k)) hx hb hr (fun t ht hW => ⟨_, rfl, e9.symm, ht⟩) (fun q h => by cases h) dX9_at_17
set_option maxHeartbeats 4000000 in
set_option maxRecDepth 100000 in
theorem c_X9_write (l : Launch) (D : va_G) (cA : Nat → ClassId) (h0 : Nat) (sz : Nat) (n : Nat) (f : (Nat → Int64)) (x0 : Int32) (y0 : Int64) (hn : n < 2 ^ 31) : Met l yX9_write wsX9_write ({ frames := 0, cells := 0, slots := 0, locals := 0 }) (va_Pc [.ref h0, .int x0, .long y0] (zPre D (zty cA) ([(h0, .inl ((cA 0), n, .inr (.inl f)))]) sz)) (va_Qv (fun (u : (Nat → Int64)) => u = (zf_write n f x0 y0)) (fun u => zPost D (zty cA) (va_A ([(h0, .inl ((cA 0), n, .inr (.inl f)))]) sz) ([(h0, .inl ((cA 0), n, .inr (.inl u)))])) (va_A ([(h0, .inl ((cA 0), n, .inr (.inl f)))]) sz)) 0 0 (va_A ([(h0, .inl ((cA 0), n, .inr (.inl f)))]) sz) := by
  refine Met.ofW (cc := cX9_write) (maxL := 4) (ret := none) (by decide) rfl ?_
  intro p e s m args below meth c s₁ B hml hv
  obtain ⟨rfl, hsz, hP, hK, hD0, hE⟩ := hv
  have hx := B.exec
  have hb := B.bytes
  have hr := B.returns
  have hts := atoms_spec (ws := wsX9_write) B.pre
  have hown : s.vm.findClass RX9 = some m.cls := findClass_of_methodNamed B.named
  have hlocks := B.notSynchronized
  subst hsz
  have hD := hD0.self (sz := s.heap.size)
  generalize hAe : va_A ([(h0, .inl ((cA 0), n, .inr (.inl f)))]) s.heap.size = A at hD hE ⊢
  have hA : ∀ q : Nat, s.heap.size ≤ q → A q := fun q h => by rw [← hAe]; exact Or.inr h
  have hS : va_S A s.heap s.heap [] := va_S.rf
  have hN : zN s := hE.1
  have hP : va_P D vwCl [(h0, .inl ((cA 0), n, .inr (.inl f)))] s.heap := hP
  have hD : va_D A [(h0, .inl ((cA 0), n, .inr (.inl f)))] := hD
  have hl := lv_entry ([.ref h0, .int x0, .long y0]) (n := 4) (Nat.le_of_ble_eq_true rfl)
  rw [lg_entry_eq]
  generalize (lg_sl ([.ref h0, .int x0, .long y0]) ++ List.replicate (4 - (lg_sl ([.ref h0, .int x0, .long y0])).length) Slot.unset).toArray = ls at hl ⊢
  have hl : lv_has ls 4 [(0, .ref h0), (1, .int x0), (2, .long y0)] := hl
  refine z_genQ (fun Q hQ => ?_)
  refine lv_iload_n hx hb dX9_write_0 rfl (lv_at hl 1 rfl) ?_
  refine lv_if_lt (tgt := 14) hx hb dX9_write_1 (by decide) (fun c_1 => ?_) (fun c_1 => ?_)
  · skip
    have e9 : (zf_write n f x0 y0) = f := by unfold zf_write; simp only [if_pos c_1] <;> rfl
    have hP9 : va_P D vwCl ([(h0, .inl ((cA 0), n, .inr (.inl (f : (Nat → Int64)))))]) s.heap := hP
    have hD9 : va_D A ([(h0, .inl ((cA 0), n, .inr (.inl (f : (Nat → Int64)))))]) := hD
    subst hQ
    exact W.vret hx hb hr (fun t ht hW => ⟨⟨f, rfl, e9.symm, ⟨by rw [ht]; exact hP9, va_K.moved hW.alike hK, hD9⟩⟩, hS.F ht⟩) hS.2.2 dX9_write_14
  · skip
    refine lv_iload_n hx hb dX9_write_4 rfl (lv_at hl 1 rfl) ?_
    refine lv_aload_n hx hb dX9_write_5 rfl (lv_at hl 0 rfl) ?_
    refine va_alen (v := (nI n)) hx hb hK hP 0 0 rfl rfl rfl dX9_write_6 ?_
    refine lv_icmp_ge (tgt := 14) hx hb dX9_write_7 (by decide) (fun c_2 => ?_) (fun c_2 => ?_)
    · skip
      have e9 : (zf_write n f x0 y0) = f := by unfold zf_write; simp only [if_neg c_1, if_pos c_2] <;> rfl
      have hP9 : va_P D vwCl ([(h0, .inl ((cA 0), n, .inr (.inl (f : (Nat → Int64)))))]) s.heap := hP
      have hD9 : va_D A ([(h0, .inl ((cA 0), n, .inr (.inl (f : (Nat → Int64)))))]) := hD
      subst hQ
      exact W.vret hx hb hr (fun t ht hW => ⟨⟨f, rfl, e9.symm, ⟨by rw [ht]; exact hP9, va_K.moved hW.alike hK, hD9⟩⟩, hS.F ht⟩) hS.2.2 dX9_write_14
    · skip
      obtain ⟨k, hk, ek⟩ := z_ixof c_1 c_2 hn
      refine lv_aload_n hx hb dX9_write_10 rfl (lv_at hl 0 rfl) ?_
      refine lv_iload_n hx hb dX9_write_11 rfl (lv_at hl 1 rfl) ?_
      refine lv_lload_n hx hb dX9_write_12 rfl (lv_at hl 2 rfl) ?_
      refine z_last (k := k) hx hb hK hP hD hS 0 0 rfl rfl ek hk hn dX9_write_13 (fun g_3 eg_3 H locs hP hD hS => ?_)
      have hP : va_P D vwCl [(h0, .inl ((cA 0), n, .inr (.inl g_3)))] H := hP
      have hD : va_D A [(h0, .inl ((cA 0), n, .inr (.inl g_3)))] := hD
      have e9 : (zf_write n f x0 y0) = g_3 := by subst eg_3; unfold zf_write; simp only [if_neg c_1, if_neg c_2]; rw [ek, nI_clamp (by omega)]
      have hP9 : va_P D vwCl ([(h0, .inl ((cA 0), n, .inr (.inl (g_3 : (Nat → Int64)))))]) H := hP
      have hD9 : va_D A ([(h0, .inl ((cA 0), n, .inr (.inl (g_3 : (Nat → Int64)))))]) := hD
      subst hQ
      exact W.vret hx hb hr (fun t ht hW => ⟨⟨g_3, rfl, e9.symm, ⟨by rw [ht]; exact hP9, va_K.moved hW.alike hK, hD9⟩⟩, hS.F ht⟩) hS.2.2 dX9_write_14
set_option maxHeartbeats 4000000 in
set_option maxRecDepth 100000 in
theorem c_X9_copy (l : Launch) (D : va_G) (cA : Nat → ClassId) (h0 h1 : Nat) (sz : Nat) (n : Nat) (f : (Nat → Int64)) (g : (Nat → Int64)) (hn : n < 2 ^ 31) : Met l yX9_copy wsX9_copy ({ frames := 0, cells := 0, slots := 0, locals := 0 }) (va_Pc [.ref h0, .ref h1] (zPre D (zty cA) ([(h0, .inl ((cA 0), n, .inr (.inl f)))] ++ [(h1, .inl ((cA 0), n, .inr (.inl g)))]) sz)) (va_Qv (fun (u : (Nat → Int64)) => u = f) (fun u => zPost D (zty cA) (va_A ([(h0, .inl ((cA 0), n, .inr (.inl f)))] ++ [(h1, .inl ((cA 0), n, .inr (.inl g)))]) sz) ([(h0, .inl ((cA 0), n, .inr (.inl f)))] ++ [(h1, .inl ((cA 0), n, .inr (.inl u)))])) (va_A ([(h0, .inl ((cA 0), n, .inr (.inl f)))] ++ [(h1, .inl ((cA 0), n, .inr (.inl g)))]) sz)) 0 0 (va_A ([(h0, .inl ((cA 0), n, .inr (.inl f)))] ++ [(h1, .inl ((cA 0), n, .inr (.inl g)))]) sz) := by
  refine Met.ofW (cc := cX9_copy) (maxL := 3) (ret := none) (by decide) rfl ?_
  intro p e s m args below meth c s₁ B hml hv
  obtain ⟨rfl, hsz, hP, hK, hD0, hE⟩ := hv
  have hx := B.exec
  have hb := B.bytes
  have hr := B.returns
  have hts := atoms_spec (ws := wsX9_copy) B.pre
  have hown : s.vm.findClass RX9 = some m.cls := findClass_of_methodNamed B.named
  have hlocks := B.notSynchronized
  subst hsz
  have hD := hD0.self (sz := s.heap.size)
  generalize hAe : va_A ([(h0, .inl ((cA 0), n, .inr (.inl f)))] ++ [(h1, .inl ((cA 0), n, .inr (.inl g)))]) s.heap.size = A at hD hE ⊢
  have hA : ∀ q : Nat, s.heap.size ≤ q → A q := fun q h => by rw [← hAe]; exact Or.inr h
  have hS : va_S A s.heap s.heap [] := va_S.rf
  have hN : zN s := hE.1
  have hP : va_P D vwCl [(h0, .inl ((cA 0), n, .inr (.inl f))), (h1, .inl ((cA 0), n, .inr (.inl g)))] s.heap := hP
  have hD : va_D A [(h0, .inl ((cA 0), n, .inr (.inl f))), (h1, .inl ((cA 0), n, .inr (.inl g)))] := hD
  have hl := lv_entry ([.ref h0, .ref h1]) (n := 3) (Nat.le_of_ble_eq_true rfl)
  rw [lg_entry_eq]
  generalize (lg_sl ([.ref h0, .ref h1]) ++ List.replicate (3 - (lg_sl ([.ref h0, .ref h1])).length) Slot.unset).toArray = ls at hl ⊢
  have hl : lv_has ls 3 [(0, .ref h0), (1, .ref h1)] := hl
  refine z_genQ (fun Q hQ => ?_)
  refine lv_iconst (v := 0) hx hb dX9_copy_0 (by decide) ?_
  refine lv_istore_n (lv' := [(2, .int (0 : Int32)), (0, .ref h0), (1, .ref h1)]) hx hb dX9_copy_1 rfl hl (by decide) rfl (fun ls hl => ?_)
  have L2 : ∀ (zn : Nat) (k : Nat), n - k < zn → (k ≤ n) → ∀ (H : Heap) (locs : List Loc), va_P D vwCl [(h0, .inl ((cA 0), n, .inr (.inl f))), (h1, .inl ((cA 0), n, .inr (.inl (zcp k f g))))] H → va_D A [(h0, .inl ((cA 0), n, .inr (.inl f))), (h1, .inl ((cA 0), n, .inr (.inl (zcp k f g))))] → va_S A s.heap H locs → ∀ (ls : Array Slot), lv_has ls 3 [(2, .int (nI k)), (0, .ref h0), (1, .ref h1)] → W p l e (headSpec wsX9_copy ({ frames := 0, cells := 0, slots := 0, locals := 0 })).room s m (([.ref h0, .ref h1] : List Value).toArray) below meth c H locs 0 0 Q (F0 m 2 ls []) := by
    intro zn
    induction zn with
    | zero =>
      intro k hm
      exact absurd hm (Nat.not_lt_zero _)
    | succ zn ih =>
      intro k hm hk H locs hP hD hS ls hl
      refine lv_iload_n hx hb dX9_copy_2 rfl (lv_at hl 0 rfl) ?_
      refine lv_aload_n hx hb dX9_copy_3 rfl (lv_at hl 1 rfl) ?_
      refine va_alen (v := (nI n)) hx hb hK hP 0 0 rfl rfl rfl dX9_copy_4 ?_
      refine lv_icmp_ge (tgt := 26) hx hb dX9_copy_5 (by decide) (fun c_1 => ?_) (fun c_1 => ?_)
      · skip
        have ekn : k = n := Nat.le_antisymm hk ((nI_leI hn (by omega)).mp c_1)
        have hP := z_reL (g := f) hP (k := 1) rfl (fun j hj => by show zcp k f g j = f j; unfold zcp; rw [if_pos (by omega)])
        have hD := hD.set (p := 1) (e := .inl (cA 0, n, .inr (.inl f))) rfl
        have hP : va_P D vwCl [(h0, .inl ((cA 0), n, .inr (.inl f))), (h1, .inl ((cA 0), n, .inr (.inl f)))] H := hP
        have hD : va_D A [(h0, .inl ((cA 0), n, .inr (.inl f))), (h1, .inl ((cA 0), n, .inr (.inl f)))] := hD
        have e9 : f = f := rfl
        have hP9 : va_P D vwCl ([(h0, .inl ((cA 0), n, .inr (.inl f)))] ++ [(h1, .inl ((cA 0), n, .inr (.inl (f : (Nat → Int64)))))]) H := hP
        have hD9 : va_D A ([(h0, .inl ((cA 0), n, .inr (.inl f)))] ++ [(h1, .inl ((cA 0), n, .inr (.inl (f : (Nat → Int64)))))]) := hD
        subst hQ
        exact W.vret hx hb hr (fun t ht hW => ⟨⟨f, rfl, e9.symm, ⟨by rw [ht]; exact hP9, va_K.moved hW.alike hK, hD9⟩⟩, hS.F ht⟩) hS.2.2 dX9_copy_26
      · skip
        have hkn : k < n := Nat.lt_of_not_le (fun h => c_1 (nI_le h (by omega)))
        refine lv_iload_n hx hb dX9_copy_8 rfl (lv_at hl 0 rfl) ?_
        refine lv_aload_n hx hb dX9_copy_9 rfl (lv_at hl 2 rfl) ?_
        refine va_alen (v := (nI n)) hx hb hK hP 1 0 rfl rfl rfl dX9_copy_10 ?_
        refine lv_icmp_ge (tgt := 26) hx hb dX9_copy_11 (by decide) (fun c_2 => ?_) (fun c_2 => ?_)
        · skip
          exact absurd c_2 c_1
        · skip
          refine lv_aload_n hx hb dX9_copy_14 rfl (lv_at hl 2 rfl) ?_
          refine lv_iload_n hx hb dX9_copy_15 rfl (lv_at hl 0 rfl) ?_
          refine lv_aload_n hx hb dX9_copy_16 rfl (lv_at hl 1 rfl) ?_
          refine lv_iload_n hx hb dX9_copy_17 rfl (lv_at hl 0 rfl) ?_
          refine z_lald (k := k) hx hb hK hP 0 0 rfl rfl rfl hkn hn dX9_copy_18 ?_
          refine z_last (k := k) hx hb hK hP hD hS 1 0 rfl rfl rfl hkn hn dX9_copy_19 (fun g_3 eg_3 H locs hP hD hS => ?_)
          have hP : va_P D vwCl [(h0, .inl ((cA 0), n, .inr (.inl f))), (h1, .inl ((cA 0), n, .inr (.inl g_3)))] H := hP
          have hD : va_D A [(h0, .inl ((cA 0), n, .inr (.inl f))), (h1, .inl ((cA 0), n, .inr (.inl g_3)))] := hD
          refine lv_iinc (v := (nI (k + 1))) (lv' := [(2, .int (nI (k + 1))), (0, .ref h0), (1, .ref h1)]) hx hb dX9_copy_20 hl (k := 0) rfl (nI_1 k) (by decide) rfl (fun ls hl => ?_)
          refine lv_goto (tgt := 2) hx hb dX9_copy_23 (by decide) ?_
          exact ih (k + 1) (by omega) (by omega) _ _ (by rw [← zcp_s, ← eg_3]; exact hP) (by rw [← zcp_s, ← eg_3]; exact hD) hS ls (lv_sub hl [0, 1, 2] rfl)
  exact L2 (n + 1) (0) (by omega) (Nat.zero_le _) _ _ (by rw [zcp_0]; exact hP) (by rw [zcp_0]; exact hD) hS ls (lv_sub hl [0, 1, 2] rfl)
set_option maxHeartbeats 4000000 in
set_option maxRecDepth 100000 in
theorem c_X9_quotient (l : Launch) (D : va_G) (cA : Nat → ClassId) (x0 : Int64) (x1 : Int64)  : Met l yX9_quotient wsX9_quotient ({ frames := 0, cells := 0, slots := 0, locals := 0 }) (va_Pc [.long x0, .long x1] (zPreR D (zty cA) ([]))) (vp_Sl (fun x => x = (zf_quot x0 x1))) 0 0 (fun _ => False) := by
  refine Met.ofW (cc := cX9_quotient) (maxL := 4) (ret := (some .long)) (by decide) rfl ?_
  intro p e s m args below meth c s₁ B hml hv
  obtain ⟨rfl, hP, hK, hN⟩ := hv
  have hx := B.exec
  have hb := B.bytes
  have hr := B.returns
  have hts := atoms_spec (ws := wsX9_quotient) B.pre
  have hown : s.vm.findClass RX9 = some m.cls := findClass_of_methodNamed B.named
  have hlocks := B.notSynchronized
  have hP : va_P D vwCl [] s.heap := hP
  have hl := lv_entry ([.long x0, .long x1]) (n := 4) (Nat.le_of_ble_eq_true rfl)
  rw [lg_entry_eq]
  generalize (lg_sl ([.long x0, .long x1]) ++ List.replicate (4 - (lg_sl ([.long x0, .long x1])).length) Slot.unset).toArray = ls at hl ⊢
  have hl : lv_has ls 4 [(0, .long x0), (2, .long x1)] := hl
  refine z_genQ (fun Q hQ => ?_)
  refine lv_lload_n hx hb dX9_quotient_0 rfl (lv_at hl 1 rfl) ?_
  refine lv_lconst (v := 0) hx hb dX9_quotient_1 (by decide) ?_
  refine W.lcmp hx hb dX9_quotient_2 ?_
  refine lv_if_ne (tgt := 10) hx hb dX9_quotient_3 (by decide) (fun kc_1 => ?_) (fun kc_1 => ?_)
  · skip
    have c_1 : ¬ (x1 = (0 : Int64)) := fun h => kc_1 ((lg_cmp_eq _ _).mpr h)
    refine lv_lload_n hx hb dX9_quotient_10 rfl (lv_at hl 0 rfl) ?_
    refine lv_lload_n hx hb dX9_quotient_11 rfl (lv_at hl 1 rfl) ?_
    refine lv_ldiv hx hb dX9_quotient_12 c_1 ?_
    have e9 : (zf_quot x0 x1) = (x0 / x1) := by unfold zf_quot; simp only [if_neg c_1] <;> rfl
    subst hQ
    exact W.lret (v := (x0 / x1)) hx hb hr (fun t ht hW => ⟨_, rfl, e9.symm, ht⟩) (fun q h => by cases h) dX9_quotient_13
  · skip
    have c_1 : x1 = (0 : Int64) := (lg_cmp_eq _ _).mp kc_1
    refine lv_lconst (v := 0) hx hb dX9_quotient_6 (by decide) ?_
    refine lv_goto (tgt := 13) hx hb dX9_quotient_7 (by decide) ?_
    have e9 : (zf_quot x0 x1) = (0 : Int64) := by unfold zf_quot; simp only [if_pos c_1] <;> rfl
    subst hQ
    exact W.lret (v := (0 : Int64)) hx hb hr (fun t ht hW => ⟨_, rfl, e9.symm, ht⟩) (fun q h => by cases h) dX9_quotient_13
set_option maxHeartbeats 4000000 in
set_option maxRecDepth 100000 in
theorem c_X9_sine (l : Launch) (D : va_G) (cA : Nat → ClassId) (x0 : Int64)  : Met l yX9_sine wsX9_sine ({ frames := 0, cells := 0, slots := 0, locals := 0 }) (va_Pc [.long x0] (zPreR D (zty cA) ([]))) (vp_Sl (fun x => x = (zf_sine x0))) 0 0 (fun _ => False) := by
  refine Met.ofW (cc := cX9_sine) (maxL := 10) (ret := (some .long)) (by decide) rfl ?_
  intro p e s m args below meth c s₁ B hml hv
  obtain ⟨rfl, hP, hK, hN⟩ := hv
  have hx := B.exec
  have hb := B.bytes
  have hr := B.returns
  have hts := atoms_spec (ws := wsX9_sine) B.pre
  have hown : s.vm.findClass RX9 = some m.cls := findClass_of_methodNamed B.named
  have hlocks := B.notSynchronized
  have hP : va_P D vwCl [] s.heap := hP
  have hl := lv_entry ([.long x0]) (n := 10) (Nat.le_of_ble_eq_true rfl)
  rw [lg_entry_eq]
  generalize (lg_sl ([.long x0]) ++ List.replicate (10 - (lg_sl ([.long x0])).length) Slot.unset).toArray = ls at hl ⊢
  have hl : lv_has ls 10 [(0, .long x0)] := hl
  refine z_genQ (fun Q hQ => ?_)
  refine lv_lload_n hx hb dX9_sine_0 rfl (lv_at hl 0 rfl) ?_
  refine lv_ldc2 hx hb hown (hts (.constantLong RX9 367 (18000)) (List.mem_of_getElem? (i := 1) rfl)) dX9_sine_1 ?_
  refine W.lcmp hx hb dX9_sine_4 ?_
  refine lv_if_le (tgt := 16) hx hb dX9_sine_5 (by decide) (fun kc_1 => ?_) (fun kc_1 => ?_)
  · skip
    have c_1 : x0 ≤ (18000 : Int64) := (lg_cmp_le _ _).mp kc_1
    refine lv_lload_n hx hb dX9_sine_16 rfl (lv_at hl 0 rfl) ?_
    refine lv_lstore_n (lv' := [(2, .long x0), (0, .long x0)]) hx hb dX9_sine_17 rfl hl (by decide) rfl (fun ls hl => ?_)
    refine lv_lload_n hx hb dX9_sine_18 rfl (lv_at hl 0 rfl) ?_
    refine lv_ldc2 hx hb hown (hts (.constantLong RX9 367 (18000)) (List.mem_of_getElem? (i := 1) rfl)) dX9_sine_19 ?_
    refine lv_lload_n hx hb dX9_sine_22 rfl (lv_at hl 0 rfl) ?_
    refine lv_lsub hx hb dX9_sine_23 ?_
    refine lv_lmul hx hb dX9_sine_24 ?_
    refine lv_lstore (lv' := [(4, .long (x0 * ((18000 : Int64) - x0))), (2, .long x0), (0, .long x0)]) hx hb dX9_sine_25 hl (by decide) rfl (fun ls hl => ?_)
    refine lv_ldc2 hx hb hown (hts (.constantLong RX9 369 (405000000)) (List.mem_of_getElem? (i := 2) rfl)) dX9_sine_27 ?_
    refine lv_lload hx hb dX9_sine_30 (lv_at hl 0 rfl) ?_
    refine lv_lsub hx hb dX9_sine_32 ?_
    refine lv_lstore (lv' := [(6, .long ((405000000 : Int64) - (x0 * ((18000 : Int64) - x0)))), (4, .long (x0 * ((18000 : Int64) - x0))), (2, .long x0), (0, .long x0)]) hx hb dX9_sine_33 hl (by decide) rfl (fun ls hl => ?_)
    refine lv_lload hx hb dX9_sine_35 (lv_at hl 0 rfl) ?_
    refine lv_lconst (v := 0) hx hb dX9_sine_37 (by decide) ?_
    refine W.lcmp hx hb dX9_sine_38 ?_
    refine lv_if_ne (tgt := 44) hx hb dX9_sine_39 (by decide) (fun kc_2 => ?_) (fun kc_2 => ?_)
    · skip
      have c_2 : ¬ (((405000000 : Int64) - (x0 * ((18000 : Int64) - x0))) = (0 : Int64)) := fun h => kc_2 ((lg_cmp_eq _ _).mpr h)
      refine lv_ldc2 hx hb hown (hts (.constantLong RX9 371 (4000000)) (List.mem_of_getElem? (i := 3) rfl)) dX9_sine_44 ?_
      refine lv_lload hx hb dX9_sine_47 (lv_at hl 1 rfl) ?_
      refine lv_lmul hx hb dX9_sine_49 ?_
      refine lv_lload hx hb dX9_sine_50 (lv_at hl 0 rfl) ?_
      refine lv_ldiv hx hb dX9_sine_52 c_2 ?_
      refine lv_lstore (lv' := [(8, .long (((4000000 : Int64) * (x0 * ((18000 : Int64) - x0))) / ((405000000 : Int64) - (x0 * ((18000 : Int64) - x0))))), (6, .long ((405000000 : Int64) - (x0 * ((18000 : Int64) - x0)))), (4, .long (x0 * ((18000 : Int64) - x0))), (2, .long x0), (0, .long x0)]) hx hb dX9_sine_53 hl (by decide) rfl (fun ls hl => ?_)
      refine lv_lload_n hx hb dX9_sine_55 rfl (lv_at hl 4 rfl) ?_
      refine lv_ldc2 hx hb hown (hts (.constantLong RX9 367 (18000)) (List.mem_of_getElem? (i := 1) rfl)) dX9_sine_56 ?_
      refine W.lcmp hx hb dX9_sine_59 ?_
      refine lv_if_le (tgt := 69) hx hb dX9_sine_60 (by decide) (fun kc_3 => ?_) (fun kc_3 => ?_)
      · skip
        have c_3 : x0 ≤ (18000 : Int64) := (lg_cmp_le _ _).mp kc_3
        refine lv_lload hx hb dX9_sine_69 (lv_at hl 0 rfl) ?_
        have e9 : (zf_sine x0) = (((4000000 : Int64) * (x0 * ((18000 : Int64) - x0))) / ((405000000 : Int64) - (x0 * ((18000 : Int64) - x0)))) := by unfold zf_sine; simp only [if_pos c_1, if_neg c_2, if_pos c_3] <;> rfl
        subst hQ
        exact W.lret (v := (((4000000 : Int64) * (x0 * ((18000 : Int64) - x0))) / ((405000000 : Int64) - (x0 * ((18000 : Int64) - x0))))) hx hb hr (fun t ht hW => ⟨_, rfl, e9.symm, ht⟩) (fun q h => by cases h) dX9_sine_71
      · skip
        have c_3 : ¬ (x0 ≤ (18000 : Int64)) := fun h => kc_3 ((lg_cmp_le _ _).mpr h)
        exact absurd c_1 c_3
    · skip
      have c_2 : ((405000000 : Int64) - (x0 * ((18000 : Int64) - x0))) = (0 : Int64) := (lg_cmp_eq _ _).mp kc_2
      refine lv_lconst (v := 0) hx hb dX9_sine_42 (by decide) ?_
      have e9 : (zf_sine x0) = (0 : Int64) := by unfold zf_sine; simp only [if_pos c_1, if_pos c_2] <;> rfl
      subst hQ
      exact W.lret (v := (0 : Int64)) hx hb hr (fun t ht hW => ⟨_, rfl, e9.symm, ht⟩) (fun q h => by cases h) dX9_sine_43
  · skip
    have c_1 : ¬ (x0 ≤ (18000 : Int64)) := fun h => kc_1 ((lg_cmp_le _ _).mpr h)
    refine lv_lload_n hx hb dX9_sine_8 rfl (lv_at hl 0 rfl) ?_
    refine lv_ldc2 hx hb hown (hts (.constantLong RX9 367 (18000)) (List.mem_of_getElem? (i := 1) rfl)) dX9_sine_9 ?_
    refine lv_lsub hx hb dX9_sine_12 ?_
    refine lv_goto (tgt := 17) hx hb dX9_sine_13 (by decide) ?_
    refine lv_lstore_n (lv' := [(2, .long (x0 - (18000 : Int64))), (0, .long x0)]) hx hb dX9_sine_17 rfl hl (by decide) rfl (fun ls hl => ?_)
    refine lv_lload_n hx hb dX9_sine_18 rfl (lv_at hl 0 rfl) ?_
    refine lv_ldc2 hx hb hown (hts (.constantLong RX9 367 (18000)) (List.mem_of_getElem? (i := 1) rfl)) dX9_sine_19 ?_
    refine lv_lload_n hx hb dX9_sine_22 rfl (lv_at hl 0 rfl) ?_
    refine lv_lsub hx hb dX9_sine_23 ?_
    refine lv_lmul hx hb dX9_sine_24 ?_
    refine lv_lstore (lv' := [(4, .long ((x0 - (18000 : Int64)) * ((18000 : Int64) - (x0 - (18000 : Int64))))), (2, .long (x0 - (18000 : Int64))), (0, .long x0)]) hx hb dX9_sine_25 hl (by decide) rfl (fun ls hl => ?_)
    refine lv_ldc2 hx hb hown (hts (.constantLong RX9 369 (405000000)) (List.mem_of_getElem? (i := 2) rfl)) dX9_sine_27 ?_
    refine lv_lload hx hb dX9_sine_30 (lv_at hl 0 rfl) ?_
    refine lv_lsub hx hb dX9_sine_32 ?_
    refine lv_lstore (lv' := [(6, .long ((405000000 : Int64) - ((x0 - (18000 : Int64)) * ((18000 : Int64) - (x0 - (18000 : Int64)))))), (4, .long ((x0 - (18000 : Int64)) * ((18000 : Int64) - (x0 - (18000 : Int64))))), (2, .long (x0 - (18000 : Int64))), (0, .long x0)]) hx hb dX9_sine_33 hl (by decide) rfl (fun ls hl => ?_)
    refine lv_lload hx hb dX9_sine_35 (lv_at hl 0 rfl) ?_
    refine lv_lconst (v := 0) hx hb dX9_sine_37 (by decide) ?_
    refine W.lcmp hx hb dX9_sine_38 ?_
    refine lv_if_ne (tgt := 44) hx hb dX9_sine_39 (by decide) (fun kc_4 => ?_) (fun kc_4 => ?_)
    · skip
      have c_4 : ¬ (((405000000 : Int64) - ((x0 - (18000 : Int64)) * ((18000 : Int64) - (x0 - (18000 : Int64))))) = (0 : Int64)) := fun h => kc_4 ((lg_cmp_eq _ _).mpr h)
      refine lv_ldc2 hx hb hown (hts (.constantLong RX9 371 (4000000)) (List.mem_of_getElem? (i := 3) rfl)) dX9_sine_44 ?_
      refine lv_lload hx hb dX9_sine_47 (lv_at hl 1 rfl) ?_
      refine lv_lmul hx hb dX9_sine_49 ?_
      refine lv_lload hx hb dX9_sine_50 (lv_at hl 0 rfl) ?_
      refine lv_ldiv hx hb dX9_sine_52 c_4 ?_
      refine lv_lstore (lv' := [(8, .long (((4000000 : Int64) * ((x0 - (18000 : Int64)) * ((18000 : Int64) - (x0 - (18000 : Int64))))) / ((405000000 : Int64) - ((x0 - (18000 : Int64)) * ((18000 : Int64) - (x0 - (18000 : Int64))))))), (6, .long ((405000000 : Int64) - ((x0 - (18000 : Int64)) * ((18000 : Int64) - (x0 - (18000 : Int64)))))), (4, .long ((x0 - (18000 : Int64)) * ((18000 : Int64) - (x0 - (18000 : Int64))))), (2, .long (x0 - (18000 : Int64))), (0, .long x0)]) hx hb dX9_sine_53 hl (by decide) rfl (fun ls hl => ?_)
      refine lv_lload_n hx hb dX9_sine_55 rfl (lv_at hl 4 rfl) ?_
      refine lv_ldc2 hx hb hown (hts (.constantLong RX9 367 (18000)) (List.mem_of_getElem? (i := 1) rfl)) dX9_sine_56 ?_
      refine W.lcmp hx hb dX9_sine_59 ?_
      refine lv_if_le (tgt := 69) hx hb dX9_sine_60 (by decide) (fun kc_5 => ?_) (fun kc_5 => ?_)
      · skip
        have c_5 : x0 ≤ (18000 : Int64) := (lg_cmp_le _ _).mp kc_5
        exact absurd c_5 c_1
      · skip
        have c_5 : ¬ (x0 ≤ (18000 : Int64)) := fun h => kc_5 ((lg_cmp_le _ _).mpr h)
        refine lv_lload hx hb dX9_sine_63 (lv_at hl 0 rfl) ?_
        refine lv_lneg hx hb dX9_sine_65 ?_
        refine lv_goto (tgt := 71) hx hb dX9_sine_66 (by decide) ?_
        have e9 : (zf_sine x0) = (-(((4000000 : Int64) * ((x0 - (18000 : Int64)) * ((18000 : Int64) - (x0 - (18000 : Int64))))) / ((405000000 : Int64) - ((x0 - (18000 : Int64)) * ((18000 : Int64) - (x0 - (18000 : Int64))))))) := by unfold zf_sine; simp only [if_neg c_1, if_neg c_4, if_neg c_5] <;> rfl
        subst hQ
        exact W.lret (v := (-(((4000000 : Int64) * ((x0 - (18000 : Int64)) * ((18000 : Int64) - (x0 - (18000 : Int64))))) / ((405000000 : Int64) - ((x0 - (18000 : Int64)) * ((18000 : Int64) - (x0 - (18000 : Int64)))))))) hx hb hr (fun t ht hW => ⟨_, rfl, e9.symm, ht⟩) (fun q h => by cases h) dX9_sine_71
    · skip
      have c_4 : ((405000000 : Int64) - ((x0 - (18000 : Int64)) * ((18000 : Int64) - (x0 - (18000 : Int64))))) = (0 : Int64) := (lg_cmp_eq _ _).mp kc_4
      refine lv_lconst (v := 0) hx hb dX9_sine_42 (by decide) ?_
      have e9 : (zf_sine x0) = (0 : Int64) := by unfold zf_sine; simp only [if_neg c_1, if_pos c_4] <;> rfl
      subst hQ
      exact W.lret (v := (0 : Int64)) hx hb hr (fun t ht hW => ⟨_, rfl, e9.symm, ht⟩) (fun q h => by cases h) dX9_sine_43
set_option maxHeartbeats 4000000 in
set_option maxRecDepth 100000 in
theorem c_X9_cosine (l : Launch) (D : va_G) (cA : Nat → ClassId) (x0 : Int64)  : Met l yX9_cosine wsX9_cosine ({ frames := 1, cells := 0, slots := 0, locals := 29 }) (va_Pc [.long x0] (zPreR D (zty cA) ([]))) (vp_Sl (fun x => x = (zf_cosine x0))) 0 0 (fun _ => False) := by
  refine Met.ofW (cc := cX9_cosine) (maxL := 2) (ret := (some .long)) (by decide) rfl ?_
  intro p e s m args below meth c s₁ B hml hv
  obtain ⟨rfl, hP, hK, hN⟩ := hv
  have hx := B.exec
  have hb := B.bytes
  have hr := B.returns
  have hts := atoms_spec (ws := wsX9_cosine) B.pre
  have hown : s.vm.findClass RX9 = some m.cls := findClass_of_methodNamed B.named
  have hlocks := B.notSynchronized
  have hP : va_P D vwCl [] s.heap := hP
  have hl := lv_entry ([.long x0]) (n := 2) (Nat.le_of_ble_eq_true rfl)
  rw [lg_entry_eq]
  generalize (lg_sl ([.long x0]) ++ List.replicate (2 - (lg_sl ([.long x0])).length) Slot.unset).toArray = ls at hl ⊢
  have hl : lv_has ls 2 [(0, .long x0)] := hl
  refine z_genQ (fun Q hQ => ?_)
  refine lv_lload_n hx hb dX9_cosine_0 rfl (lv_at hl 0 rfl) ?_
  refine lv_ldc2 hx hb hown (hts (.constantLong RX9 373 (9000)) (List.mem_of_getElem? (i := 1) rfl)) dX9_cosine_1 ?_
  refine lv_ladd hx hb dX9_cosine_4 ?_
  refine lv_ldc2 hx hb hown (hts (.constantLong RX9 207 (36000)) (List.mem_of_getElem? (i := 2) rfl)) dX9_cosine_5 ?_
  refine lv_lrem hx hb dX9_cosine_8 (by decide) ?_
  refine z_Rl (va_runS (As := [.long ((x0 + (9000 : Int64)) - (x0 + (9000 : Int64)) / (36000 : Int64) * (36000 : Int64))]) (rest := []) ⟨hx, hb, hml, hown, hts⟩ (c_X9_sine l D cA  ((x0 + (9000 : Int64)) - (x0 + (9000 : Int64)) / (36000 : Int64) * (36000 : Int64))) (va_cwS 1 hts gX9_cosine_X9_sine rfl rfl rfl (by decide +kernel) ⟨Nat.le_of_ble_eq_true rfl, Nat.le_of_ble_eq_true rfl⟩) (zpSR hK hP hN [] [0, 1, 2, 3, 4] rfl rfl) rfl rfl hl.1 rfl (lv_room (Nat.le_of_ble_eq_true rfl)) dX9_cosine_9 ⟨Nat.le_of_ble_eq_true rfl, Nat.le_of_ble_eq_true rfl⟩) ?_
  have e9 : (zf_cosine x0) = (zf_sine ((x0 + (9000 : Int64)) - (x0 + (9000 : Int64)) / (36000 : Int64) * (36000 : Int64))) := by rfl
  subst hQ
  exact W.lret (v := (zf_sine ((x0 + (9000 : Int64)) - (x0 + (9000 : Int64)) / (36000 : Int64) * (36000 : Int64)))) hx hb hr (fun t ht hW => ⟨_, rfl, e9.symm, ht⟩) (fun q h => by cases h) dX9_cosine_12
set_option maxHeartbeats 4000000 in
set_option maxRecDepth 100000 in
theorem c_X9_courseOfLatitude (l : Launch) (D : va_G) (cA : Nat → ClassId) (x0 : Int64)  : Met l yX9_courseOfLatitude wsX9_courseOfLatitude ({ frames := 1, cells := 0, slots := 0, locals := 15 }) (va_Pc [.long x0] (zPreR D (zty cA) ([]))) (vp_Sl (fun x => x = (zf_cLat x0))) 0 0 (fun _ => False) := by
  refine Met.ofW (cc := cX9_courseOfLatitude) (maxL := 2) (ret := (some .long)) (by decide) rfl ?_
  intro p e s m args below meth c s₁ B hml hv
  obtain ⟨rfl, hP, hK, hN⟩ := hv
  have hx := B.exec
  have hb := B.bytes
  have hr := B.returns
  have hts := atoms_spec (ws := wsX9_courseOfLatitude) B.pre
  have hown : s.vm.findClass RX9 = some m.cls := findClass_of_methodNamed B.named
  have hlocks := B.notSynchronized
  have hP : va_P D vwCl [] s.heap := hP
  have hl := lv_entry ([.long x0]) (n := 2) (Nat.le_of_ble_eq_true rfl)
  rw [lg_entry_eq]
  generalize (lg_sl ([.long x0]) ++ List.replicate (2 - (lg_sl ([.long x0])).length) Slot.unset).toArray = ls at hl ⊢
  have hl : lv_has ls 2 [(0, .long x0)] := hl
  refine z_genQ (fun Q hQ => ?_)
  refine lv_lload_n hx hb dX9_courseOfLatitude_0 rfl (lv_at hl 0 rfl) ?_
  refine va_mabs_long hx hb (hml.trans hl.1.symm) hown (hts (.methodLink RX9 219 Lib.MathLoose.abs_long.x) (List.mem_of_getElem? (i := 1) rfl)) (hts (.static Lib.MathLoose.abs_long.x) (List.mem_of_getElem? (i := 2) rfl)) (hts (.initialized "java/lang/Math") (List.mem_of_getElem? (i := 3) rfl)) (hts (.code Lib.MathLoose.abs_long.x Lib.MathLoose.abs_long.code 2 (some .long)) (List.mem_of_getElem? (i := 4) rfl)) (Nat.le_of_ble_eq_true rfl) (Nat.le_of_ble_eq_true rfl) (Nat.le_of_ble_eq_true rfl) (Nat.le_of_ble_eq_true rfl) dX9_courseOfLatitude_1 ?_
  refine lv_ldc2 hx hb hown (hts (.constantLong RX9 375 (10000)) (List.mem_of_getElem? (i := 5) rfl)) dX9_courseOfLatitude_4 ?_
  refine lv_ldiv hx hb dX9_courseOfLatitude_7 (by decide) ?_
  have e9 : (zf_cLat x0) = ((if 0 < x0 then x0 else -x0) / (10000 : Int64)) := by rfl
  subst hQ
  exact W.lret (v := ((if 0 < x0 then x0 else -x0) / (10000 : Int64))) hx hb hr (fun t ht hW => ⟨_, rfl, e9.symm, ht⟩) (fun q h => by cases h) dX9_courseOfLatitude_8
set_option maxHeartbeats 4000000 in
set_option maxRecDepth 100000 in
theorem c_X9_freeRest (l : Launch) (D : va_G) (cA : Nat → ClassId) (x0 : Int64) (x1 : Int64) (x2 : Int64) (x3 : Int64)  : Met l yX9_freeRest wsX9_freeRest ({ frames := 2, cells := 0, slots := 0, locals := 50 }) (va_Pc [.long x0, .long x1, .long x2, .long x3] (zPreR D (zty cA) ([]))) (vp_Sl (fun x => x = (zf_free x0 x1 x2 x3))) 0 0 (fun _ => False) := by
  refine Met.ofW (cc := cX9_freeRest) (maxL := 14) (ret := (some .long)) (by decide) rfl ?_
  intro p e s m args below meth c s₁ B hml hv
  obtain ⟨rfl, hP, hK, hN⟩ := hv
  have hx := B.exec
  have hb := B.bytes
  have hr := B.returns
  have hts := atoms_spec (ws := wsX9_freeRest) B.pre
  have hown : s.vm.findClass RX9 = some m.cls := findClass_of_methodNamed B.named
  have hlocks := B.notSynchronized
  have hP : va_P D vwCl [] s.heap := hP
  have hl := lv_entry ([.long x0, .long x1, .long x2, .long x3]) (n := 14) (Nat.le_of_ble_eq_true rfl)
  rw [lg_entry_eq]
  generalize (lg_sl ([.long x0, .long x1, .long x2, .long x3]) ++ List.replicate (14 - (lg_sl ([.long x0, .long x1, .long x2, .long x3])).length) Slot.unset).toArray = ls at hl ⊢
  have hl : lv_has ls 14 [(0, .long x0), (2, .long x1), (4, .long x2), (6, .long x3)] := hl
  refine z_genQ (fun Q hQ => ?_)
  refine lv_lload_n hx hb dX9_freeRest_0 rfl (lv_at hl 1 rfl) ?_
  refine z_Rl (va_runS (As := [.long x1]) (rest := []) ⟨hx, hb, hml, hown, hts⟩ (c_X9_courseOfLatitude l D cA  x1) (va_cwS 1 hts gX9_freeRest_X9_courseOfLatitude rfl rfl rfl (by decide +kernel) ⟨Nat.le_of_ble_eq_true rfl, Nat.le_of_ble_eq_true rfl⟩) (zpSR hK hP hN [] [0, 1, 2, 3, 4] rfl rfl) rfl rfl hl.1 rfl (lv_room (Nat.le_of_ble_eq_true rfl)) dX9_freeRest_1 ⟨Nat.le_of_ble_eq_true rfl, Nat.le_of_ble_eq_true rfl⟩) ?_
  refine lv_lstore (lv' := [(8, .long (zf_cLat x1)), (0, .long x0), (2, .long x1), (4, .long x2), (6, .long x3)]) hx hb dX9_freeRest_4 hl (by decide) rfl (fun ls hl => ?_)
  refine lv_lload_n hx hb dX9_freeRest_6 rfl (lv_at hl 2 rfl) ?_
  refine lv_lconst (v := 0) hx hb dX9_freeRest_7 (by decide) ?_
  refine W.lcmp hx hb dX9_freeRest_8 ?_
  refine lv_if_ge (tgt := 21) hx hb dX9_freeRest_9 (by decide) (fun kc_1 => ?_) (fun kc_1 => ?_)
  · skip
    have c_1 : (0 : Int64) ≤ x1 := (lg_cmp_ge _ _).mp kc_1
    refine lv_lload hx hb dX9_freeRest_21 (lv_at hl 0 rfl) ?_
    refine z_Rl (va_runS (As := [.long (zf_cLat x1)]) (rest := []) ⟨hx, hb, hml, hown, hts⟩ (c_X9_sine l D cA  (zf_cLat x1)) (va_cwS 1 hts gX9_freeRest_X9_sine rfl rfl rfl (by decide +kernel) ⟨Nat.le_of_ble_eq_true rfl, Nat.le_of_ble_eq_true rfl⟩) (zpSR hK hP hN [] [0, 1, 2, 3, 4] rfl rfl) rfl rfl hl.1 rfl (lv_room (Nat.le_of_ble_eq_true rfl)) dX9_freeRest_23 ⟨Nat.le_of_ble_eq_true rfl, Nat.le_of_ble_eq_true rfl⟩) ?_
    refine lv_lstore (lv' := [(10, .long (zf_sine (zf_cLat x1))), (8, .long (zf_cLat x1)), (0, .long x0), (2, .long x1), (4, .long x2), (6, .long x3)]) hx hb dX9_freeRest_26 hl (by decide) rfl (fun ls hl => ?_)
    refine lv_lload hx hb dX9_freeRest_28 (lv_at hl 1 rfl) ?_
    refine z_Rl (va_runS (As := [.long (zf_cLat x1)]) (rest := []) ⟨hx, hb, hml, hown, hts⟩ (c_X9_cosine l D cA  (zf_cLat x1)) (va_cwS 1 hts gX9_freeRest_X9_cosine rfl rfl rfl (by decide +kernel) ⟨Nat.le_of_ble_eq_true rfl, Nat.le_of_ble_eq_true rfl⟩) (zpSR hK hP hN [] [0, 1, 2, 3, 4] rfl rfl) rfl rfl hl.1 rfl (lv_room (Nat.le_of_ble_eq_true rfl)) dX9_freeRest_30 ⟨Nat.le_of_ble_eq_true rfl, Nat.le_of_ble_eq_true rfl⟩) ?_
    refine lv_lstore (lv' := [(12, .long (zf_cosine (zf_cLat x1))), (10, .long (zf_sine (zf_cLat x1))), (8, .long (zf_cLat x1)), (0, .long x0), (2, .long x1), (4, .long x2), (6, .long x3)]) hx hb dX9_freeRest_33 hl (by decide) rfl (fun ls hl => ?_)
    refine lv_lload_n hx hb dX9_freeRest_35 rfl (lv_at hl 3 rfl) ?_
    refine lv_lload hx hb dX9_freeRest_36 (lv_at hl 1 rfl) ?_
    refine lv_lmul hx hb dX9_freeRest_38 ?_
    refine lv_lload hx hb dX9_freeRest_39 (lv_at hl 0 rfl) ?_
    refine z_Rl (va_runS (As := [.long (x0 * (zf_sine (zf_cLat x1))), .long (zf_cosine (zf_cLat x1))]) (rest := []) ⟨hx, hb, hml, hown, hts⟩ (c_X9_quotient l D cA  (x0 * (zf_sine (zf_cLat x1))) (zf_cosine (zf_cLat x1))) (va_cwS 2 hts gX9_freeRest_X9_quotient rfl rfl rfl (by decide +kernel) ⟨Nat.le_of_ble_eq_true rfl, Nat.le_of_ble_eq_true rfl⟩) (zpSR hK hP hN [] [0, 1, 2, 3, 4] rfl rfl) rfl rfl hl.1 rfl (lv_room (Nat.le_of_ble_eq_true rfl)) dX9_freeRest_41 ⟨Nat.le_of_ble_eq_true rfl, Nat.le_of_ble_eq_true rfl⟩) ?_
    refine lv_ldc2 hx hb hown (hts (.constantLong RX9 383 (64)) (List.mem_of_getElem? (i := 1) rfl)) dX9_freeRest_44 ?_
    refine lv_lload hx hb dX9_freeRest_47 (lv_at hl 5 rfl) ?_
    refine lv_lmul hx hb dX9_freeRest_49 ?_
    refine lv_lload hx hb dX9_freeRest_50 (lv_at hl 6 rfl) ?_
    refine z_Rl (va_runS (As := [.long x3]) (rest := [.long ((64 : Int64) * x2), .long (zf_quot (x0 * (zf_sine (zf_cLat x1))) (zf_cosine (zf_cLat x1)))]) ⟨hx, hb, hml, hown, hts⟩ (c_X9_cosine l D cA  x3) (va_cwS 1 hts gX9_freeRest_X9_cosine rfl rfl rfl (by decide +kernel) ⟨Nat.le_of_ble_eq_true rfl, Nat.le_of_ble_eq_true rfl⟩) (zpSR hK hP hN [] [0, 1, 2, 3, 4] rfl rfl) rfl rfl hl.1 rfl (lv_room (Nat.le_of_ble_eq_true rfl)) dX9_freeRest_52 ⟨Nat.le_of_ble_eq_true rfl, Nat.le_of_ble_eq_true rfl⟩) ?_
    refine lv_lmul hx hb dX9_freeRest_55 ?_
    refine lv_lload hx hb dX9_freeRest_56 (lv_at hl 0 rfl) ?_
    refine z_Rl (va_runS (As := [.long (((64 : Int64) * x2) * (zf_cosine x3)), .long (zf_cosine (zf_cLat x1))]) (rest := [.long (zf_quot (x0 * (zf_sine (zf_cLat x1))) (zf_cosine (zf_cLat x1)))]) ⟨hx, hb, hml, hown, hts⟩ (c_X9_quotient l D cA  (((64 : Int64) * x2) * (zf_cosine x3)) (zf_cosine (zf_cLat x1))) (va_cwS 2 hts gX9_freeRest_X9_quotient rfl rfl rfl (by decide +kernel) ⟨Nat.le_of_ble_eq_true rfl, Nat.le_of_ble_eq_true rfl⟩) (zpSR hK hP hN [] [0, 1, 2, 3, 4] rfl rfl) rfl rfl hl.1 rfl (lv_room (Nat.le_of_ble_eq_true rfl)) dX9_freeRest_58 ⟨Nat.le_of_ble_eq_true rfl, Nat.le_of_ble_eq_true rfl⟩) ?_
    refine lv_lsub hx hb dX9_freeRest_61 ?_
    have e9 : (zf_free x0 x1 x2 x3) = ((zf_quot (x0 * (zf_sine (zf_cLat x1))) (zf_cosine (zf_cLat x1))) - (zf_quot (((64 : Int64) * x2) * (zf_cosine x3)) (zf_cosine (zf_cLat x1)))) := by unfold zf_free; simp only [if_pos c_1] <;> rfl
    subst hQ
    exact W.lret (v := ((zf_quot (x0 * (zf_sine (zf_cLat x1))) (zf_cosine (zf_cLat x1))) - (zf_quot (((64 : Int64) * x2) * (zf_cosine x3)) (zf_cosine (zf_cLat x1))))) hx hb hr (fun t ht hW => ⟨_, rfl, e9.symm, ht⟩) (fun q h => by cases h) dX9_freeRest_62
  · skip
    have c_1 : ¬ ((0 : Int64) ≤ x1) := fun h => kc_1 ((lg_cmp_ge _ _).mpr h)
    refine lv_lload hx hb dX9_freeRest_12 (lv_at hl 0 rfl) ?_
    refine z_Rl (va_runS (As := [.long (zf_cLat x1)]) (rest := []) ⟨hx, hb, hml, hown, hts⟩ (c_X9_sine l D cA  (zf_cLat x1)) (va_cwS 1 hts gX9_freeRest_X9_sine rfl rfl rfl (by decide +kernel) ⟨Nat.le_of_ble_eq_true rfl, Nat.le_of_ble_eq_true rfl⟩) (zpSR hK hP hN [] [0, 1, 2, 3, 4] rfl rfl) rfl rfl hl.1 rfl (lv_room (Nat.le_of_ble_eq_true rfl)) dX9_freeRest_14 ⟨Nat.le_of_ble_eq_true rfl, Nat.le_of_ble_eq_true rfl⟩) ?_
    refine lv_lneg hx hb dX9_freeRest_17 ?_
    refine lv_goto (tgt := 26) hx hb dX9_freeRest_18 (by decide) ?_
    refine lv_lstore (lv' := [(10, .long (-(zf_sine (zf_cLat x1)))), (8, .long (zf_cLat x1)), (0, .long x0), (2, .long x1), (4, .long x2), (6, .long x3)]) hx hb dX9_freeRest_26 hl (by decide) rfl (fun ls hl => ?_)
    refine lv_lload hx hb dX9_freeRest_28 (lv_at hl 1 rfl) ?_
    refine z_Rl (va_runS (As := [.long (zf_cLat x1)]) (rest := []) ⟨hx, hb, hml, hown, hts⟩ (c_X9_cosine l D cA  (zf_cLat x1)) (va_cwS 1 hts gX9_freeRest_X9_cosine rfl rfl rfl (by decide +kernel) ⟨Nat.le_of_ble_eq_true rfl, Nat.le_of_ble_eq_true rfl⟩) (zpSR hK hP hN [] [0, 1, 2, 3, 4] rfl rfl) rfl rfl hl.1 rfl (lv_room (Nat.le_of_ble_eq_true rfl)) dX9_freeRest_30 ⟨Nat.le_of_ble_eq_true rfl, Nat.le_of_ble_eq_true rfl⟩) ?_
    refine lv_lstore (lv' := [(12, .long (zf_cosine (zf_cLat x1))), (10, .long (-(zf_sine (zf_cLat x1)))), (8, .long (zf_cLat x1)), (0, .long x0), (2, .long x1), (4, .long x2), (6, .long x3)]) hx hb dX9_freeRest_33 hl (by decide) rfl (fun ls hl => ?_)
    refine lv_lload_n hx hb dX9_freeRest_35 rfl (lv_at hl 3 rfl) ?_
    refine lv_lload hx hb dX9_freeRest_36 (lv_at hl 1 rfl) ?_
    refine lv_lmul hx hb dX9_freeRest_38 ?_
    refine lv_lload hx hb dX9_freeRest_39 (lv_at hl 0 rfl) ?_
    refine z_Rl (va_runS (As := [.long (x0 * (-(zf_sine (zf_cLat x1)))), .long (zf_cosine (zf_cLat x1))]) (rest := []) ⟨hx, hb, hml, hown, hts⟩ (c_X9_quotient l D cA  (x0 * (-(zf_sine (zf_cLat x1)))) (zf_cosine (zf_cLat x1))) (va_cwS 2 hts gX9_freeRest_X9_quotient rfl rfl rfl (by decide +kernel) ⟨Nat.le_of_ble_eq_true rfl, Nat.le_of_ble_eq_true rfl⟩) (zpSR hK hP hN [] [0, 1, 2, 3, 4] rfl rfl) rfl rfl hl.1 rfl (lv_room (Nat.le_of_ble_eq_true rfl)) dX9_freeRest_41 ⟨Nat.le_of_ble_eq_true rfl, Nat.le_of_ble_eq_true rfl⟩) ?_
    refine lv_ldc2 hx hb hown (hts (.constantLong RX9 383 (64)) (List.mem_of_getElem? (i := 1) rfl)) dX9_freeRest_44 ?_
    refine lv_lload hx hb dX9_freeRest_47 (lv_at hl 5 rfl) ?_
    refine lv_lmul hx hb dX9_freeRest_49 ?_
    refine lv_lload hx hb dX9_freeRest_50 (lv_at hl 6 rfl) ?_
    refine z_Rl (va_runS (As := [.long x3]) (rest := [.long ((64 : Int64) * x2), .long (zf_quot (x0 * (-(zf_sine (zf_cLat x1)))) (zf_cosine (zf_cLat x1)))]) ⟨hx, hb, hml, hown, hts⟩ (c_X9_cosine l D cA  x3) (va_cwS 1 hts gX9_freeRest_X9_cosine rfl rfl rfl (by decide +kernel) ⟨Nat.le_of_ble_eq_true rfl, Nat.le_of_ble_eq_true rfl⟩) (zpSR hK hP hN [] [0, 1, 2, 3, 4] rfl rfl) rfl rfl hl.1 rfl (lv_room (Nat.le_of_ble_eq_true rfl)) dX9_freeRest_52 ⟨Nat.le_of_ble_eq_true rfl, Nat.le_of_ble_eq_true rfl⟩) ?_
    refine lv_lmul hx hb dX9_freeRest_55 ?_
    refine lv_lload hx hb dX9_freeRest_56 (lv_at hl 0 rfl) ?_
    refine z_Rl (va_runS (As := [.long (((64 : Int64) * x2) * (zf_cosine x3)), .long (zf_cosine (zf_cLat x1))]) (rest := [.long (zf_quot (x0 * (-(zf_sine (zf_cLat x1)))) (zf_cosine (zf_cLat x1)))]) ⟨hx, hb, hml, hown, hts⟩ (c_X9_quotient l D cA  (((64 : Int64) * x2) * (zf_cosine x3)) (zf_cosine (zf_cLat x1))) (va_cwS 2 hts gX9_freeRest_X9_quotient rfl rfl rfl (by decide +kernel) ⟨Nat.le_of_ble_eq_true rfl, Nat.le_of_ble_eq_true rfl⟩) (zpSR hK hP hN [] [0, 1, 2, 3, 4] rfl rfl) rfl rfl hl.1 rfl (lv_room (Nat.le_of_ble_eq_true rfl)) dX9_freeRest_58 ⟨Nat.le_of_ble_eq_true rfl, Nat.le_of_ble_eq_true rfl⟩) ?_
    refine lv_lsub hx hb dX9_freeRest_61 ?_
    have e9 : (zf_free x0 x1 x2 x3) = ((zf_quot (x0 * (-(zf_sine (zf_cLat x1)))) (zf_cosine (zf_cLat x1))) - (zf_quot (((64 : Int64) * x2) * (zf_cosine x3)) (zf_cosine (zf_cLat x1)))) := by unfold zf_free; simp only [if_neg c_1] <;> rfl
    subst hQ
    exact W.lret (v := ((zf_quot (x0 * (-(zf_sine (zf_cLat x1)))) (zf_cosine (zf_cLat x1))) - (zf_quot (((64 : Int64) * x2) * (zf_cosine x3)) (zf_cosine (zf_cLat x1))))) hx hb hr (fun t ht hW => ⟨_, rfl, e9.symm, ht⟩) (fun q h => by cases h) dX9_freeRest_62
