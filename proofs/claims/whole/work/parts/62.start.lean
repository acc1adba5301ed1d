/-! the start: the classes' numbers and slots, the rows that stand still, both sides made -/
theorem z_nwin : ∀ w ∈ zNw, w ∈ lw_tbl := zin_p [63, 124, 167, 215, 362, 276, 295, 355, 373, 378, 387, 392, 431, 460, 465, 474, 481, 492, 497, 515, 517, 535, 542, 545, 550, 555, 556, 626, 634, 643, 239, 513] (by decide +kernel)
theorem z_onT : zNw.all (fun w => w.onTables) = true := by decide +kernel
theorem z_row {s : State} {a : Array Value} {n : String} {N : Nat} {f : Nat → Int64} (hN : N < 2 ^ 31) (hl : (Cond.laysStatic "GyroTrainer" n "[J").before a s = true) (hi : (Cond.initialized "GyroTrainer").before a s = true) (harr : (Cond.arrayOf (.static "GyroTrainer" n "[J") .long).before a s = true) (hlen : (Cond.eq (.length (.static "GyroTrainer" n "[J")) (.int (Int32.ofNat N))).before a s = true) (hel : ∀ j : Nat, j < N → (Cond.eq (.elem (.static "GyroTrainer" n "[J") (.int (Int32.ofNat j))) (.long (f j))).before a s = true) : zT1 n N f (zAl s) s s.heap := by
  have hA : ∀ r : Nat, r < s.heap.size → ¬ zAl s r := fun r h => Nat.not_le.mpr h
  obtain ⟨t, ht, hT⟩ := va_Tof (A := zAl s) (f := fun j => .long (f j)) hN harr (va_eqt hlen) (fun j hj => va_eqtl (hel j hj)) hA
  exact ⟨t, va_Zof hl hi ht hA, hT⟩
set_option maxHeartbeats 4000000 in
set_option maxRecDepth 100000 in
theorem z_env {s : State} {b : Addr} (hT : ∀ w ∈ lw_tbl, w.before #[Value.ref b] s = true) (hgv : (Jvm.Cond.and given_1 narrow_1).before #[Value.ref b] s = true) : zE (zAl s) s s.heap := by
  have hf := flat_of_before _ hgv
  have hi := hT (.initialized "GyroTrainer") (List.mem_of_getElem? (i := 35) (by decide +kernel))
  refine ⟨fun w hw => va_Nw.of (List.all_eq_true.mp z_onT w hw) (hT w (z_nwin w hw)), va_AO.of (hT (.arrayOver (.object "GyroTrainer$State")) (List.mem_of_getElem? (i := 281) (by decide +kernel))), ?_, ?_, ?_, ?_⟩
  · refine z_row (by decide) (hT (.laysStatic "GyroTrainer" "SETTING_LEAST" "[J") (List.mem_of_getElem? (i := 345) (by decide +kernel))) hi (hf _ (by decide +kernel)) (hf _ (by decide +kernel)) (fun j hj => ?_)
    rcases (show j = 0 ∨ j = 1 ∨ j = 2 ∨ j = 3 ∨ j = 4 ∨ j = 5 ∨ j = 6 ∨ j = 7 ∨ j = 8 by omega) with rfl | rfl | rfl | rfl | rfl | rfl | rfl | rfl | rfl <;> exact hf _ (by decide +kernel)
  · refine z_row (by decide) (hT (.laysStatic "GyroTrainer" "SETTING_MOST" "[J") (List.mem_of_getElem? (i := 350) (by decide +kernel))) hi (hf _ (by decide +kernel)) (hf _ (by decide +kernel)) (fun j hj => ?_)
    rcases (show j = 0 ∨ j = 1 ∨ j = 2 ∨ j = 3 ∨ j = 4 ∨ j = 5 ∨ j = 6 ∨ j = 7 ∨ j = 8 by omega) with rfl | rfl | rfl | rfl | rfl | rfl | rfl | rfl | rfl <;> exact hf _ (by decide +kernel)
  · refine z_row (by decide) (hT (.laysStatic "GyroTrainer" "SETTING_FIRST" "[J") (List.mem_of_getElem? (i := 240) (by decide +kernel))) hi (hf _ (by decide +kernel)) (hf _ (by decide +kernel)) (fun j hj => ?_)
    rcases (show j = 0 ∨ j = 1 ∨ j = 2 ∨ j = 3 ∨ j = 4 ∨ j = 5 ∨ j = 6 ∨ j = 7 ∨ j = 8 by omega) with rfl | rfl | rfl | rfl | rfl | rfl | rfl | rfl | rfl <;> exact hf _ (by decide +kernel)
  · refine z_row (by decide) (hT (.laysStatic "GyroTrainer" "DAMPING" "[J") (List.mem_of_getElem? (i := 514) (by decide +kernel))) hi (hf _ (by decide +kernel)) (hf _ (by decide +kernel)) (fun j hj => ?_)
    rcases (show j = 0 ∨ j = 1 ∨ j = 2 ∨ j = 3 ∨ j = 4 by omega) with rfl | rfl | rfl | rfl | rfl <;> exact hf _ (by decide +kernel)
set_option maxHeartbeats 4000000 in
set_option maxRecDepth 100000 in
theorem z_known {s : State} {b : Addr} (hT : ∀ w ∈ lw_tbl, w.before #[Value.ref b] s = true) : ∃ (D : va_G) (cA : Nat → ClassId), va_K D vwCl (zty cA) s := by
  obtain ⟨c0, i0, h0⟩ := u_known (C := RX0) (T := TX0) (N := 7) (n := 7) hT inX0 (hT (.instantiable RX0 7) (List.mem_of_getElem? (i := 123) (by decide +kernel)))
  obtain ⟨c1, i1, h1⟩ := u_known (C := RX1) (T := TX1) (N := 3) (n := 3) hT inX1 (hT (.instantiable RX1 3) (List.mem_of_getElem? (i := 275) (by decide +kernel)))
  obtain ⟨c2, i2, h2⟩ := u_known (C := RX2) (T := TX2) (N := 2) (n := 2) hT inX2 (hT (.instantiable RX2 2) (List.mem_of_getElem? (i := 172) (by decide +kernel)))
  obtain ⟨c3, i3, h3⟩ := u_known (C := RX3) (T := TX3) (N := 4) (n := 4) hT inX3 (hT (.instantiable RX3 4) (List.mem_of_getElem? (i := 68) (by decide +kernel)))
  obtain ⟨c4, i4, h4⟩ := u_known (C := RX4) (T := TX4) (N := 5) (n := 5) hT inX4 (hT (.instantiable RX4 5) (List.mem_of_getElem? (i := 294) (by decide +kernel)))
  obtain ⟨c5, i5, h5⟩ := u_known (C := RX5) (T := TX5) (N := 5) (n := 5) hT inX5 (hT (.instantiable RX5 5) (List.mem_of_getElem? (i := 62) (by decide +kernel)))
  obtain ⟨c6, i6, h6⟩ := u_known (C := RX6) (T := TX6) (N := 4) (n := 4) hT inX6 (hT (.instantiable RX6 4) (List.mem_of_getElem? (i := 214) (by decide +kernel)))
  obtain ⟨c7, i7, h7⟩ := u_known (C := RX7) (T := TX7) (N := 8) (n := 8) hT inX7 (hT (.instantiable RX7 8) (List.mem_of_getElem? (i := 56) (by decide +kernel)))
  obtain ⟨c8, i8, h8⟩ := u_known (C := RX8) (T := TX8) (N := 6) (n := 6) hT inX8 (hT (.instantiable RX8 6) (List.mem_of_getElem? (i := 166) (by decide +kernel)))
  obtain ⟨c9, i9, h9⟩ := u_known (C := RX9) (T := TX9) (N := 5) (n := 5) hT inX9 (hT (.instantiable RX9 5) (List.mem_of_getElem? (i := 48) (by decide +kernel)))
  obtain ⟨c10, i10, h10⟩ := u_known (C := RX10) (T := TX10) (N := 16) (n := 16) hT inX10 (hT (.instantiable RX10 16) (List.mem_of_getElem? (i := 788) (by decide +kernel)))
  obtain ⟨a0, ka0, co0, f0, g0, k0⟩ := Cond.arrayClass_spec (hT (.arrayClass .long) (List.mem_of_getElem? (i := 97) (by decide +kernel)))
  obtain ⟨a1, ka1, co1, f1, g1, k1⟩ := Cond.arrayClass_spec (hT (.arrayClass .int) (List.mem_of_getElem? (i := 842) (by decide +kernel)))
  obtain ⟨a2, ka2, co2, f2, g2, k2⟩ := Cond.arrayClass_spec (hT (.arrayClass .boolean) (List.mem_of_getElem? (i := 843) (by decide +kernel)))
  obtain ⟨a3, ka3, co3, f3, g3, k3⟩ := Cond.arrayClass_spec (hT (.arrayClass .char) (List.mem_of_getElem? (i := 319) (by decide +kernel)))
  obtain ⟨co4, a4, ka4, e4, -, g4, k4, f4⟩ := Cond.arrayOver_spec (hT (.arrayOver (.object "GyroTrainer$State")) (List.mem_of_getElem? (i := 281) (by decide +kernel)))
  refine ⟨(fun k => match k with | 0 => c0 | 1 => c1 | 2 => c2 | 3 => c3 | 4 => c4 | 5 => c5 | 6 => c6 | 7 => c7 | 8 => c8 | 9 => c9 | _ => c10, fun k => match k with | 0 => i0 | 1 => i1 | 2 => i2 | 3 => i3 | 4 => i4 | 5 => i5 | 6 => i6 | 7 => i7 | 8 => i8 | 9 => i9 | _ => i10), fun k => match k with | 0 => a0 | 1 => a1 | 2 => a2 | 3 => a3 | _ => a4, ?_, ?_⟩
  · intro k q hq
    match k, hq with
    | 0, hq => cases hq; exact h0
    | 1, hq => cases hq; exact h1
    | 2, hq => cases hq; exact h2
    | 3, hq => cases hq; exact h3
    | 4, hq => cases hq; exact h4
    | 5, hq => cases hq; exact h5
    | 6, hq => cases hq; exact h6
    | 7, hq => cases hq; exact h7
    | 8, hq => cases hq; exact h8
    | 9, hq => cases hq; exact h9
    | 10, hq => cases hq; exact h10
    | k + 11, hq => simp [vwCl] at hq
  · intro k q hq
    match k, hq with
    | 0, hq => cases hq; exact ⟨fun n z => ⟨(fun k h => by cases h), ka0, g0, co0, k0⟩, f0⟩
    | 1, hq => cases hq; exact ⟨fun n z => ⟨(fun k h => by cases h), ka1, g1, co1, k1⟩, f1⟩
    | 2, hq => cases hq; exact ⟨fun n z => ⟨(fun k h => by cases h), ka2, g2, co2, k2⟩, f2⟩
    | 3, hq => cases hq; exact ⟨fun n z => ⟨(fun k h => by cases h), ka3, g3, co3, k3⟩, f3⟩
    | 4, hq => cases hq; exact ⟨fun n z => ⟨(fun k h => by cases h), ka4, g4, co4, k4⟩, ka4, co4, g4, k4, e4, f4⟩
    | k + 5, hq => simp [zty] at hq
set_option maxHeartbeats 4000000 in
set_option maxRecDepth 100000 in
/-- the law, from its entry -/
theorem whole_start {p : Program} {e : Env} {s : State} {m : MethodId} {below : List Frame} {meth : Method} {c : Code} (l : Launch) (hflags : l.flags = flags0) {b L : Nat} {xs : Nat → Int32} (hL : L ≤ 2048) (C0 : lw_At p s m meth c b L xs) : W p l e room_1 s m #[Value.ref b] below meth c s.heap [] 0 0 (lw_Z below #[Value.ref b] s) (entryFrame m ([Value.ref b] : List Value).toArray 4) := by
  obtain ⟨hx, hb, hr, hml, hown, hT, hX, hbl, hlocks, hgv⟩ := id C0
  have hts : ∀ w ∈ wsL_law, w.before #[Value.ref b] s = true := fun w h => hT w (wsL_law_in w h)
  obtain ⟨D, cA, hK⟩ := z_known hT
  have hE := z_env hT hgv
  have hA : ∀ r, s.heap.size ≤ r → zAl s r := fun _ h => h
  have hC : LA p s m c b L xs D cA := ⟨hx, hb, hml, hown, hts, hX, hbl, hL, hK, hE⟩
  have hS : va_S (zAl s) s.heap s.heap [] := va_S.rf
  have hP : va_P D vwCl [] s.heap := fun k q h => by simp at h
  have hD : va_D (zAl s) [] := ⟨fun i j p q h => by simp at h, fun k q h => by simp at h⟩
  have hl := lv_entry ([.ref b]) (n := 4) (Nat.le_of_ble_eq_true rfl)
  rw [lg_entry_eq]
  generalize (lg_sl ([.ref b]) ++ List.replicate (4 - (lg_sl ([.ref b])).length) Slot.unset).toArray = ls at hl ⊢
  have hl : lv_has ls 4 [(0, .ref b)] := hl
  refine va_new (ci := 9) (fs := [.null, .null, .null, .null, .null]) (C := RX9) (T := TX9) (N := 5) hx hb hT inX9 tyX9 tyX9_ok hown (hts (.classLink RL 7 RX9) (List.mem_of_getElem? (i := 0) rfl)) (hts (.instantiable RX9 5) (List.mem_of_getElem? (i := 1) rfl)) (hts (.initialized RX9) (List.mem_of_getElem? (i := 2) rfl)) hK hP hD hS hA rfl (fun j hj => by rcases (show j = 0 ∨ j = 1 ∨ j = 2 ∨ j = 3 ∨ j = 4 by omega) with rfl | rfl | rfl | rfl | rfl <;> rfl) (Nat.le_of_ble_eq_true rfl) (Nat.le_of_ble_eq_true rfl) dL_law_0 (fun g0 H hP hD hS => ?_)
  have hP : va_P D vwCl ([] ++ [(g0, .inr (9, [.null, .null, .null, .null, .null]))]) H := hP
  have hD : va_D (zAl s) ([] ++ [(g0, .inr (9, [.null, .null, .null, .null, .null]))]) := hD
  refine lv_dup hx hb dL_law_3 rfl ?_
  refine z_Hn (wr := []) (wt := fun (u : Nat → Nat) => [] ++ wX9 cA g0 (u 0) (u 1) (u 2) (u 3) (u 4) (u 5) (u 6) (u 7) (u 8) (u 9) (u 10) (u 11) (u 12) (u 13) (u 14) (u 15) (u 16) (u 17) (u 18) (u 19) (u 20) (u 21) (u 22) (u 23) (u 24) (u 25) (u 26) (u 27) (u 28) (u 29) (u 30) (u 31) (u 32) (u 33) (u 34) (u 35) (u 36) (u 37) (u 38) (u 39) (u 40) (u 41) (u 42) (u 43) (u 44) (u 45) (u 46) (u 47) (u 48) zi_X9) (va_runI (As := []) (rest := [.ref g0]) ⟨hx, hb, hml, hown, hts⟩ (c_X9_init l D cA g0 H.size) (cwI 0 hts gL_law_X9_init rfl rfl rfl (hts (.initialized RX9) (List.mem_of_getElem? (i := 2) rfl)) (hts (.methodLink RL 9 yX9_init) (List.mem_of_getElem? (i := 7) rfl)) (hts (.instanceMethod yX9_init) (List.mem_of_getElem? (i := 8) rfl)) rfl (by decide +kernel) ⟨Nat.le_of_ble_eq_true rfl, Nat.le_of_ble_eq_true rfl⟩) (zqS hK hP hD hS hA hE (List.Perm.refl _)) rfl rfl hl.1 rfl (lv_room (Nat.le_of_ble_eq_true rfl)) dL_law_4 ⟨Nat.le_of_ble_eq_true rfl, Nat.le_of_ble_eq_true rfl⟩) hP hD hS hA (List.Perm.refl _) (fun u => List.Perm.refl _) (fun u H locs hP hD hS => ?_)
  refine lv_astore_n (lv' := [(1, .ref g0), (0, .ref b)]) hx hb dL_law_7 rfl hl (by decide) rfl (fun ls hl => ?_)
  obtain ⟨g, eg⟩ : ∃ g : Nat → Nat, g = fun k => Nat.casesOn k g0 u := ⟨_, rfl⟩
  have hP : va_P D vwCl (zTr cA g zi_T) H := by rw [eg]; exact hP
  have hD : va_D (zAl s) (zTr cA g zi_T) := by rw [eg]; exact hD
  have hg0 : g0 = g 0 := by rw [eg]; rfl
  rw [hg0] at hl
  clear eg hg0
  refine va_new (ci := 10) (fs := [.null, .null, .null, .null, .null, .null, .int (0 : Int32), .null, .null, .null, .null, .int (0 : Int32), .int (0 : Int32), .int (0 : Int32), .null, .int (0 : Int32)]) (C := RX10) (T := TX10) (N := 16) hx hb hT inX10 tyX10 tyX10_ok hown (hts (.classLink RL 10 RX10) (List.mem_of_getElem? (i := 3) rfl)) (hts (.instantiable RX10 16) (List.mem_of_getElem? (i := 4) rfl)) (hts (.initialized RX10) (List.mem_of_getElem? (i := 5) rfl)) hK hP hD hS hA rfl (fun j hj => by rcases (show j = 0 ∨ j = 1 ∨ j = 2 ∨ j = 3 ∨ j = 4 ∨ j = 5 ∨ j = 6 ∨ j = 7 ∨ j = 8 ∨ j = 9 ∨ j = 10 ∨ j = 11 ∨ j = 12 ∨ j = 13 ∨ j = 14 ∨ j = 15 by omega) with rfl | rfl | rfl | rfl | rfl | rfl | rfl | rfl | rfl | rfl | rfl | rfl | rfl | rfl | rfl | rfl <;> rfl) (Nat.le_of_ble_eq_true rfl) (Nat.le_of_ble_eq_true rfl) dL_law_8 (fun q0 H hP hD hS => ?_)
  have hP : va_P D vwCl (zTr cA g zi_T ++ [(q0, .inr (10, [.null, .null, .null, .null, .null, .null, .int (0 : Int32), .null, .null, .null, .null, .int (0 : Int32), .int (0 : Int32), .int (0 : Int32), .null, .int (0 : Int32)]))]) H := hP
  have hD : va_D (zAl s) (zTr cA g zi_T ++ [(q0, .inr (10, [.null, .null, .null, .null, .null, .null, .int (0 : Int32), .null, .null, .null, .null, .int (0 : Int32), .int (0 : Int32), .int (0 : Int32), .null, .int (0 : Int32)]))]) := hD
  refine lv_dup hx hb dL_law_11 rfl ?_
  refine z_Hn (wr := zTr cA g zi_T) (wt := fun (u : Nat → Nat) => zTr cA g zi_T ++ wX10 cA q0 (u 0) (u 1) (u 2) (u 3) (u 4) (u 5) (u 6) (u 7) (u 8) (u 9) (u 10) zi_X10) (va_runI (As := []) (rest := [.ref q0]) ⟨hx, hb, hml, hown, hts⟩ (c_X10_init l D cA q0 H.size) (cwI 0 hts gL_law_X10_init rfl rfl rfl (hts (.initialized RX10) (List.mem_of_getElem? (i := 5) rfl)) (hts (.methodLink RL 12 yX10_init) (List.mem_of_getElem? (i := 109) rfl)) (hts (.instanceMethod yX10_init) (List.mem_of_getElem? (i := 110) rfl)) rfl (by decide +kernel) ⟨Nat.le_of_ble_eq_true rfl, Nat.le_of_ble_eq_true rfl⟩) (zqS hK hP hD hS hA hE (List.Perm.refl _)) rfl rfl hl.1 rfl (lv_room (Nat.le_of_ble_eq_true rfl)) dL_law_12 ⟨Nat.le_of_ble_eq_true rfl, Nat.le_of_ble_eq_true rfl⟩) hP hD hS hA (List.Perm.refl _) (fun u => List.Perm.refl _) (fun u H locs hP hD hS => ?_)
  refine lv_astore_n (lv' := [(2, .ref q0), (1, .ref (g 0)), (0, .ref b)]) hx hb dL_law_15 rfl hl (by decide) rfl (fun ls hl => ?_)
  obtain ⟨q, eq⟩ : ∃ q : Nat → Nat, q = fun k => Nat.casesOn k q0 u := ⟨_, rfl⟩
  have hP : va_P D vwCl (zTr cA g zi_T ++ zMd cA q zi_X10) H := by rw [eq]; exact hP
  have hD : va_D (zAl s) (zTr cA g zi_T ++ zMd cA q zi_X10) := by rw [eq]; exact hD
  have hq0 : q0 = q 0 := by rw [eq]; rfl
  rw [hq0] at hl
  clear eq hq0
  refine lv_iconst (v := nI (4 * 0)) hx hb dL_law_16 (by decide) ?_
  refine lv_istore_n (lv' := [(3, .int (nI (4 * 0))), (2, .ref (q 0)), (1, .ref (g 0)), (0, .ref b)]) hx hb dL_law_17 rfl hl (by decide) rfl (fun ls hl => ?_)
  refine W.widen (k := 62 + 20 * 0) (n := 1472 + 115 * 0) (by omega) (by omega) ?_
  exact law_loop hC hr hlocks g q (L + 4) 0 (Nat.zero_le _) (by omega) zi_T zi_X10 H locs Rel_0 hP hD hS ls (lv_sub hl [0, 3, 2, 1] rfl)
