/-! the class: rest of a division, the signs of a number -/
/-- a contract from a walk, where the class bears a name with a stroke: no native may stand under the method's name -/
theorem zMetF {l : Launch} {y : MethodName} {ws wr : List Cond} {rm : Room} {Pc : Array Value → State → Prop} {Qc : Array Value → State → Outcome → State → Prop} {mc ms : Nat} {free : Addr → Prop} {cc : ByteArray} {maxL : Nat} {ret : Option FieldType}
    (hn : plainFor y = true) (hw : ws = Cond.code y cc maxL ret :: wr)
    (walk : ∀ p e s m args below meth c s₁, BodyLoose p l y (headSpec ws rm) cc maxL ret e s m args below meth c s₁ → c.maxLocals = maxL → Pc args s →
      W p l e (headSpec ws rm).room s m args below meth c s.heap [] 0 0 (MQ below Qc args s mc ms free) (entryFrame m args maxL)) : Met l y ws rm Pc Qc mc ms free := by
  unfold Met
  refine MetFree.of_bodySF (code := cc) (maxLocals := maxL) (ret := ret) hn (fun args s m h hm => ?_) (fun p e s m args below meth c s₁ B hml hP _ => ?_)
  · have hcode := Cond.code_spec hm (atoms_spec (ws := ws) h _ (by rw [hw]; exact List.mem_cons_self))
    obtain ⟨meth, c, g1, g2, g3, g4, g5, g6, -, -⟩ := hcode
    exact ⟨meth, c, g1, g2, g3, g4, g5, g6⟩
  · have hheap : s₁.heap = s.heap := by rw [B.state]; rfl
    obtain ⟨t, k1, o, k2, k3, k4⟩ := walk p e s m args below meth c s₁ B hml hP s₁ hheap (Stand.of_body B)
    exact ⟨t, o, k1, k2, k3, k4.1, k4.2⟩
def zf_fm (x y : Int64) : Int64 := if 0 ≤ x ^^^ y then x - x / y * y else if x - x / y * y = 0 then x - x / y * y else x - x / y * y + y
def fc_c1 : Nat → Nat → Int64 → Nat × Int64
  | 0, k, x => (k, x)
  | d + 1, k, x => if x &&& 255 = 0 then (k, x) else if zf_in (x &&& 255) 33 126 = 0 then (9, x) else fc_c1 d (k + 1) (zus x)
theorem fc_c1_s {k : Nat} {x0 x : Int64} (h : k < 8) (c1 : ¬ x &&& 255 = 0) (c2 : ¬ zf_in (x &&& 255) 33 126 = 0) (e : fc_c1 8 0 x0 = fc_c1 (8 - k) k x) : fc_c1 8 0 x0 = fc_c1 (8 - (k + 1)) (k + 1) (zus x) := by
  rw [e, show 8 - k = (8 - (k + 1)) + 1 by omega]
  show (if x &&& 255 = 0 then _ else _) = _
  rw [if_neg c1, if_neg c2]
theorem fc_c1_e {d k : Nat} {x : Int64} (h : 0 < d) (c1 : ¬ x &&& 255 = 0) (c2 : zf_in (x &&& 255) 33 126 = 0) : fc_c1 d k x = (9, x) := by
  obtain ⟨j, rfl⟩ : ∃ j, d = j + 1 := ⟨d - 1, by omega⟩
  show (if x &&& 255 = 0 then _ else _) = _
  rw [if_neg c1, if_pos c2]
theorem fc_c1_z {d k : Nat} {x : Int64} (c1 : d = 0 ∨ x &&& 255 = 0) : fc_c1 d k x = (k, x) := by
  cases d
  · rfl
  · show (if x &&& 255 = 0 then _ else _) = _
    rw [if_pos (c1.resolve_left (by omega))]
def fc_cs (x : Int64) : Int32 := if (fc_c1 8 0 x).1 = 9 then 0 else if (fc_c1 8 0 x).2 = 0 then nI (fc_c1 8 0 x).1 else 0

set_option maxHeartbeats 4000000 in
set_option maxRecDepth 100000 in
theorem c_J9_floorMod_f86c9 (l : Launch) (D : va_G) (cA : Nat → ClassId) (x1 : Int64) (x2 : Int64) (hne : x2 ≠ 0) : Met l yJ9_floorMod_f86c9 wsJ9_floorMod_f86c9 ({ frames := 0, cells := 0, slots := 0, locals := 0 }) (va_Pc [.long x1, .long x2] (zPreR D (zty cA) ([]))) (vp_Sl (fun x => x = (zf_fm x1 x2))) 0 0 (fun _ => False) := by
  refine zMetF (cc := cJ9_floorMod_f86c9) (maxL := 6) (ret := (some .long)) (by decide +kernel) rfl ?_
  intro p e s m args below meth c s₁ B hml hv
  obtain ⟨rfl, hP, hK, hN⟩ := hv
  have hx := B.exec
  have hb := B.bytes
  have hr := B.returns
  have hts := atoms_spec (ws := wsJ9_floorMod_f86c9) B.pre
  have hown : s.vm.findClass RJ9 = some m.cls := findClass_of_methodNamed B.named
  have hlocks := B.notSynchronized
  have hP : va_P D vwCl [] s.heap := hP
  have hl := lv_entry ([.long x1, .long x2]) (n := 6) (Nat.le_of_ble_eq_true rfl)
  rw [lg_entry_eq]
  generalize (lg_sl ([.long x1, .long x2]) ++ List.replicate (6 - (lg_sl ([.long x1, .long x2])).length) Slot.unset).toArray = ls at hl ⊢
  have hl : lv_has ls 6 [(0, .long x1), (2, .long x2)] := hl
  refine z_genQ (fun Q hQ => ?_)
  refine lv_lload_n hx hb dJ9_floorMod_f86c9_0 rfl (lv_at hl 0 rfl) ?_
  refine lv_lload_n hx hb dJ9_floorMod_f86c9_1 rfl (lv_at hl 1 rfl) ?_
  refine lv_lrem hx hb dJ9_floorMod_f86c9_2 hne ?_
  refine lv_lstore (lv' := [(4, .long (x1 - x1 / x2 * x2)), (0, .long x1), (2, .long x2)]) hx hb dJ9_floorMod_f86c9_3 hl (by decide) rfl (fun ls hl => ?_)
  refine lv_lload_n hx hb dJ9_floorMod_f86c9_5 rfl (lv_at hl 1 rfl) ?_
  refine lv_lload_n hx hb dJ9_floorMod_f86c9_6 rfl (lv_at hl 2 rfl) ?_
  refine lv_lxor hx hb dJ9_floorMod_f86c9_7 ?_
  refine lv_lconst (v := 0) hx hb dJ9_floorMod_f86c9_8 (by decide) ?_
  refine W.lcmp hx hb dJ9_floorMod_f86c9_9 ?_
  refine lv_if_ge (tgt := 25) hx hb dJ9_floorMod_f86c9_10 (by decide) (fun kc_1 => ?_) (fun kc_1 => ?_)
  · skip
    have c_1 : (0 : Int64) ≤ (x1 ^^^ x2) := (lg_cmp_ge _ _).mp kc_1
    refine lv_lload hx hb dJ9_floorMod_f86c9_25 (lv_at hl 0 rfl) ?_
    have e9 : (zf_fm x1 x2) = (x1 - x1 / x2 * x2) := by unfold zf_fm; rw [if_pos c_1]
    subst hQ
    exact W.lret (v := (x1 - x1 / x2 * x2)) hx hb hr (fun t ht hW => ⟨_, rfl, e9.symm, ht⟩) (fun q h => by cases h) dJ9_floorMod_f86c9_27
  · skip
    have c_1 : ¬ ((0 : Int64) ≤ (x1 ^^^ x2)) := fun h => kc_1 ((lg_cmp_ge _ _).mpr h)
    refine lv_lload hx hb dJ9_floorMod_f86c9_13 (lv_at hl 0 rfl) ?_
    refine lv_lconst (v := 0) hx hb dJ9_floorMod_f86c9_15 (by decide) ?_
    refine W.lcmp hx hb dJ9_floorMod_f86c9_16 ?_
    refine lv_if_eq (tgt := 25) hx hb dJ9_floorMod_f86c9_17 (by decide) (fun kc_2 => ?_) (fun kc_2 => ?_)
    · skip
      have c_2 : (x1 - x1 / x2 * x2) = (0 : Int64) := (lg_cmp_eq _ _).mp kc_2
      refine lv_lload hx hb dJ9_floorMod_f86c9_25 (lv_at hl 0 rfl) ?_
      have e9 : (zf_fm x1 x2) = (x1 - x1 / x2 * x2) := by unfold zf_fm; rw [if_neg c_1, if_pos c_2]
      subst hQ
      exact W.lret (v := (x1 - x1 / x2 * x2)) hx hb hr (fun t ht hW => ⟨_, rfl, e9.symm, ht⟩) (fun q h => by cases h) dJ9_floorMod_f86c9_27
    · skip
      have c_2 : ¬ ((x1 - x1 / x2 * x2) = (0 : Int64)) := fun h => kc_2 ((lg_cmp_eq _ _).mpr h)
      refine lv_lload hx hb dJ9_floorMod_f86c9_20 (lv_at hl 0 rfl) ?_
      refine lv_lload_n hx hb dJ9_floorMod_f86c9_22 rfl (lv_at hl 2 rfl) ?_
      refine lv_ladd hx hb dJ9_floorMod_f86c9_23 ?_
      have e9 : (zf_fm x1 x2) = ((x1 - x1 / x2 * x2) + x2) := by unfold zf_fm; rw [if_neg c_1, if_neg c_2]
      subst hQ
      exact W.lret (v := ((x1 - x1 / x2 * x2) + x2)) hx hb hr (fun t ht hW => ⟨_, rfl, e9.symm, ht⟩) (fun q h => by cases h) dJ9_floorMod_f86c9_24
set_option maxHeartbeats 4000000 in
set_option maxRecDepth 100000 in
theorem c_X9_countOfSigns (l : Launch) (D : va_G) (cA : Nat → ClassId) (x1 : Int64)  : Met l yX9_countOfSigns wsX9_countOfSigns ({ frames := 1, cells := 0, slots := 0, locals := 25 }) (va_Pc [.long x1] (zPreR D (zty cA) ([]))) (vp_Si (fun x => x = (fc_cs x1))) 0 0 (fun _ => False) := by
  refine Met.ofW (cc := cX9_countOfSigns) (maxL := 6) (ret := (some .int)) (by decide) rfl ?_
  intro p e s m args below meth c s₁ B hml hv
  obtain ⟨rfl, hP, hK, hN⟩ := hv
  have hx := B.exec
  have hb := B.bytes
  have hr := B.returns
  have hts := atoms_spec (ws := wsX9_countOfSigns) B.pre
  have hown : s.vm.findClass RX9 = some m.cls := findClass_of_methodNamed B.named
  have hlocks := B.notSynchronized
  have hP : va_P D vwCl [] s.heap := hP
  have hl := lv_entry ([.long x1]) (n := 6) (Nat.le_of_ble_eq_true rfl)
  rw [lg_entry_eq]
  generalize (lg_sl ([.long x1]) ++ List.replicate (6 - (lg_sl ([.long x1])).length) Slot.unset).toArray = ls at hl ⊢
  have hl : lv_has ls 6 [(0, .long x1)] := hl
  refine z_genQ (fun Q hQ => ?_)
  refine lv_iconst (v := 0) hx hb dX9_countOfSigns_0 (by decide) ?_
  refine lv_istore_n (lv' := [(2, .int (0 : Int32)), (0, .long x1)]) hx hb dX9_countOfSigns_1 rfl hl (by decide) rfl (fun ls hl => ?_)
  refine lv_lload_n hx hb dX9_countOfSigns_2 rfl (lv_at hl 1 rfl) ?_
  refine lv_lstore_n (lv' := [(3, .long x1), (2, .int (0 : Int32)), (0, .long x1)]) hx hb dX9_countOfSigns_3 rfl hl (by decide) rfl (fun ls hl => ?_)
  refine lv_iconst (v := 0) hx hb dX9_countOfSigns_4 (by decide) ?_
  refine lv_istore (lv' := [(5, .int (0 : Int32)), (3, .long x1), (2, .int (0 : Int32)), (0, .long x1)]) hx hb dX9_countOfSigns_5 hl (by decide) rfl (fun ls hl => ?_)
  have L7 : ∀ (zn : Nat) (k : Nat) (zl : Int64), 8 - k < zn → (k ≤ 8) → (fc_c1 8 0 x1 = fc_c1 (8 - k) k zl) → ∀ (ls : Array Slot), lv_has ls 6 [(5, .int (nI k)), (3, .long zl), (2, .int (nI k)), (0, .long x1)] → W p l e (headSpec wsX9_countOfSigns ({ frames := 1, cells := 0, slots := 0, locals := 25 })).room s m (([.long x1] : List Value).toArray) below meth c s.heap [] 0 0 Q (F0 m 7 ls []) := by
    intro zn
    induction zn with
    | zero =>
      intro k zl hm
      exact absurd hm (Nat.not_lt_zero _)
    | succ zn ih =>
      intro k zl hm hk hL ls hl
      refine lv_iload hx hb dX9_countOfSigns_7 (lv_at hl 0 rfl) ?_
      refine lv_bipush (v := 8) hx hb dX9_countOfSigns_9 (by decide) ?_
      refine lv_icmp_ge (tgt := 57) hx hb dX9_countOfSigns_11 (by decide) (fun c_1 => ?_) (fun c_1 => ?_)
      · skip
        have ek8 : 8 ≤ k := (nI_leI (a := 8) (b := k) (by decide) (by omega)).mp c_1
        refine lv_lload_n hx hb dX9_countOfSigns_57 rfl (lv_at hl 1 rfl) ?_
        refine lv_lconst (v := 0) hx hb dX9_countOfSigns_58 (by decide) ?_
        refine W.lcmp hx hb dX9_countOfSigns_59 ?_
        refine lv_if_ne (tgt := 67) hx hb dX9_countOfSigns_60 (by decide) (fun kc_2 => ?_) (fun kc_2 => ?_)
        · skip
          have c_2 : ¬ (zl = (0 : Int64)) := fun h => kc_2 ((lg_cmp_eq _ _).mpr h)
          refine lv_iconst (v := 0) hx hb dX9_countOfSigns_67 (by decide) ?_
          have e9 : (fc_cs x1) = (0 : Int32) := by unfold fc_cs; rw [hL, fc_c1_z (Or.inl (by omega)), if_neg (show ¬ k = 9 by omega), if_neg c_2]
          subst hQ
          exact W.iret (v := (0 : Int32)) hx hb hr (fun t ht hW => ⟨_, rfl, e9.symm, ht⟩) (fun q h => by cases h) dX9_countOfSigns_68
        · skip
          have c_2 : zl = (0 : Int64) := (lg_cmp_eq _ _).mp kc_2
          refine lv_iload_n hx hb dX9_countOfSigns_63 rfl (lv_at hl 2 rfl) ?_
          refine lv_goto (tgt := 68) hx hb dX9_countOfSigns_64 (by decide) ?_
          have e9 : (fc_cs x1) = (nI k) := by unfold fc_cs; rw [hL, fc_c1_z (Or.inl (by omega)), if_neg (show ¬ k = 9 by omega), if_pos c_2]
          subst hQ
          exact W.iret (v := (nI k)) hx hb hr (fun t ht hW => ⟨_, rfl, e9.symm, ht⟩) (fun q h => by cases h) dX9_countOfSigns_68
      · skip
        have hkl : k < 8 := Nat.lt_of_not_le (fun h => c_1 (nI_le (a := 8) (b := k) h (by omega)))
        refine lv_lload_n hx hb dX9_countOfSigns_14 rfl (lv_at hl 1 rfl) ?_
        refine lv_ldc2 hx hb hown (hts (.constantLong RX9 304 (255)) (List.mem_of_getElem? (i := 1) rfl)) dX9_countOfSigns_15 ?_
        refine lv_land hx hb dX9_countOfSigns_18 ?_
        refine lv_lconst (v := 0) hx hb dX9_countOfSigns_19 (by decide) ?_
        refine W.lcmp hx hb dX9_countOfSigns_20 ?_
        refine lv_if_eq (tgt := 57) hx hb dX9_countOfSigns_21 (by decide) (fun kc_3 => ?_) (fun kc_3 => ?_)
        · skip
          have c_3 : (zl &&& (255 : Int64)) = (0 : Int64) := (lg_cmp_eq _ _).mp kc_3
          refine lv_lload_n hx hb dX9_countOfSigns_57 rfl (lv_at hl 1 rfl) ?_
          refine lv_lconst (v := 0) hx hb dX9_countOfSigns_58 (by decide) ?_
          refine W.lcmp hx hb dX9_countOfSigns_59 ?_
          refine lv_if_ne (tgt := 67) hx hb dX9_countOfSigns_60 (by decide) (fun kc_4 => ?_) (fun kc_4 => ?_)
          · skip
            have c_4 : ¬ (zl = (0 : Int64)) := fun h => kc_4 ((lg_cmp_eq _ _).mpr h)
            refine lv_iconst (v := 0) hx hb dX9_countOfSigns_67 (by decide) ?_
            have e9 : (fc_cs x1) = (0 : Int32) := by unfold fc_cs; rw [hL, fc_c1_z (Or.inr c_3), if_neg (show ¬ k = 9 by omega), if_neg c_4]
            subst hQ
            exact W.iret (v := (0 : Int32)) hx hb hr (fun t ht hW => ⟨_, rfl, e9.symm, ht⟩) (fun q h => by cases h) dX9_countOfSigns_68
          · skip
            have c_4 : zl = (0 : Int64) := (lg_cmp_eq _ _).mp kc_4
            refine lv_iload_n hx hb dX9_countOfSigns_63 rfl (lv_at hl 2 rfl) ?_
            refine lv_goto (tgt := 68) hx hb dX9_countOfSigns_64 (by decide) ?_
            have e9 : (fc_cs x1) = (nI k) := by unfold fc_cs; rw [hL, fc_c1_z (Or.inr c_3), if_neg (show ¬ k = 9 by omega), if_pos c_4]
            subst hQ
            exact W.iret (v := (nI k)) hx hb hr (fun t ht hW => ⟨_, rfl, e9.symm, ht⟩) (fun q h => by cases h) dX9_countOfSigns_68
        · skip
          have c_3 : ¬ ((zl &&& (255 : Int64)) = (0 : Int64)) := fun h => kc_3 ((lg_cmp_eq _ _).mpr h)
          refine lv_lload_n hx hb dX9_countOfSigns_24 rfl (lv_at hl 1 rfl) ?_
          refine lv_ldc2 hx hb hown (hts (.constantLong RX9 304 (255)) (List.mem_of_getElem? (i := 1) rfl)) dX9_countOfSigns_25 ?_
          refine lv_land hx hb dX9_countOfSigns_28 ?_
          refine lv_ldc2 hx hb hown (hts (.constantLong RX9 347 (33)) (List.mem_of_getElem? (i := 2) rfl)) dX9_countOfSigns_29 ?_
          refine lv_ldc2 hx hb hown (hts (.constantLong RX9 349 (126)) (List.mem_of_getElem? (i := 3) rfl)) dX9_countOfSigns_32 ?_
          refine z_Ri (va_runS (As := [.long (zl &&& (255 : Int64)), .long (33 : Int64), .long (126 : Int64)]) (rest := []) ⟨hx, hb, hml, hown, hts⟩ (c_X9_isBetween l D cA  (zl &&& (255 : Int64)) (33 : Int64) (126 : Int64)) (va_cwS 3 hts gX9_countOfSigns_X9_isBetween rfl rfl rfl (by decide +kernel) ⟨Nat.le_of_ble_eq_true rfl, Nat.le_of_ble_eq_true rfl⟩) (zqSR0 hK hN) rfl rfl hl.1 rfl (lv_room (Nat.le_of_ble_eq_true rfl)) dX9_countOfSigns_35 ⟨Nat.le_of_ble_eq_true rfl, Nat.le_of_ble_eq_true rfl⟩) ?_
          refine lv_if_ne (tgt := 43) hx hb dX9_countOfSigns_38 (by decide) (fun c_5 => ?_) (fun c_5 => ?_)
          · skip
            refine lv_iinc (v := (nI (k + 1))) (lv' := [(2, .int (nI (k + 1))), (5, .int (nI k)), (3, .long zl), (0, .long x1)]) hx hb dX9_countOfSigns_43 hl (k := 2) rfl (nI_1 k) (by decide) rfl (fun ls hl => ?_)
            refine lv_lload_n hx hb dX9_countOfSigns_46 rfl (lv_at hl 2 rfl) ?_
            refine lv_bipush (v := 8) hx hb dX9_countOfSigns_47 (by decide) ?_
            refine lv_lushr hx hb dX9_countOfSigns_49 rfl ?_
            refine lv_lstore_n (lv' := [(3, .long (zus zl)), (2, .int (nI (k + 1))), (5, .int (nI k)), (0, .long x1)]) hx hb dX9_countOfSigns_50 rfl hl (by decide) rfl (fun ls hl => ?_)
            refine lv_iinc (v := (nI (k + 1))) (lv' := [(5, .int (nI (k + 1))), (3, .long (zus zl)), (2, .int (nI (k + 1))), (0, .long x1)]) hx hb dX9_countOfSigns_51 hl (k := 2) rfl (nI_1 k) (by decide) rfl (fun ls hl => ?_)
            refine lv_goto (tgt := 7) hx hb dX9_countOfSigns_54 (by decide) ?_
            exact ih (k + 1) (zus zl) (by omega) (by omega) (fc_c1_s hkl c_3 c_5 hL) ls (lv_sub hl [0, 1, 2, 3] rfl)
          · skip
            refine lv_iconst (v := 0) hx hb dX9_countOfSigns_41 (by decide) ?_
            have e9 : (fc_cs x1) = (0 : Int32) := by unfold fc_cs; rw [hL, fc_c1_e (by omega) c_3 c_5, if_pos rfl]
            subst hQ
            exact W.iret (v := (0 : Int32)) hx hb hr (fun t ht hW => ⟨_, rfl, e9.symm, ht⟩) (fun q h => by cases h) dX9_countOfSigns_42
  exact L7 (8 + 1) (0) (x1) (by omega) (Nat.zero_le _) rfl ls (lv_sub hl [0, 1, 2, 3] rfl)
