/-! the other side's pad -/
def zus (x : Int64) : Int64 := (x.toUInt64 >>> ((8 : Int32).toInt64.toUInt64 &&& Int64.toUInt64 63)).toInt64
def fm_p1 : Nat → Nat → Int64 → Nat × Int64
  | 0, k, x => (k, x)
  | d + 1, k, x => if x &&& 255 = 0 then (k, x) else if fm_in (x &&& 255).toInt32 33 126 = 0 then (9, x) else fm_p1 d (k + 1) (zus x)
theorem fm_p1_s {k : Nat} {x0 x : Int64} (h : k < 8) (c1 : ¬ x &&& 255 = 0) (c2 : ¬ fm_in (x &&& 255).toInt32 33 126 = 0) (e : fm_p1 8 0 x0 = fm_p1 (8 - k) k x) : fm_p1 8 0 x0 = fm_p1 (8 - (k + 1)) (k + 1) (zus x) := by
  rw [e, show 8 - k = (8 - (k + 1)) + 1 by omega]
  show (if x &&& 255 = 0 then _ else _) = _
  rw [if_neg c1, if_neg c2]
theorem fm_p1_e {d k : Nat} {x : Int64} (h : 0 < d) (c1 : ¬ x &&& 255 = 0) (c2 : fm_in (x &&& 255).toInt32 33 126 = 0) : fm_p1 d k x = (9, x) := by
  obtain ⟨j, rfl⟩ : ∃ j, d = j + 1 := ⟨d - 1, by omega⟩
  show (if x &&& 255 = 0 then _ else _) = _
  rw [if_neg c1, if_pos c2]
theorem fm_p1_z {d k : Nat} {x : Int64} (c1 : x &&& 255 = 0) : fm_p1 d k x = (k, x) := by
  cases d
  · rfl
  · show (if x &&& 255 = 0 then _ else _) = _
    rw [if_pos c1]
def fm_sg (x : Int64) (n : Nat) : Nat → Int32 := fun k => ((x >>> ((8 * (nI n - 1 - nI k)).toInt64 &&& 63)) &&& 255).toInt32
def fm_pput (v : vX10) (f : Nat → Int32) (n : Int32) : vX10 := (v.1, v.2.1, v.2.2.1, v.2.2.2.1, v.2.2.2.2.1, v.2.2.2.2.2.1, v.2.2.2.2.2.2.1, v.2.2.2.2.2.2.2.1, v.2.2.2.2.2.2.2.2.1, v.2.2.2.2.2.2.2.2.2.1, f, n, v.2.2.2.2.2.2.2.2.2.2.2.2)
def fm_put (q0 : Nat) (v : vX10) (x : Int64) : Int32 × vX10 :=
  if (fm_p1 8 0 x).1 = 9 then (-2, v) else if (fm_p1 8 0 x).1 = 0 then (-2, v) else if (fm_p1 8 0 x).2 = 0 then
    (if q0 + (fm_p1 8 0 x).1 ≤ 80 then (nI (q0 + (fm_p1 8 0 x).1), fm_pput v (zpl q0 (fm_p1 8 0 x).1 v.2.2.2.2.2.2.2.2.2.2.1 (fm_sg x (fm_p1 8 0 x).1)) (nI (q0 + (fm_p1 8 0 x).1))) else (-4, v))
  else (-2, v)
abbrev fq (v : vX10) : Int32 := v.2.2.2.2.2.2.2.2.2.2.2.1
abbrev fp (v : vX10) : Nat → Int32 := v.2.2.2.2.2.2.2.2.2.2.1
abbrev fs (v : vX10) : Int32 := v.2.2.2.2.2.2.2.2.2.2.2.2.1
abbrev fw (v : vX10) : Int32 := v.2.2.2.2.2.2.2.2.2.2.2.2.2.1
abbrev frd (v : vX10) : Nat → Int32 := v.2.2.2.2.2.2.2.2.2.2.2.2.2.2.1
abbrev frm (v : vX10) : Int32 := v.2.2.2.2.2.2.2.2.2.2.2.2.2.2.2
def fm_sp (v : vX10) (s w : Int32) (r : Nat → Int32) (m : Int32) : vX10 := (v.1, v.2.1, v.2.2.1, v.2.2.2.1, v.2.2.2.2.1, v.2.2.2.2.2.1, v.2.2.2.2.2.2.1, v.2.2.2.2.2.2.2.1, v.2.2.2.2.2.2.2.2.1, v.2.2.2.2.2.2.2.2.2.1, fp v, fq v, s, w, r, m)
def fm_nx (f : Nat → Int32) (q s : Int32) : Int32 := if q ≤ s then 0 else f s.toNatClampNeg
/-- need: is it wrong then, where does it stand then -/
def fm_nw (f : Nat → Int32) (q s w c : Int32) : Int32 := if w = 0 then (if fm_nx f q s = c then 0 else 1) else 1
def fm_ns (f : Nat → Int32) (q s w c : Int32) : Int32 := if fm_nw f q s w c = 0 then s + 1 else s + 0
def fm_need (v : vX10) (c : Int32) : vX10 := fm_sp v (fm_ns (fp v) (fq v) (fs v) (fw v) c) (fm_nw (fp v) (fq v) (fs v) (fw v) c) (frd v) (frm v)
def fm_dig (f : Nat → Int32) (q hi : Int32) : Nat → Int32 → Int32 → Int32 × Int32
  | 0, x, s => (x, s)
  | d + 1, x, s => if x ≤ 0 then (x, s) else if fm_in (fm_nx f q s) 48 57 = 0 then (x, s) else if hi < 10 * x + fm_nx f q s - 48 then (x, s) else fm_dig f q hi d (10 * x + fm_nx f q s - 48) (s + 1)
def fm_tw (f : Nat → Int32) (q s w lo : Int32) : Int32 := if w = 0 then (if fm_in (fm_nx f q s) (48 + lo) 57 = 0 then 1 else 0) else 1
def fm_tnum (v : vX10) (lo hi : Int32) : Int32 × vX10 :=
  if fm_tw (fp v) (fq v) (fs v) (fw v) lo = 0 then
    ((fm_dig (fp v) (fq v) hi 81 (fm_nx (fp v) (fq v) (fs v) - 48) (fs v + 1)).1, fm_sp v (fm_dig (fp v) (fq v) hi 81 (fm_nx (fp v) (fq v) (fs v) - 48) (fs v + 1)).2 0 (frd v) (frm v))
  else (0, fm_sp v (fs v) 1 (frd v) (frm v))
theorem z_ix80 {q s : Int32} {n : Nat} (hq : q = nI n) (h8 : n ≤ 80) (h0 : 0 ≤ s.toInt) (c : ¬ q ≤ s) : ∃ k : Nat, k < 80 ∧ s = nI k := by
  have h1 : ¬ q.toInt ≤ s.toInt := fun h => c (Int32.le_iff_toInt_le.mpr h)
  rw [hq, nI_toInt (by omega)] at h1
  obtain ⟨k, hk, e⟩ := z_nIof (x := s) (n := n) h0 (by omega)
  exact ⟨k, by omega, e⟩

set_option maxHeartbeats 4000000 in
set_option maxRecDepth 100000 in
theorem c_X10_put (l : Launch) (D : va_G) (cA : Nat → ClassId) (h0 h1 h2 h3 h4 h5 h6 h7 h8 h9 h10 h11 : Nat) (sz : Nat) (q0 : Nat) (v : vX10) (x1 : Int64) (hq0 : v.2.2.2.2.2.2.2.2.2.2.2.1 = nI q0) (hq8 : q0 ≤ 80) : Met l yX10_put wsX10_put ({ frames := 1, cells := 0, slots := 0, locals := 22 }) (va_Pc [.ref h0, .long x1] (zPre D (zty cA) (wX10 cA h0 h1 h2 h3 h4 h5 h6 h7 h8 h9 h10 h11 v) sz)) (va_Qi (fun (x : Int32) (u : vX10) => (x, u) = (fm_put q0 v x1)) (fun u => zPost D (zty cA) (va_A (wX10 cA h0 h1 h2 h3 h4 h5 h6 h7 h8 h9 h10 h11 v) sz) (wX10 cA h0 h1 h2 h3 h4 h5 h6 h7 h8 h9 h10 h11 u)) (va_A (wX10 cA h0 h1 h2 h3 h4 h5 h6 h7 h8 h9 h10 h11 v) sz)) 0 0 (va_A (wX10 cA h0 h1 h2 h3 h4 h5 h6 h7 h8 h9 h10 h11 v) sz) := by
  refine Met.ofW (cc := cX10_put) (maxL := 7) (ret := (some .int)) (by decide) rfl ?_
  intro p e s m args below meth c s₁ B hml hv
  obtain ⟨rfl, hsz, hP, hK, hD0, hE⟩ := hv
  have hx := B.exec
  have hb := B.bytes
  have hr := B.returns
  have hts := atoms_spec (ws := wsX10_put) B.pre
  have hown : s.vm.findClass RX10 = some m.cls := findClass_of_methodNamed B.named
  have hlocks := B.notSynchronized
  have hinX10 : ∀ w ∈ u_ws RX10 TX10 16, w ∈ wsX10_put := fun w h => List.mem_cons_of_mem _ (List.mem_append_right _ h)
  subst hsz
  have hD := hD0.self (sz := s.heap.size)
  generalize hAe : va_A (wX10 cA h0 h1 h2 h3 h4 h5 h6 h7 h8 h9 h10 h11 v) s.heap.size = A at hD hE ⊢
  have hA : ∀ q : Nat, s.heap.size ≤ q → A q := fun q h => by rw [← hAe]; exact Or.inr h
  have hS : va_S A s.heap s.heap [] := va_S.rf
  have hN : zN s := hE.1
  have hP : va_P D vwCl [(h0, .inr (10, [.ref h1, .ref h2, .ref h3, .ref h4, .ref h5, .ref h6, .int v.2.2.2.2.2.2.1, .ref h7, .ref h8, .ref h9, .ref h10, .int v.2.2.2.2.2.2.2.2.2.2.2.1, .int v.2.2.2.2.2.2.2.2.2.2.2.2.1, .int v.2.2.2.2.2.2.2.2.2.2.2.2.2.1, .ref h11, .int v.2.2.2.2.2.2.2.2.2.2.2.2.2.2.2])), (h1, .inl ((cA 1), 85, .inl v.1)), (h2, .inl ((cA 0), 9, .inr (.inl v.2.1))), (h3, .inl ((cA 1), 85, .inl v.2.2.1)), (h4, .inl ((cA 0), 9, .inr (.inl v.2.2.2.1))), (h5, .inl ((cA 1), 510, .inl v.2.2.2.2.1)), (h6, .inl ((cA 0), 54, .inr (.inl v.2.2.2.2.2.1))), (h7, .inl ((cA 1), 170, .inl v.2.2.2.2.2.2.2.1)), (h8, .inl ((cA 0), 18, .inr (.inl v.2.2.2.2.2.2.2.2.1))), (h9, .inl ((cA 2), 2, .inl v.2.2.2.2.2.2.2.2.2.1)), (h10, .inl ((cA 1), 80, .inl v.2.2.2.2.2.2.2.2.2.2.1)), (h11, .inl ((cA 1), 60, .inl v.2.2.2.2.2.2.2.2.2.2.2.2.2.2.1))] s.heap := hP
  have hD : va_D A [(h0, .inr (10, [.ref h1, .ref h2, .ref h3, .ref h4, .ref h5, .ref h6, .int v.2.2.2.2.2.2.1, .ref h7, .ref h8, .ref h9, .ref h10, .int v.2.2.2.2.2.2.2.2.2.2.2.1, .int v.2.2.2.2.2.2.2.2.2.2.2.2.1, .int v.2.2.2.2.2.2.2.2.2.2.2.2.2.1, .ref h11, .int v.2.2.2.2.2.2.2.2.2.2.2.2.2.2.2])), (h1, .inl ((cA 1), 85, .inl v.1)), (h2, .inl ((cA 0), 9, .inr (.inl v.2.1))), (h3, .inl ((cA 1), 85, .inl v.2.2.1)), (h4, .inl ((cA 0), 9, .inr (.inl v.2.2.2.1))), (h5, .inl ((cA 1), 510, .inl v.2.2.2.2.1)), (h6, .inl ((cA 0), 54, .inr (.inl v.2.2.2.2.2.1))), (h7, .inl ((cA 1), 170, .inl v.2.2.2.2.2.2.2.1)), (h8, .inl ((cA 0), 18, .inr (.inl v.2.2.2.2.2.2.2.2.1))), (h9, .inl ((cA 2), 2, .inl v.2.2.2.2.2.2.2.2.2.1)), (h10, .inl ((cA 1), 80, .inl v.2.2.2.2.2.2.2.2.2.2.1)), (h11, .inl ((cA 1), 60, .inl v.2.2.2.2.2.2.2.2.2.2.2.2.2.2.1))] := hD
  have hl := lv_entry ([.ref h0, .long x1]) (n := 7) (Nat.le_of_ble_eq_true rfl)
  rw [lg_entry_eq]
  generalize (lg_sl ([.ref h0, .long x1]) ++ List.replicate (7 - (lg_sl ([.ref h0, .long x1])).length) Slot.unset).toArray = ls at hl ⊢
  have hl : lv_has ls 7 [(0, .ref h0), (1, .long x1)] := hl
  refine z_genQ (fun Q hQ => ?_)
  refine lv_iconst (v := 0) hx hb dX10_put_0 (by decide) ?_
  refine lv_istore_n (lv' := [(3, .int (0 : Int32)), (0, .ref h0), (1, .long x1)]) hx hb dX10_put_1 rfl hl (by decide) rfl (fun ls hl => ?_)
  refine lv_lload_n hx hb dX10_put_2 rfl (lv_at hl 2 rfl) ?_
  refine lv_lstore (lv' := [(4, .long x1), (3, .int (0 : Int32)), (0, .ref h0), (1, .long x1)]) hx hb dX10_put_3 hl (by decide) rfl (fun ls hl => ?_)
  have L5 : ∀ (zn : Nat) (k : Nat) (zl : Int64), 8 - k < zn → (k ≤ 8) → (fm_p1 8 0 x1 = fm_p1 (8 - k) k zl) → ∀ (H : Heap) (locs : List Loc), va_P D vwCl [(h0, .inr (10, [.ref h1, .ref h2, .ref h3, .ref h4, .ref h5, .ref h6, .int v.2.2.2.2.2.2.1, .ref h7, .ref h8, .ref h9, .ref h10, .int v.2.2.2.2.2.2.2.2.2.2.2.1, .int v.2.2.2.2.2.2.2.2.2.2.2.2.1, .int v.2.2.2.2.2.2.2.2.2.2.2.2.2.1, .ref h11, .int v.2.2.2.2.2.2.2.2.2.2.2.2.2.2.2])), (h1, .inl ((cA 1), 85, .inl v.1)), (h2, .inl ((cA 0), 9, .inr (.inl v.2.1))), (h3, .inl ((cA 1), 85, .inl v.2.2.1)), (h4, .inl ((cA 0), 9, .inr (.inl v.2.2.2.1))), (h5, .inl ((cA 1), 510, .inl v.2.2.2.2.1)), (h6, .inl ((cA 0), 54, .inr (.inl v.2.2.2.2.2.1))), (h7, .inl ((cA 1), 170, .inl v.2.2.2.2.2.2.2.1)), (h8, .inl ((cA 0), 18, .inr (.inl v.2.2.2.2.2.2.2.2.1))), (h9, .inl ((cA 2), 2, .inl v.2.2.2.2.2.2.2.2.2.1)), (h10, .inl ((cA 1), 80, .inl v.2.2.2.2.2.2.2.2.2.2.1)), (h11, .inl ((cA 1), 60, .inl v.2.2.2.2.2.2.2.2.2.2.2.2.2.2.1))] H → va_D A [(h0, .inr (10, [.ref h1, .ref h2, .ref h3, .ref h4, .ref h5, .ref h6, .int v.2.2.2.2.2.2.1, .ref h7, .ref h8, .ref h9, .ref h10, .int v.2.2.2.2.2.2.2.2.2.2.2.1, .int v.2.2.2.2.2.2.2.2.2.2.2.2.1, .int v.2.2.2.2.2.2.2.2.2.2.2.2.2.1, .ref h11, .int v.2.2.2.2.2.2.2.2.2.2.2.2.2.2.2])), (h1, .inl ((cA 1), 85, .inl v.1)), (h2, .inl ((cA 0), 9, .inr (.inl v.2.1))), (h3, .inl ((cA 1), 85, .inl v.2.2.1)), (h4, .inl ((cA 0), 9, .inr (.inl v.2.2.2.1))), (h5, .inl ((cA 1), 510, .inl v.2.2.2.2.1)), (h6, .inl ((cA 0), 54, .inr (.inl v.2.2.2.2.2.1))), (h7, .inl ((cA 1), 170, .inl v.2.2.2.2.2.2.2.1)), (h8, .inl ((cA 0), 18, .inr (.inl v.2.2.2.2.2.2.2.2.1))), (h9, .inl ((cA 2), 2, .inl v.2.2.2.2.2.2.2.2.2.1)), (h10, .inl ((cA 1), 80, .inl v.2.2.2.2.2.2.2.2.2.2.1)), (h11, .inl ((cA 1), 60, .inl v.2.2.2.2.2.2.2.2.2.2.2.2.2.2.1))] → va_S A s.heap H locs → ∀ (ls : Array Slot), lv_has ls 7 [(4, .long zl), (3, .int (nI k)), (0, .ref h0), (1, .long x1)] → W p l e (headSpec wsX10_put ({ frames := 1, cells := 0, slots := 0, locals := 22 })).room s m (([.ref h0, .long x1] : List Value).toArray) below meth c H locs 0 0 Q (F0 m 5 ls []) := by
    intro zn
    induction zn with
    | zero =>
      intro k zl hm
      exact absurd hm (Nat.not_lt_zero _)
    | succ zn ih =>
      intro k zl hm hk hL H locs hP hD hS ls hl
      refine lv_iload_n hx hb dX10_put_5 rfl (lv_at hl 1 rfl) ?_
      refine lv_bipush (v := 8) hx hb dX10_put_6 (by decide) ?_
      refine lv_icmp_ge (tgt := 55) hx hb dX10_put_8 (by decide) (fun c_1 => ?_) (fun c_1 => ?_)
      · skip
        have ek8 : k = 8 := Nat.le_antisymm hk ((nI_leI (a := 8) (b := k) (by decide) (by omega)).mp c_1)
        have hz : fm_p1 8 0 x1 = (k, zl) := by rw [hL, ek8]; rfl
        refine lv_iload_n hx hb dX10_put_55 rfl (lv_at hl 1 rfl) ?_
        refine lv_if_eq (tgt := 66) hx hb dX10_put_56 (by decide) (fun c_2 => ?_) (fun c_2 => ?_)
        · skip
          refine lv_bipush (v := -2) hx hb dX10_put_66 (by decide) ?_
          have e9 : (fm_put q0 v x1) = ((-2 : Int32), v) := by have ek : k = 0 := (nI_eq (a := k) (b := 0) (by omega) (by decide)).mp c_2; unfold fm_put; rw [hz]; simp only [ek] <;> rfl
          have hP9 : va_P D vwCl (wX10 cA h0 h1 h2 h3 h4 h5 h6 h7 h8 h9 h10 h11 (v : vX10)) H := hP
          have hD9 : va_D A (wX10 cA h0 h1 h2 h3 h4 h5 h6 h7 h8 h9 h10 h11 (v : vX10)) := hD
          subst hQ
          exact W.iret (v := (-2 : Int32)) hx hb hr (fun t ht hW => ⟨⟨(-2 : Int32), v, rfl, e9.symm, ⟨by rw [ht]; exact hP9, va_K.moved hW.alike hK, hD9⟩⟩, hS.F ht⟩) hS.2.2 dX10_put_68
        · skip
          refine lv_lload hx hb dX10_put_59 (lv_at hl 0 rfl) ?_
          refine lv_lconst (v := 0) hx hb dX10_put_61 (by decide) ?_
          refine W.lcmp hx hb dX10_put_62 ?_
          refine lv_if_eq (tgt := 69) hx hb dX10_put_63 (by decide) (fun kc_3 => ?_) (fun kc_3 => ?_)
          · skip
            have c_3 : zl = (0 : Int64) := (lg_cmp_eq _ _).mp kc_3
            refine lv_aload_n hx hb dX10_put_69 rfl (lv_at hl 2 rfl) ?_
            refine va_get (D := D) (ci := 10) (v := .int v.2.2.2.2.2.2.2.2.2.2.2.1) (C := RX10) (T := TX10) (N := 16) hx hb hts hinX10 hown hK hP 0 rfl rfl 11 (by decide) (hts (.fieldLink RX10 177 "GyroTrainerModel" "padMany" "I") (List.mem_of_getElem? (i := 2) rfl)) (fun _ h9 => h9) rfl dX10_put_70 ?_
            refine lv_iload_n hx hb dX10_put_73 rfl (lv_at hl 1 rfl) ?_
            refine lv_iadd hx hb dX10_put_74 ?_
            refine lv_bipush (v := 80) hx hb dX10_put_75 (by decide) ?_
            refine lv_icmp_le (tgt := 83) hx hb dX10_put_77 (by decide) (fun c_4 => ?_) (fun c_4 => ?_)
            · skip
              have hle : q0 + k ≤ 80 := by rw [hq0, show nI q0 + nI k = nI (q0 + k) from nI_add q0 k] at c_4; exact (nI_leI (a := q0 + k) (b := 80) (by omega) (by decide)).mp c_4
              refine lv_iconst (v := 0) hx hb dX10_put_83 (by decide) ?_
              refine lv_istore (lv' := [(6, .int (0 : Int32)), (4, .long zl), (3, .int (nI k)), (0, .ref h0), (1, .long x1)]) hx hb dX10_put_84 hl (by decide) rfl (fun ls hl => ?_)
              have L86 : ∀ (zn : Nat) (j : Nat), k - j < zn → (j ≤ k) → ∀ (H : Heap) (locs : List Loc), va_P D vwCl [(h0, .inr (10, [.ref h1, .ref h2, .ref h3, .ref h4, .ref h5, .ref h6, .int v.2.2.2.2.2.2.1, .ref h7, .ref h8, .ref h9, .ref h10, .int v.2.2.2.2.2.2.2.2.2.2.2.1, .int v.2.2.2.2.2.2.2.2.2.2.2.2.1, .int v.2.2.2.2.2.2.2.2.2.2.2.2.2.1, .ref h11, .int v.2.2.2.2.2.2.2.2.2.2.2.2.2.2.2])), (h1, .inl ((cA 1), 85, .inl v.1)), (h2, .inl ((cA 0), 9, .inr (.inl v.2.1))), (h3, .inl ((cA 1), 85, .inl v.2.2.1)), (h4, .inl ((cA 0), 9, .inr (.inl v.2.2.2.1))), (h5, .inl ((cA 1), 510, .inl v.2.2.2.2.1)), (h6, .inl ((cA 0), 54, .inr (.inl v.2.2.2.2.2.1))), (h7, .inl ((cA 1), 170, .inl v.2.2.2.2.2.2.2.1)), (h8, .inl ((cA 0), 18, .inr (.inl v.2.2.2.2.2.2.2.2.1))), (h9, .inl ((cA 2), 2, .inl v.2.2.2.2.2.2.2.2.2.1)), (h10, .inl ((cA 1), 80, .inl (zpl q0 j v.2.2.2.2.2.2.2.2.2.2.1 (fm_sg x1 k)))), (h11, .inl ((cA 1), 60, .inl v.2.2.2.2.2.2.2.2.2.2.2.2.2.2.1))] H → va_D A [(h0, .inr (10, [.ref h1, .ref h2, .ref h3, .ref h4, .ref h5, .ref h6, .int v.2.2.2.2.2.2.1, .ref h7, .ref h8, .ref h9, .ref h10, .int v.2.2.2.2.2.2.2.2.2.2.2.1, .int v.2.2.2.2.2.2.2.2.2.2.2.2.1, .int v.2.2.2.2.2.2.2.2.2.2.2.2.2.1, .ref h11, .int v.2.2.2.2.2.2.2.2.2.2.2.2.2.2.2])), (h1, .inl ((cA 1), 85, .inl v.1)), (h2, .inl ((cA 0), 9, .inr (.inl v.2.1))), (h3, .inl ((cA 1), 85, .inl v.2.2.1)), (h4, .inl ((cA 0), 9, .inr (.inl v.2.2.2.1))), (h5, .inl ((cA 1), 510, .inl v.2.2.2.2.1)), (h6, .inl ((cA 0), 54, .inr (.inl v.2.2.2.2.2.1))), (h7, .inl ((cA 1), 170, .inl v.2.2.2.2.2.2.2.1)), (h8, .inl ((cA 0), 18, .inr (.inl v.2.2.2.2.2.2.2.2.1))), (h9, .inl ((cA 2), 2, .inl v.2.2.2.2.2.2.2.2.2.1)), (h10, .inl ((cA 1), 80, .inl (zpl q0 j v.2.2.2.2.2.2.2.2.2.2.1 (fm_sg x1 k)))), (h11, .inl ((cA 1), 60, .inl v.2.2.2.2.2.2.2.2.2.2.2.2.2.2.1))] → va_S A s.heap H locs → ∀ (ls : Array Slot), lv_has ls 7 [(6, .int (nI j)), (4, .long zl), (3, .int (nI k)), (0, .ref h0), (1, .long x1)] → W p l e (headSpec wsX10_put ({ frames := 1, cells := 0, slots := 0, locals := 22 })).room s m (([.ref h0, .long x1] : List Value).toArray) below meth c H locs 0 0 Q (F0 m 86 ls []) := by
                intro zn
                induction zn with
                | zero =>
                  intro j hm
                  exact absurd hm (Nat.not_lt_zero _)
                | succ zn ih =>
                  intro j hm hj H locs hP hD hS ls hl
                  refine lv_iload hx hb dX10_put_86 (lv_at hl 0 rfl) ?_
                  refine lv_iload_n hx hb dX10_put_88 rfl (lv_at hl 2 rfl) ?_
                  refine lv_icmp_ge (tgt := 126) hx hb dX10_put_89 (by decide) (fun c_5 => ?_) (fun c_5 => ?_)
                  · skip
                    have ejk : j = k := Nat.le_antisymm hj ((nI_leI (a := k) (b := j) (by omega) (by omega)).mp c_5)
                    subst ejk
                    refine lv_aload_n hx hb dX10_put_126 rfl (lv_at hl 3 rfl) ?_
                    refine lv_dup hx hb dX10_put_127 rfl ?_
                    refine va_get (D := D) (ci := 10) (v := .int v.2.2.2.2.2.2.2.2.2.2.2.1) (C := RX10) (T := TX10) (N := 16) hx hb hts hinX10 hown hK hP 0 rfl rfl 11 (by decide) (hts (.fieldLink RX10 177 "GyroTrainerModel" "padMany" "I") (List.mem_of_getElem? (i := 2) rfl)) (fun _ h9 => h9) rfl dX10_put_128 ?_
                    refine lv_iload_n hx hb dX10_put_131 rfl (lv_at hl 2 rfl) ?_
                    refine lv_iadd hx hb dX10_put_132 ?_
                    rw [show (v.2.2.2.2.2.2.2.2.2.2.2.1 + (nI j)) = nI (q0 + j) from by rw [hq0]; exact nI_add q0 j]
                    refine va_put (D := D) (ci := 10) (v := .int (nI (q0 + j))) (ty := .int) (C := RX10) (T := TX10) (N := 16) hx hb hts hinX10 tyX10 tyX10_ok nmX10 hown hK hP hD hS 0 rfl rfl 11 (by decide) (hts (.fieldLink RX10 177 "GyroTrainerModel" "padMany" "I") (List.mem_of_getElem? (i := 2) rfl)) (fun _ h9 => h9) rfl (by decide +kernel) rfl rfl (Nat.le_of_ble_eq_true rfl) dX10_put_133 (fun H locs hP hD hS => ?_)
                    have hP : va_P D vwCl [(h0, .inr (10, [.ref h1, .ref h2, .ref h3, .ref h4, .ref h5, .ref h6, .int v.2.2.2.2.2.2.1, .ref h7, .ref h8, .ref h9, .ref h10, .int (nI (q0 + j)), .int v.2.2.2.2.2.2.2.2.2.2.2.2.1, .int v.2.2.2.2.2.2.2.2.2.2.2.2.2.1, .ref h11, .int v.2.2.2.2.2.2.2.2.2.2.2.2.2.2.2])), (h1, .inl ((cA 1), 85, .inl v.1)), (h2, .inl ((cA 0), 9, .inr (.inl v.2.1))), (h3, .inl ((cA 1), 85, .inl v.2.2.1)), (h4, .inl ((cA 0), 9, .inr (.inl v.2.2.2.1))), (h5, .inl ((cA 1), 510, .inl v.2.2.2.2.1)), (h6, .inl ((cA 0), 54, .inr (.inl v.2.2.2.2.2.1))), (h7, .inl ((cA 1), 170, .inl v.2.2.2.2.2.2.2.1)), (h8, .inl ((cA 0), 18, .inr (.inl v.2.2.2.2.2.2.2.2.1))), (h9, .inl ((cA 2), 2, .inl v.2.2.2.2.2.2.2.2.2.1)), (h10, .inl ((cA 1), 80, .inl (zpl q0 j v.2.2.2.2.2.2.2.2.2.2.1 (fm_sg x1 j)))), (h11, .inl ((cA 1), 60, .inl v.2.2.2.2.2.2.2.2.2.2.2.2.2.2.1))] H := hP
                    have hD : va_D A [(h0, .inr (10, [.ref h1, .ref h2, .ref h3, .ref h4, .ref h5, .ref h6, .int v.2.2.2.2.2.2.1, .ref h7, .ref h8, .ref h9, .ref h10, .int (nI (q0 + j)), .int v.2.2.2.2.2.2.2.2.2.2.2.2.1, .int v.2.2.2.2.2.2.2.2.2.2.2.2.2.1, .ref h11, .int v.2.2.2.2.2.2.2.2.2.2.2.2.2.2.2])), (h1, .inl ((cA 1), 85, .inl v.1)), (h2, .inl ((cA 0), 9, .inr (.inl v.2.1))), (h3, .inl ((cA 1), 85, .inl v.2.2.1)), (h4, .inl ((cA 0), 9, .inr (.inl v.2.2.2.1))), (h5, .inl ((cA 1), 510, .inl v.2.2.2.2.1)), (h6, .inl ((cA 0), 54, .inr (.inl v.2.2.2.2.2.1))), (h7, .inl ((cA 1), 170, .inl v.2.2.2.2.2.2.2.1)), (h8, .inl ((cA 0), 18, .inr (.inl v.2.2.2.2.2.2.2.2.1))), (h9, .inl ((cA 2), 2, .inl v.2.2.2.2.2.2.2.2.2.1)), (h10, .inl ((cA 1), 80, .inl (zpl q0 j v.2.2.2.2.2.2.2.2.2.2.1 (fm_sg x1 j)))), (h11, .inl ((cA 1), 60, .inl v.2.2.2.2.2.2.2.2.2.2.2.2.2.2.1))] := hD
                    refine lv_aload_n hx hb dX10_put_136 rfl (lv_at hl 3 rfl) ?_
                    refine va_get (D := D) (ci := 10) (v := .int (nI (q0 + j))) (C := RX10) (T := TX10) (N := 16) hx hb hts hinX10 hown hK hP 0 rfl rfl 11 (by decide) (hts (.fieldLink RX10 177 "GyroTrainerModel" "padMany" "I") (List.mem_of_getElem? (i := 2) rfl)) (fun _ h9 => h9) rfl dX10_put_137 ?_
                    have e9 : (fm_put q0 v x1) = ((nI (q0 + j)), (v.1, v.2.1, v.2.2.1, v.2.2.2.1, v.2.2.2.2.1, v.2.2.2.2.2.1, v.2.2.2.2.2.2.1, v.2.2.2.2.2.2.2.1, v.2.2.2.2.2.2.2.2.1, v.2.2.2.2.2.2.2.2.2.1, (zpl q0 j v.2.2.2.2.2.2.2.2.2.2.1 (fm_sg x1 j)), (nI (q0 + j)), v.2.2.2.2.2.2.2.2.2.2.2.2)) := by have hk0 : ¬ j = 0 := (fun h => c_2 (by rw [h] <;> rfl)); have hk9 : ¬ j = 9 := (by omega); unfold fm_put; rw [hz]; simp only [if_neg hk0, if_neg hk9, if_pos c_3, if_pos hle] <;> rfl
                    have hP9 : va_P D vwCl (wX10 cA h0 h1 h2 h3 h4 h5 h6 h7 h8 h9 h10 h11 ((v.1, v.2.1, v.2.2.1, v.2.2.2.1, v.2.2.2.2.1, v.2.2.2.2.2.1, v.2.2.2.2.2.2.1, v.2.2.2.2.2.2.2.1, v.2.2.2.2.2.2.2.2.1, v.2.2.2.2.2.2.2.2.2.1, (zpl q0 j v.2.2.2.2.2.2.2.2.2.2.1 (fm_sg x1 j)), (nI (q0 + j)), v.2.2.2.2.2.2.2.2.2.2.2.2) : vX10)) H := hP
                    have hD9 : va_D A (wX10 cA h0 h1 h2 h3 h4 h5 h6 h7 h8 h9 h10 h11 ((v.1, v.2.1, v.2.2.1, v.2.2.2.1, v.2.2.2.2.1, v.2.2.2.2.2.1, v.2.2.2.2.2.2.1, v.2.2.2.2.2.2.2.1, v.2.2.2.2.2.2.2.2.1, v.2.2.2.2.2.2.2.2.2.1, (zpl q0 j v.2.2.2.2.2.2.2.2.2.2.1 (fm_sg x1 j)), (nI (q0 + j)), v.2.2.2.2.2.2.2.2.2.2.2.2) : vX10)) := hD
                    subst hQ
                    exact W.iret (v := (nI (q0 + j))) hx hb hr (fun t ht hW => ⟨⟨(nI (q0 + j)), (v.1, v.2.1, v.2.2.1, v.2.2.2.1, v.2.2.2.2.1, v.2.2.2.2.2.1, v.2.2.2.2.2.2.1, v.2.2.2.2.2.2.2.1, v.2.2.2.2.2.2.2.2.1, v.2.2.2.2.2.2.2.2.2.1, (zpl q0 j v.2.2.2.2.2.2.2.2.2.2.1 (fm_sg x1 j)), (nI (q0 + j)), v.2.2.2.2.2.2.2.2.2.2.2.2), rfl, e9.symm, ⟨by rw [ht]; exact hP9, va_K.moved hW.alike hK, hD9⟩⟩, hS.F ht⟩) hS.2.2 dX10_put_140
                  · skip
                    have hjl : j < k := Nat.lt_of_not_le (fun h => c_5 (nI_le (a := k) (b := j) h (by omega)))
                    refine lv_aload_n hx hb dX10_put_92 rfl (lv_at hl 3 rfl) ?_
                    refine va_get (D := D) (ci := 10) (v := .ref h10) (C := RX10) (T := TX10) (N := 16) hx hb hts hinX10 hown hK hP 0 rfl rfl 10 (by decide) (hts (.fieldLink RX10 39 "GyroTrainerModel" "pad" "[I") (List.mem_of_getElem? (i := 3) rfl)) (fun _ h9 => h9) rfl dX10_put_93 ?_
                    refine lv_aload_n hx hb dX10_put_96 rfl (lv_at hl 3 rfl) ?_
                    refine va_get (D := D) (ci := 10) (v := .int v.2.2.2.2.2.2.2.2.2.2.2.1) (C := RX10) (T := TX10) (N := 16) hx hb hts hinX10 hown hK hP 0 rfl rfl 11 (by decide) (hts (.fieldLink RX10 177 "GyroTrainerModel" "padMany" "I") (List.mem_of_getElem? (i := 2) rfl)) (fun _ h9 => h9) rfl dX10_put_97 ?_
                    refine lv_iload hx hb dX10_put_100 (lv_at hl 0 rfl) ?_
                    refine lv_iadd hx hb dX10_put_102 ?_
                    refine lv_lload_n hx hb dX10_put_103 rfl (lv_at hl 4 rfl) ?_
                    refine lv_bipush (v := 8) hx hb dX10_put_104 (by decide) ?_
                    refine lv_iload_n hx hb dX10_put_106 rfl (lv_at hl 2 rfl) ?_
                    refine lv_iconst (v := 1) hx hb dX10_put_107 (by decide) ?_
                    refine lv_isub hx hb dX10_put_108 ?_
                    refine lv_iload hx hb dX10_put_109 (lv_at hl 0 rfl) ?_
                    refine lv_isub hx hb dX10_put_111 ?_
                    refine lv_imul hx hb dX10_put_112 ?_
                    refine lv_lshr hx hb dX10_put_113 rfl ?_
                    refine lv_ldc2 hx hb hown (hts (.constantLong RX10 192 (255)) (List.mem_of_getElem? (i := 1) rfl)) dX10_put_114 ?_
                    refine lv_land hx hb dX10_put_117 ?_
                    refine lv_l2i hx hb dX10_put_118 rfl ?_
                    refine z_iast (k := (q0 + j)) hx hb hK hP hD hS 10 1 rfl rfl (by rw [hq0]; exact nI_add q0 j) (by omega) (by decide) dX10_put_119 (fun g_6 eg_6 H locs hP hD hS => ?_)
                    have hP : va_P D vwCl [(h0, .inr (10, [.ref h1, .ref h2, .ref h3, .ref h4, .ref h5, .ref h6, .int v.2.2.2.2.2.2.1, .ref h7, .ref h8, .ref h9, .ref h10, .int v.2.2.2.2.2.2.2.2.2.2.2.1, .int v.2.2.2.2.2.2.2.2.2.2.2.2.1, .int v.2.2.2.2.2.2.2.2.2.2.2.2.2.1, .ref h11, .int v.2.2.2.2.2.2.2.2.2.2.2.2.2.2.2])), (h1, .inl ((cA 1), 85, .inl v.1)), (h2, .inl ((cA 0), 9, .inr (.inl v.2.1))), (h3, .inl ((cA 1), 85, .inl v.2.2.1)), (h4, .inl ((cA 0), 9, .inr (.inl v.2.2.2.1))), (h5, .inl ((cA 1), 510, .inl v.2.2.2.2.1)), (h6, .inl ((cA 0), 54, .inr (.inl v.2.2.2.2.2.1))), (h7, .inl ((cA 1), 170, .inl v.2.2.2.2.2.2.2.1)), (h8, .inl ((cA 0), 18, .inr (.inl v.2.2.2.2.2.2.2.2.1))), (h9, .inl ((cA 2), 2, .inl v.2.2.2.2.2.2.2.2.2.1)), (h10, .inl ((cA 1), 80, .inl g_6)), (h11, .inl ((cA 1), 60, .inl v.2.2.2.2.2.2.2.2.2.2.2.2.2.2.1))] H := hP
                    have hD : va_D A [(h0, .inr (10, [.ref h1, .ref h2, .ref h3, .ref h4, .ref h5, .ref h6, .int v.2.2.2.2.2.2.1, .ref h7, .ref h8, .ref h9, .ref h10, .int v.2.2.2.2.2.2.2.2.2.2.2.1, .int v.2.2.2.2.2.2.2.2.2.2.2.2.1, .int v.2.2.2.2.2.2.2.2.2.2.2.2.2.1, .ref h11, .int v.2.2.2.2.2.2.2.2.2.2.2.2.2.2.2])), (h1, .inl ((cA 1), 85, .inl v.1)), (h2, .inl ((cA 0), 9, .inr (.inl v.2.1))), (h3, .inl ((cA 1), 85, .inl v.2.2.1)), (h4, .inl ((cA 0), 9, .inr (.inl v.2.2.2.1))), (h5, .inl ((cA 1), 510, .inl v.2.2.2.2.1)), (h6, .inl ((cA 0), 54, .inr (.inl v.2.2.2.2.2.1))), (h7, .inl ((cA 1), 170, .inl v.2.2.2.2.2.2.2.1)), (h8, .inl ((cA 0), 18, .inr (.inl v.2.2.2.2.2.2.2.2.1))), (h9, .inl ((cA 2), 2, .inl v.2.2.2.2.2.2.2.2.2.1)), (h10, .inl ((cA 1), 80, .inl g_6)), (h11, .inl ((cA 1), 60, .inl v.2.2.2.2.2.2.2.2.2.2.2.2.2.2.1))] := hD
                    refine lv_iinc (v := (nI (j + 1))) (lv' := [(6, .int (nI (j + 1))), (4, .long zl), (3, .int (nI k)), (0, .ref h0), (1, .long x1)]) hx hb dX10_put_120 hl (k := 0) rfl (nI_1 j) (by decide) rfl (fun ls hl => ?_)
                    refine lv_goto (tgt := 86) hx hb dX10_put_123 (by decide) ?_
                    have e9z : g_6 = zpl q0 (j + 1) v.2.2.2.2.2.2.2.2.2.2.1 (fm_sg x1 k) := eg_6.trans (zpl_s q0 j v.2.2.2.2.2.2.2.2.2.2.1 (fm_sg x1 k))
                    subst e9z
                    exact ih (j + 1) (by omega) (by omega) _ _ hP hD hS ls (lv_sub hl [0, 1, 2, 3, 4] rfl)
              exact L86 (k + 1) (0) (by omega) (Nat.zero_le _) _ _ (by rw [zpl_0]; exact hP) (by rw [zpl_0]; exact hD) hS ls (lv_sub hl [0, 1, 2, 3, 4] rfl)
            · skip
              have hle : ¬ q0 + k ≤ 80 := fun h => c_4 (by rw [hq0, show nI q0 + nI k = nI (q0 + k) from nI_add q0 k]; exact nI_le (a := q0 + k) (b := 80) h (by decide))
              refine lv_bipush (v := -4) hx hb dX10_put_80 (by decide) ?_
              have e9 : (fm_put q0 v x1) = ((-4 : Int32), v) := by have hk0 : ¬ k = 0 := (fun h => c_2 (by rw [h] <;> rfl)); have hk9 : ¬ k = 9 := (by omega); unfold fm_put; rw [hz]; simp only [if_neg hk0, if_neg hk9, if_pos c_3, if_neg hle]
              have hP9 : va_P D vwCl (wX10 cA h0 h1 h2 h3 h4 h5 h6 h7 h8 h9 h10 h11 (v : vX10)) H := hP
              have hD9 : va_D A (wX10 cA h0 h1 h2 h3 h4 h5 h6 h7 h8 h9 h10 h11 (v : vX10)) := hD
              subst hQ
              exact W.iret (v := (-4 : Int32)) hx hb hr (fun t ht hW => ⟨⟨(-4 : Int32), v, rfl, e9.symm, ⟨by rw [ht]; exact hP9, va_K.moved hW.alike hK, hD9⟩⟩, hS.F ht⟩) hS.2.2 dX10_put_82
          · skip
            have c_3 : ¬ (zl = (0 : Int64)) := fun h => kc_3 ((lg_cmp_eq _ _).mpr h)
            refine lv_bipush (v := -2) hx hb dX10_put_66 (by decide) ?_
            have e9 : (fm_put q0 v x1) = ((-2 : Int32), v) := by have hk0 : ¬ k = 0 := (fun h => c_2 (by rw [h] <;> rfl)); have hk9 : ¬ k = 9 := (by omega); unfold fm_put; rw [hz]; simp only [if_neg hk0, if_neg hk9, if_neg c_3]
            have hP9 : va_P D vwCl (wX10 cA h0 h1 h2 h3 h4 h5 h6 h7 h8 h9 h10 h11 (v : vX10)) H := hP
            have hD9 : va_D A (wX10 cA h0 h1 h2 h3 h4 h5 h6 h7 h8 h9 h10 h11 (v : vX10)) := hD
            subst hQ
            exact W.iret (v := (-2 : Int32)) hx hb hr (fun t ht hW => ⟨⟨(-2 : Int32), v, rfl, e9.symm, ⟨by rw [ht]; exact hP9, va_K.moved hW.alike hK, hD9⟩⟩, hS.F ht⟩) hS.2.2 dX10_put_68
      · skip
        have hkl : k < 8 := Nat.lt_of_not_le (fun h => c_1 (nI_le (a := 8) (b := k) h (by omega)))
        refine lv_lload hx hb dX10_put_11 (lv_at hl 0 rfl) ?_
        refine lv_ldc2 hx hb hown (hts (.constantLong RX10 192 (255)) (List.mem_of_getElem? (i := 1) rfl)) dX10_put_13 ?_
        refine lv_land hx hb dX10_put_16 ?_
        refine lv_lconst (v := 0) hx hb dX10_put_17 (by decide) ?_
        refine W.lcmp hx hb dX10_put_18 ?_
        refine lv_if_eq (tgt := 55) hx hb dX10_put_19 (by decide) (fun kc_7 => ?_) (fun kc_7 => ?_)
        · skip
          have c_7 : (zl &&& (255 : Int64)) = (0 : Int64) := (lg_cmp_eq _ _).mp kc_7
          have hz : fm_p1 8 0 x1 = (k, zl) := hL.trans (fm_p1_z c_7)
          refine lv_iload_n hx hb dX10_put_55 rfl (lv_at hl 1 rfl) ?_
          refine lv_if_eq (tgt := 66) hx hb dX10_put_56 (by decide) (fun c_8 => ?_) (fun c_8 => ?_)
          · skip
            refine lv_bipush (v := -2) hx hb dX10_put_66 (by decide) ?_
            have e9 : (fm_put q0 v x1) = ((-2 : Int32), v) := by have ek : k = 0 := (nI_eq (a := k) (b := 0) (by omega) (by decide)).mp c_8; unfold fm_put; rw [hz]; simp only [ek] <;> rfl
            have hP9 : va_P D vwCl (wX10 cA h0 h1 h2 h3 h4 h5 h6 h7 h8 h9 h10 h11 (v : vX10)) H := hP
            have hD9 : va_D A (wX10 cA h0 h1 h2 h3 h4 h5 h6 h7 h8 h9 h10 h11 (v : vX10)) := hD
            subst hQ
            exact W.iret (v := (-2 : Int32)) hx hb hr (fun t ht hW => ⟨⟨(-2 : Int32), v, rfl, e9.symm, ⟨by rw [ht]; exact hP9, va_K.moved hW.alike hK, hD9⟩⟩, hS.F ht⟩) hS.2.2 dX10_put_68
          · skip
            refine lv_lload hx hb dX10_put_59 (lv_at hl 0 rfl) ?_
            refine lv_lconst (v := 0) hx hb dX10_put_61 (by decide) ?_
            refine W.lcmp hx hb dX10_put_62 ?_
            refine lv_if_eq (tgt := 69) hx hb dX10_put_63 (by decide) (fun kc_9 => ?_) (fun kc_9 => ?_)
            · skip
              have c_9 : zl = (0 : Int64) := (lg_cmp_eq _ _).mp kc_9
              refine lv_aload_n hx hb dX10_put_69 rfl (lv_at hl 2 rfl) ?_
              refine va_get (D := D) (ci := 10) (v := .int v.2.2.2.2.2.2.2.2.2.2.2.1) (C := RX10) (T := TX10) (N := 16) hx hb hts hinX10 hown hK hP 0 rfl rfl 11 (by decide) (hts (.fieldLink RX10 177 "GyroTrainerModel" "padMany" "I") (List.mem_of_getElem? (i := 2) rfl)) (fun _ h9 => h9) rfl dX10_put_70 ?_
              refine lv_iload_n hx hb dX10_put_73 rfl (lv_at hl 1 rfl) ?_
              refine lv_iadd hx hb dX10_put_74 ?_
              refine lv_bipush (v := 80) hx hb dX10_put_75 (by decide) ?_
              refine lv_icmp_le (tgt := 83) hx hb dX10_put_77 (by decide) (fun c_10 => ?_) (fun c_10 => ?_)
              · skip
                have hle : q0 + k ≤ 80 := by rw [hq0, show nI q0 + nI k = nI (q0 + k) from nI_add q0 k] at c_10; exact (nI_leI (a := q0 + k) (b := 80) (by omega) (by decide)).mp c_10
                refine lv_iconst (v := 0) hx hb dX10_put_83 (by decide) ?_
                refine lv_istore (lv' := [(6, .int (0 : Int32)), (4, .long zl), (3, .int (nI k)), (0, .ref h0), (1, .long x1)]) hx hb dX10_put_84 hl (by decide) rfl (fun ls hl => ?_)
                have L86 : ∀ (zn : Nat) (j : Nat), k - j < zn → (j ≤ k) → ∀ (H : Heap) (locs : List Loc), va_P D vwCl [(h0, .inr (10, [.ref h1, .ref h2, .ref h3, .ref h4, .ref h5, .ref h6, .int v.2.2.2.2.2.2.1, .ref h7, .ref h8, .ref h9, .ref h10, .int v.2.2.2.2.2.2.2.2.2.2.2.1, .int v.2.2.2.2.2.2.2.2.2.2.2.2.1, .int v.2.2.2.2.2.2.2.2.2.2.2.2.2.1, .ref h11, .int v.2.2.2.2.2.2.2.2.2.2.2.2.2.2.2])), (h1, .inl ((cA 1), 85, .inl v.1)), (h2, .inl ((cA 0), 9, .inr (.inl v.2.1))), (h3, .inl ((cA 1), 85, .inl v.2.2.1)), (h4, .inl ((cA 0), 9, .inr (.inl v.2.2.2.1))), (h5, .inl ((cA 1), 510, .inl v.2.2.2.2.1)), (h6, .inl ((cA 0), 54, .inr (.inl v.2.2.2.2.2.1))), (h7, .inl ((cA 1), 170, .inl v.2.2.2.2.2.2.2.1)), (h8, .inl ((cA 0), 18, .inr (.inl v.2.2.2.2.2.2.2.2.1))), (h9, .inl ((cA 2), 2, .inl v.2.2.2.2.2.2.2.2.2.1)), (h10, .inl ((cA 1), 80, .inl (zpl q0 j v.2.2.2.2.2.2.2.2.2.2.1 (fm_sg x1 k)))), (h11, .inl ((cA 1), 60, .inl v.2.2.2.2.2.2.2.2.2.2.2.2.2.2.1))] H → va_D A [(h0, .inr (10, [.ref h1, .ref h2, .ref h3, .ref h4, .ref h5, .ref h6, .int v.2.2.2.2.2.2.1, .ref h7, .ref h8, .ref h9, .ref h10, .int v.2.2.2.2.2.2.2.2.2.2.2.1, .int v.2.2.2.2.2.2.2.2.2.2.2.2.1, .int v.2.2.2.2.2.2.2.2.2.2.2.2.2.1, .ref h11, .int v.2.2.2.2.2.2.2.2.2.2.2.2.2.2.2])), (h1, .inl ((cA 1), 85, .inl v.1)), (h2, .inl ((cA 0), 9, .inr (.inl v.2.1))), (h3, .inl ((cA 1), 85, .inl v.2.2.1)), (h4, .inl ((cA 0), 9, .inr (.inl v.2.2.2.1))), (h5, .inl ((cA 1), 510, .inl v.2.2.2.2.1)), (h6, .inl ((cA 0), 54, .inr (.inl v.2.2.2.2.2.1))), (h7, .inl ((cA 1), 170, .inl v.2.2.2.2.2.2.2.1)), (h8, .inl ((cA 0), 18, .inr (.inl v.2.2.2.2.2.2.2.2.1))), (h9, .inl ((cA 2), 2, .inl v.2.2.2.2.2.2.2.2.2.1)), (h10, .inl ((cA 1), 80, .inl (zpl q0 j v.2.2.2.2.2.2.2.2.2.2.1 (fm_sg x1 k)))), (h11, .inl ((cA 1), 60, .inl v.2.2.2.2.2.2.2.2.2.2.2.2.2.2.1))] → va_S A s.heap H locs → ∀ (ls : Array Slot), lv_has ls 7 [(6, .int (nI j)), (4, .long zl), (3, .int (nI k)), (0, .ref h0), (1, .long x1)] → W p l e (headSpec wsX10_put ({ frames := 1, cells := 0, slots := 0, locals := 22 })).room s m (([.ref h0, .long x1] : List Value).toArray) below meth c H locs 0 0 Q (F0 m 86 ls []) := by
                  intro zn
                  induction zn with
                  | zero =>
                    intro j hm
                    exact absurd hm (Nat.not_lt_zero _)
                  | succ zn ih =>
                    intro j hm hj H locs hP hD hS ls hl
                    refine lv_iload hx hb dX10_put_86 (lv_at hl 0 rfl) ?_
                    refine lv_iload_n hx hb dX10_put_88 rfl (lv_at hl 2 rfl) ?_
                    refine lv_icmp_ge (tgt := 126) hx hb dX10_put_89 (by decide) (fun c_11 => ?_) (fun c_11 => ?_)
                    · skip
                      have ejk : j = k := Nat.le_antisymm hj ((nI_leI (a := k) (b := j) (by omega) (by omega)).mp c_11)
                      subst ejk
                      refine lv_aload_n hx hb dX10_put_126 rfl (lv_at hl 3 rfl) ?_
                      refine lv_dup hx hb dX10_put_127 rfl ?_
                      refine va_get (D := D) (ci := 10) (v := .int v.2.2.2.2.2.2.2.2.2.2.2.1) (C := RX10) (T := TX10) (N := 16) hx hb hts hinX10 hown hK hP 0 rfl rfl 11 (by decide) (hts (.fieldLink RX10 177 "GyroTrainerModel" "padMany" "I") (List.mem_of_getElem? (i := 2) rfl)) (fun _ h9 => h9) rfl dX10_put_128 ?_
                      refine lv_iload_n hx hb dX10_put_131 rfl (lv_at hl 2 rfl) ?_
                      refine lv_iadd hx hb dX10_put_132 ?_
                      rw [show (v.2.2.2.2.2.2.2.2.2.2.2.1 + (nI j)) = nI (q0 + j) from by rw [hq0]; exact nI_add q0 j]
                      refine va_put (D := D) (ci := 10) (v := .int (nI (q0 + j))) (ty := .int) (C := RX10) (T := TX10) (N := 16) hx hb hts hinX10 tyX10 tyX10_ok nmX10 hown hK hP hD hS 0 rfl rfl 11 (by decide) (hts (.fieldLink RX10 177 "GyroTrainerModel" "padMany" "I") (List.mem_of_getElem? (i := 2) rfl)) (fun _ h9 => h9) rfl (by decide +kernel) rfl rfl (Nat.le_of_ble_eq_true rfl) dX10_put_133 (fun H locs hP hD hS => ?_)
                      have hP : va_P D vwCl [(h0, .inr (10, [.ref h1, .ref h2, .ref h3, .ref h4, .ref h5, .ref h6, .int v.2.2.2.2.2.2.1, .ref h7, .ref h8, .ref h9, .ref h10, .int (nI (q0 + j)), .int v.2.2.2.2.2.2.2.2.2.2.2.2.1, .int v.2.2.2.2.2.2.2.2.2.2.2.2.2.1, .ref h11, .int v.2.2.2.2.2.2.2.2.2.2.2.2.2.2.2])), (h1, .inl ((cA 1), 85, .inl v.1)), (h2, .inl ((cA 0), 9, .inr (.inl v.2.1))), (h3, .inl ((cA 1), 85, .inl v.2.2.1)), (h4, .inl ((cA 0), 9, .inr (.inl v.2.2.2.1))), (h5, .inl ((cA 1), 510, .inl v.2.2.2.2.1)), (h6, .inl ((cA 0), 54, .inr (.inl v.2.2.2.2.2.1))), (h7, .inl ((cA 1), 170, .inl v.2.2.2.2.2.2.2.1)), (h8, .inl ((cA 0), 18, .inr (.inl v.2.2.2.2.2.2.2.2.1))), (h9, .inl ((cA 2), 2, .inl v.2.2.2.2.2.2.2.2.2.1)), (h10, .inl ((cA 1), 80, .inl (zpl q0 j v.2.2.2.2.2.2.2.2.2.2.1 (fm_sg x1 j)))), (h11, .inl ((cA 1), 60, .inl v.2.2.2.2.2.2.2.2.2.2.2.2.2.2.1))] H := hP
                      have hD : va_D A [(h0, .inr (10, [.ref h1, .ref h2, .ref h3, .ref h4, .ref h5, .ref h6, .int v.2.2.2.2.2.2.1, .ref h7, .ref h8, .ref h9, .ref h10, .int (nI (q0 + j)), .int v.2.2.2.2.2.2.2.2.2.2.2.2.1, .int v.2.2.2.2.2.2.2.2.2.2.2.2.2.1, .ref h11, .int v.2.2.2.2.2.2.2.2.2.2.2.2.2.2.2])), (h1, .inl ((cA 1), 85, .inl v.1)), (h2, .inl ((cA 0), 9, .inr (.inl v.2.1))), (h3, .inl ((cA 1), 85, .inl v.2.2.1)), (h4, .inl ((cA 0), 9, .inr (.inl v.2.2.2.1))), (h5, .inl ((cA 1), 510, .inl v.2.2.2.2.1)), (h6, .inl ((cA 0), 54, .inr (.inl v.2.2.2.2.2.1))), (h7, .inl ((cA 1), 170, .inl v.2.2.2.2.2.2.2.1)), (h8, .inl ((cA 0), 18, .inr (.inl v.2.2.2.2.2.2.2.2.1))), (h9, .inl ((cA 2), 2, .inl v.2.2.2.2.2.2.2.2.2.1)), (h10, .inl ((cA 1), 80, .inl (zpl q0 j v.2.2.2.2.2.2.2.2.2.2.1 (fm_sg x1 j)))), (h11, .inl ((cA 1), 60, .inl v.2.2.2.2.2.2.2.2.2.2.2.2.2.2.1))] := hD
                      refine lv_aload_n hx hb dX10_put_136 rfl (lv_at hl 3 rfl) ?_
                      refine va_get (D := D) (ci := 10) (v := .int (nI (q0 + j))) (C := RX10) (T := TX10) (N := 16) hx hb hts hinX10 hown hK hP 0 rfl rfl 11 (by decide) (hts (.fieldLink RX10 177 "GyroTrainerModel" "padMany" "I") (List.mem_of_getElem? (i := 2) rfl)) (fun _ h9 => h9) rfl dX10_put_137 ?_
                      have e9 : (fm_put q0 v x1) = ((nI (q0 + j)), (v.1, v.2.1, v.2.2.1, v.2.2.2.1, v.2.2.2.2.1, v.2.2.2.2.2.1, v.2.2.2.2.2.2.1, v.2.2.2.2.2.2.2.1, v.2.2.2.2.2.2.2.2.1, v.2.2.2.2.2.2.2.2.2.1, (zpl q0 j v.2.2.2.2.2.2.2.2.2.2.1 (fm_sg x1 j)), (nI (q0 + j)), v.2.2.2.2.2.2.2.2.2.2.2.2)) := by have hk0 : ¬ j = 0 := (fun h => c_8 (by rw [h] <;> rfl)); have hk9 : ¬ j = 9 := (by omega); unfold fm_put; rw [hz]; simp only [if_neg hk0, if_neg hk9, if_pos c_9, if_pos hle] <;> rfl
                      have hP9 : va_P D vwCl (wX10 cA h0 h1 h2 h3 h4 h5 h6 h7 h8 h9 h10 h11 ((v.1, v.2.1, v.2.2.1, v.2.2.2.1, v.2.2.2.2.1, v.2.2.2.2.2.1, v.2.2.2.2.2.2.1, v.2.2.2.2.2.2.2.1, v.2.2.2.2.2.2.2.2.1, v.2.2.2.2.2.2.2.2.2.1, (zpl q0 j v.2.2.2.2.2.2.2.2.2.2.1 (fm_sg x1 j)), (nI (q0 + j)), v.2.2.2.2.2.2.2.2.2.2.2.2) : vX10)) H := hP
                      have hD9 : va_D A (wX10 cA h0 h1 h2 h3 h4 h5 h6 h7 h8 h9 h10 h11 ((v.1, v.2.1, v.2.2.1, v.2.2.2.1, v.2.2.2.2.1, v.2.2.2.2.2.1, v.2.2.2.2.2.2.1, v.2.2.2.2.2.2.2.1, v.2.2.2.2.2.2.2.2.1, v.2.2.2.2.2.2.2.2.2.1, (zpl q0 j v.2.2.2.2.2.2.2.2.2.2.1 (fm_sg x1 j)), (nI (q0 + j)), v.2.2.2.2.2.2.2.2.2.2.2.2) : vX10)) := hD
                      subst hQ
                      exact W.iret (v := (nI (q0 + j))) hx hb hr (fun t ht hW => ⟨⟨(nI (q0 + j)), (v.1, v.2.1, v.2.2.1, v.2.2.2.1, v.2.2.2.2.1, v.2.2.2.2.2.1, v.2.2.2.2.2.2.1, v.2.2.2.2.2.2.2.1, v.2.2.2.2.2.2.2.2.1, v.2.2.2.2.2.2.2.2.2.1, (zpl q0 j v.2.2.2.2.2.2.2.2.2.2.1 (fm_sg x1 j)), (nI (q0 + j)), v.2.2.2.2.2.2.2.2.2.2.2.2), rfl, e9.symm, ⟨by rw [ht]; exact hP9, va_K.moved hW.alike hK, hD9⟩⟩, hS.F ht⟩) hS.2.2 dX10_put_140
                    · skip
                      have hjl : j < k := Nat.lt_of_not_le (fun h => c_11 (nI_le (a := k) (b := j) h (by omega)))
                      refine lv_aload_n hx hb dX10_put_92 rfl (lv_at hl 3 rfl) ?_
                      refine va_get (D := D) (ci := 10) (v := .ref h10) (C := RX10) (T := TX10) (N := 16) hx hb hts hinX10 hown hK hP 0 rfl rfl 10 (by decide) (hts (.fieldLink RX10 39 "GyroTrainerModel" "pad" "[I") (List.mem_of_getElem? (i := 3) rfl)) (fun _ h9 => h9) rfl dX10_put_93 ?_
                      refine lv_aload_n hx hb dX10_put_96 rfl (lv_at hl 3 rfl) ?_
                      refine va_get (D := D) (ci := 10) (v := .int v.2.2.2.2.2.2.2.2.2.2.2.1) (C := RX10) (T := TX10) (N := 16) hx hb hts hinX10 hown hK hP 0 rfl rfl 11 (by decide) (hts (.fieldLink RX10 177 "GyroTrainerModel" "padMany" "I") (List.mem_of_getElem? (i := 2) rfl)) (fun _ h9 => h9) rfl dX10_put_97 ?_
                      refine lv_iload hx hb dX10_put_100 (lv_at hl 0 rfl) ?_
                      refine lv_iadd hx hb dX10_put_102 ?_
                      refine lv_lload_n hx hb dX10_put_103 rfl (lv_at hl 4 rfl) ?_
                      refine lv_bipush (v := 8) hx hb dX10_put_104 (by decide) ?_
                      refine lv_iload_n hx hb dX10_put_106 rfl (lv_at hl 2 rfl) ?_
                      refine lv_iconst (v := 1) hx hb dX10_put_107 (by decide) ?_
                      refine lv_isub hx hb dX10_put_108 ?_
                      refine lv_iload hx hb dX10_put_109 (lv_at hl 0 rfl) ?_
                      refine lv_isub hx hb dX10_put_111 ?_
                      refine lv_imul hx hb dX10_put_112 ?_
                      refine lv_lshr hx hb dX10_put_113 rfl ?_
                      refine lv_ldc2 hx hb hown (hts (.constantLong RX10 192 (255)) (List.mem_of_getElem? (i := 1) rfl)) dX10_put_114 ?_
                      refine lv_land hx hb dX10_put_117 ?_
                      refine lv_l2i hx hb dX10_put_118 rfl ?_
                      refine z_iast (k := (q0 + j)) hx hb hK hP hD hS 10 1 rfl rfl (by rw [hq0]; exact nI_add q0 j) (by omega) (by decide) dX10_put_119 (fun g_12 eg_12 H locs hP hD hS => ?_)
                      have hP : va_P D vwCl [(h0, .inr (10, [.ref h1, .ref h2, .ref h3, .ref h4, .ref h5, .ref h6, .int v.2.2.2.2.2.2.1, .ref h7, .ref h8, .ref h9, .ref h10, .int v.2.2.2.2.2.2.2.2.2.2.2.1, .int v.2.2.2.2.2.2.2.2.2.2.2.2.1, .int v.2.2.2.2.2.2.2.2.2.2.2.2.2.1, .ref h11, .int v.2.2.2.2.2.2.2.2.2.2.2.2.2.2.2])), (h1, .inl ((cA 1), 85, .inl v.1)), (h2, .inl ((cA 0), 9, .inr (.inl v.2.1))), (h3, .inl ((cA 1), 85, .inl v.2.2.1)), (h4, .inl ((cA 0), 9, .inr (.inl v.2.2.2.1))), (h5, .inl ((cA 1), 510, .inl v.2.2.2.2.1)), (h6, .inl ((cA 0), 54, .inr (.inl v.2.2.2.2.2.1))), (h7, .inl ((cA 1), 170, .inl v.2.2.2.2.2.2.2.1)), (h8, .inl ((cA 0), 18, .inr (.inl v.2.2.2.2.2.2.2.2.1))), (h9, .inl ((cA 2), 2, .inl v.2.2.2.2.2.2.2.2.2.1)), (h10, .inl ((cA 1), 80, .inl g_12)), (h11, .inl ((cA 1), 60, .inl v.2.2.2.2.2.2.2.2.2.2.2.2.2.2.1))] H := hP
                      have hD : va_D A [(h0, .inr (10, [.ref h1, .ref h2, .ref h3, .ref h4, .ref h5, .ref h6, .int v.2.2.2.2.2.2.1, .ref h7, .ref h8, .ref h9, .ref h10, .int v.2.2.2.2.2.2.2.2.2.2.2.1, .int v.2.2.2.2.2.2.2.2.2.2.2.2.1, .int v.2.2.2.2.2.2.2.2.2.2.2.2.2.1, .ref h11, .int v.2.2.2.2.2.2.2.2.2.2.2.2.2.2.2])), (h1, .inl ((cA 1), 85, .inl v.1)), (h2, .inl ((cA 0), 9, .inr (.inl v.2.1))), (h3, .inl ((cA 1), 85, .inl v.2.2.1)), (h4, .inl ((cA 0), 9, .inr (.inl v.2.2.2.1))), (h5, .inl ((cA 1), 510, .inl v.2.2.2.2.1)), (h6, .inl ((cA 0), 54, .inr (.inl v.2.2.2.2.2.1))), (h7, .inl ((cA 1), 170, .inl v.2.2.2.2.2.2.2.1)), (h8, .inl ((cA 0), 18, .inr (.inl v.2.2.2.2.2.2.2.2.1))), (h9, .inl ((cA 2), 2, .inl v.2.2.2.2.2.2.2.2.2.1)), (h10, .inl ((cA 1), 80, .inl g_12)), (h11, .inl ((cA 1), 60, .inl v.2.2.2.2.2.2.2.2.2.2.2.2.2.2.1))] := hD
                      refine lv_iinc (v := (nI (j + 1))) (lv' := [(6, .int (nI (j + 1))), (4, .long zl), (3, .int (nI k)), (0, .ref h0), (1, .long x1)]) hx hb dX10_put_120 hl (k := 0) rfl (nI_1 j) (by decide) rfl (fun ls hl => ?_)
                      refine lv_goto (tgt := 86) hx hb dX10_put_123 (by decide) ?_
                      have e9z : g_12 = zpl q0 (j + 1) v.2.2.2.2.2.2.2.2.2.2.1 (fm_sg x1 k) := eg_12.trans (zpl_s q0 j v.2.2.2.2.2.2.2.2.2.2.1 (fm_sg x1 k))
                      subst e9z
                      exact ih (j + 1) (by omega) (by omega) _ _ hP hD hS ls (lv_sub hl [0, 1, 2, 3, 4] rfl)
                exact L86 (k + 1) (0) (by omega) (Nat.zero_le _) _ _ (by rw [zpl_0]; exact hP) (by rw [zpl_0]; exact hD) hS ls (lv_sub hl [0, 1, 2, 3, 4] rfl)
              · skip
                have hle : ¬ q0 + k ≤ 80 := fun h => c_10 (by rw [hq0, show nI q0 + nI k = nI (q0 + k) from nI_add q0 k]; exact nI_le (a := q0 + k) (b := 80) h (by decide))
                refine lv_bipush (v := -4) hx hb dX10_put_80 (by decide) ?_
                have e9 : (fm_put q0 v x1) = ((-4 : Int32), v) := by have hk0 : ¬ k = 0 := (fun h => c_8 (by rw [h] <;> rfl)); have hk9 : ¬ k = 9 := (by omega); unfold fm_put; rw [hz]; simp only [if_neg hk0, if_neg hk9, if_pos c_9, if_neg hle]
                have hP9 : va_P D vwCl (wX10 cA h0 h1 h2 h3 h4 h5 h6 h7 h8 h9 h10 h11 (v : vX10)) H := hP
                have hD9 : va_D A (wX10 cA h0 h1 h2 h3 h4 h5 h6 h7 h8 h9 h10 h11 (v : vX10)) := hD
                subst hQ
                exact W.iret (v := (-4 : Int32)) hx hb hr (fun t ht hW => ⟨⟨(-4 : Int32), v, rfl, e9.symm, ⟨by rw [ht]; exact hP9, va_K.moved hW.alike hK, hD9⟩⟩, hS.F ht⟩) hS.2.2 dX10_put_82
            · skip
              have c_9 : ¬ (zl = (0 : Int64)) := fun h => kc_9 ((lg_cmp_eq _ _).mpr h)
              refine lv_bipush (v := -2) hx hb dX10_put_66 (by decide) ?_
              have e9 : (fm_put q0 v x1) = ((-2 : Int32), v) := by have hk0 : ¬ k = 0 := (fun h => c_8 (by rw [h] <;> rfl)); have hk9 : ¬ k = 9 := (by omega); unfold fm_put; rw [hz]; simp only [if_neg hk0, if_neg hk9, if_neg c_9]
              have hP9 : va_P D vwCl (wX10 cA h0 h1 h2 h3 h4 h5 h6 h7 h8 h9 h10 h11 (v : vX10)) H := hP
              have hD9 : va_D A (wX10 cA h0 h1 h2 h3 h4 h5 h6 h7 h8 h9 h10 h11 (v : vX10)) := hD
              subst hQ
              exact W.iret (v := (-2 : Int32)) hx hb hr (fun t ht hW => ⟨⟨(-2 : Int32), v, rfl, e9.symm, ⟨by rw [ht]; exact hP9, va_K.moved hW.alike hK, hD9⟩⟩, hS.F ht⟩) hS.2.2 dX10_put_68
        · skip
          have c_7 : ¬ ((zl &&& (255 : Int64)) = (0 : Int64)) := fun h => kc_7 ((lg_cmp_eq _ _).mpr h)
          refine lv_lload hx hb dX10_put_22 (lv_at hl 0 rfl) ?_
          refine lv_ldc2 hx hb hown (hts (.constantLong RX10 192 (255)) (List.mem_of_getElem? (i := 1) rfl)) dX10_put_24 ?_
          refine lv_land hx hb dX10_put_27 ?_
          refine lv_l2i hx hb dX10_put_28 rfl ?_
          refine lv_bipush (v := 33) hx hb dX10_put_29 (by decide) ?_
          refine lv_bipush (v := 126) hx hb dX10_put_31 (by decide) ?_
          refine z_Ri (va_runS (As := [.int ((zl &&& (255 : Int64)).toInt32), .int (33 : Int32), .int (126 : Int32)]) (rest := []) ⟨hx, hb, hml, hown, hts⟩ (c_X10_in l D cA  ((zl &&& (255 : Int64)).toInt32) (33 : Int32) (126 : Int32)) (va_cwS 3 hts gX10_put_X10_in rfl rfl rfl (by decide +kernel) ⟨Nat.le_of_ble_eq_true rfl, Nat.le_of_ble_eq_true rfl⟩) (zqSR0 hK hN) rfl rfl hl.1 rfl (lv_room (Nat.le_of_ble_eq_true rfl)) dX10_put_33 ⟨Nat.le_of_ble_eq_true rfl, Nat.le_of_ble_eq_true rfl⟩) ?_
          refine lv_if_ne (tgt := 42) hx hb dX10_put_36 (by decide) (fun c_13 => ?_) (fun c_13 => ?_)
          · skip
            refine lv_iinc (v := (nI (k + 1))) (lv' := [(3, .int (nI (k + 1))), (4, .long zl), (0, .ref h0), (1, .long x1)]) hx hb dX10_put_42 hl (k := 1) rfl (nI_1 k) (by decide) rfl (fun ls hl => ?_)
            refine lv_lload hx hb dX10_put_45 (lv_at hl 1 rfl) ?_
            refine lv_bipush (v := 8) hx hb dX10_put_47 (by decide) ?_
            refine lv_lushr hx hb dX10_put_49 rfl ?_
            refine lv_lstore (lv' := [(4, .long (zus zl)), (3, .int (nI (k + 1))), (0, .ref h0), (1, .long x1)]) hx hb dX10_put_50 hl (by decide) rfl (fun ls hl => ?_)
            refine lv_goto (tgt := 5) hx hb dX10_put_52 (by decide) ?_
            exact ih (k + 1) (zus zl) (by omega) (by omega) (fm_p1_s hkl c_7 c_13 hL) _ _ hP hD hS ls (lv_sub hl [0, 1, 2, 3] rfl)
          · skip
            refine lv_bipush (v := -2) hx hb dX10_put_39 (by decide) ?_
            have e9 : (fm_put q0 v x1) = ((-2 : Int32), v) := by have hz := hL.trans (fm_p1_e (by omega) c_7 c_13); unfold fm_put; rw [hz] <;> rfl
            have hP9 : va_P D vwCl (wX10 cA h0 h1 h2 h3 h4 h5 h6 h7 h8 h9 h10 h11 (v : vX10)) H := hP
            have hD9 : va_D A (wX10 cA h0 h1 h2 h3 h4 h5 h6 h7 h8 h9 h10 h11 (v : vX10)) := hD
            subst hQ
            exact W.iret (v := (-2 : Int32)) hx hb hr (fun t ht hW => ⟨⟨(-2 : Int32), v, rfl, e9.symm, ⟨by rw [ht]; exact hP9, va_K.moved hW.alike hK, hD9⟩⟩, hS.F ht⟩) hS.2.2 dX10_put_41
  exact L5 (8 + 1) (0) (x1) (by omega) (Nat.zero_le _) rfl _ _ hP hD hS ls (lv_sub hl [0, 1, 2, 3] rfl)
set_option maxHeartbeats 4000000 in
set_option maxRecDepth 100000 in
theorem c_X10_next (l : Launch) (D : va_G) (cA : Nat → ClassId) (h0 h1 h2 h3 h4 h5 h6 h7 h8 h9 h10 h11 : Nat) (q0 : Nat) (v : vX10) (hq0 : v.2.2.2.2.2.2.2.2.2.2.2.1 = nI q0) (hq8 : q0 ≤ 80) (hs0 : 0 ≤ (fs v).toInt) : Met l yX10_next wsX10_next ({ frames := 0, cells := 0, slots := 0, locals := 0 }) (va_Pc [.ref h0] (zPreR D (zty cA) (wX10 cA h0 h1 h2 h3 h4 h5 h6 h7 h8 h9 h10 h11 v))) (vp_Si (fun x => x = (fm_nx (fp v) (fq v) (fs v)))) 0 0 (fun _ => False) := by
  refine Met.ofW (cc := cX10_next) (maxL := 1) (ret := (some .int)) (by decide) rfl ?_
  intro p e s m args below meth c s₁ B hml hv
  obtain ⟨rfl, hP, hK, hN⟩ := hv
  have hx := B.exec
  have hb := B.bytes
  have hr := B.returns
  have hts := atoms_spec (ws := wsX10_next) B.pre
  have hown : s.vm.findClass RX10 = some m.cls := findClass_of_methodNamed B.named
  have hlocks := B.notSynchronized
  have hinX10 : ∀ w ∈ u_ws RX10 TX10 16, w ∈ wsX10_next := fun w h => List.mem_cons_of_mem _ (List.mem_append_right _ h)
  have hP : va_P D vwCl [(h0, .inr (10, [.ref h1, .ref h2, .ref h3, .ref h4, .ref h5, .ref h6, .int v.2.2.2.2.2.2.1, .ref h7, .ref h8, .ref h9, .ref h10, .int v.2.2.2.2.2.2.2.2.2.2.2.1, .int v.2.2.2.2.2.2.2.2.2.2.2.2.1, .int v.2.2.2.2.2.2.2.2.2.2.2.2.2.1, .ref h11, .int v.2.2.2.2.2.2.2.2.2.2.2.2.2.2.2])), (h1, .inl ((cA 1), 85, .inl v.1)), (h2, .inl ((cA 0), 9, .inr (.inl v.2.1))), (h3, .inl ((cA 1), 85, .inl v.2.2.1)), (h4, .inl ((cA 0), 9, .inr (.inl v.2.2.2.1))), (h5, .inl ((cA 1), 510, .inl v.2.2.2.2.1)), (h6, .inl ((cA 0), 54, .inr (.inl v.2.2.2.2.2.1))), (h7, .inl ((cA 1), 170, .inl v.2.2.2.2.2.2.2.1)), (h8, .inl ((cA 0), 18, .inr (.inl v.2.2.2.2.2.2.2.2.1))), (h9, .inl ((cA 2), 2, .inl v.2.2.2.2.2.2.2.2.2.1)), (h10, .inl ((cA 1), 80, .inl v.2.2.2.2.2.2.2.2.2.2.1)), (h11, .inl ((cA 1), 60, .inl v.2.2.2.2.2.2.2.2.2.2.2.2.2.2.1))] s.heap := hP
  have hl := lv_entry ([.ref h0]) (n := 1) (Nat.le_of_ble_eq_true rfl)
  rw [lg_entry_eq]
  generalize (lg_sl ([.ref h0]) ++ List.replicate (1 - (lg_sl ([.ref h0])).length) Slot.unset).toArray = ls at hl ⊢
  have hl : lv_has ls 1 [(0, .ref h0)] := hl
  refine z_genQ (fun Q hQ => ?_)
  refine lv_aload_n hx hb dX10_next_0 rfl (lv_at hl 0 rfl) ?_
  refine va_get (D := D) (ci := 10) (v := .int v.2.2.2.2.2.2.2.2.2.2.2.2.1) (C := RX10) (T := TX10) (N := 16) hx hb hts hinX10 hown hK hP 0 rfl rfl 12 (by decide) (hts (.fieldLink RX10 194 "GyroTrainerModel" "spot" "I") (List.mem_of_getElem? (i := 1) rfl)) (fun _ h9 => h9) rfl dX10_next_1 ?_
  refine lv_aload_n hx hb dX10_next_4 rfl (lv_at hl 0 rfl) ?_
  refine va_get (D := D) (ci := 10) (v := .int v.2.2.2.2.2.2.2.2.2.2.2.1) (C := RX10) (T := TX10) (N := 16) hx hb hts hinX10 hown hK hP 0 rfl rfl 11 (by decide) (hts (.fieldLink RX10 177 "GyroTrainerModel" "padMany" "I") (List.mem_of_getElem? (i := 2) rfl)) (fun _ h9 => h9) rfl dX10_next_5 ?_
  refine lv_icmp_ge (tgt := 23) hx hb dX10_next_8 (by decide) (fun c_1 => ?_) (fun c_1 => ?_)
  · skip
    refine lv_iconst (v := 0) hx hb dX10_next_23 (by decide) ?_
    have e9 : (fm_nx (fp v) (fq v) (fs v)) = (0 : Int32) := by unfold fm_nx; rw [if_pos c_1]
    subst hQ
    exact W.iret (v := (0 : Int32)) hx hb hr (fun t ht hW => ⟨_, rfl, e9.symm, ht⟩) (fun q h => by cases h) dX10_next_24
  · skip
    obtain ⟨k, hk, ek⟩ := z_ix80 hq0 hq8 hs0 c_1
    refine lv_aload_n hx hb dX10_next_11 rfl (lv_at hl 0 rfl) ?_
    refine va_get (D := D) (ci := 10) (v := .ref h10) (C := RX10) (T := TX10) (N := 16) hx hb hts hinX10 hown hK hP 0 rfl rfl 10 (by decide) (hts (.fieldLink RX10 39 "GyroTrainerModel" "pad" "[I") (List.mem_of_getElem? (i := 3) rfl)) (fun _ h9 => h9) rfl dX10_next_12 ?_
    refine lv_aload_n hx hb dX10_next_15 rfl (lv_at hl 0 rfl) ?_
    refine va_get (D := D) (ci := 10) (v := .int v.2.2.2.2.2.2.2.2.2.2.2.2.1) (C := RX10) (T := TX10) (N := 16) hx hb hts hinX10 hown hK hP 0 rfl rfl 12 (by decide) (hts (.fieldLink RX10 194 "GyroTrainerModel" "spot" "I") (List.mem_of_getElem? (i := 1) rfl)) (fun _ h9 => h9) rfl dX10_next_16 ?_
    refine z_iald (k := k) hx hb hK hP 10 1 rfl rfl ek hk (by decide) dX10_next_19 ?_
    refine lv_goto (tgt := 24) hx hb dX10_next_20 (by decide) ?_
    have e9 : (fm_nx (fp v) (fq v) (fs v)) = (v.2.2.2.2.2.2.2.2.2.2.1 k) := by unfold fm_nx; rw [if_neg c_1]; rw [show fs v = nI k from ek, nI_clamp (by omega)]
    subst hQ
    exact W.iret (v := (v.2.2.2.2.2.2.2.2.2.2.1 k)) hx hb hr (fun t ht hW => ⟨_, rfl, e9.symm, ht⟩) (fun q h => by cases h) dX10_next_24
set_option maxHeartbeats 4000000 in
set_option maxRecDepth 100000 in
theorem c_X10_need (l : Launch) (D : va_G) (cA : Nat → ClassId) (h0 h1 h2 h3 h4 h5 h6 h7 h8 h9 h10 h11 : Nat) (sz : Nat) (q0 : Nat) (v : vX10) (x1 : Int32) (hq0 : v.2.2.2.2.2.2.2.2.2.2.2.1 = nI q0) (hq8 : q0 ≤ 80) (hs0 : 0 ≤ (fs v).toInt) : Met l yX10_need wsX10_need ({ frames := 1, cells := 0, slots := 0, locals := 20 }) (va_Pc [.ref h0, .int x1] (zPre D (zty cA) (wX10 cA h0 h1 h2 h3 h4 h5 h6 h7 h8 h9 h10 h11 v) sz)) (va_Qv (fun (u : vX10) => u = (fm_need v x1)) (fun u => zPost D (zty cA) (va_A (wX10 cA h0 h1 h2 h3 h4 h5 h6 h7 h8 h9 h10 h11 v) sz) (wX10 cA h0 h1 h2 h3 h4 h5 h6 h7 h8 h9 h10 h11 u)) (va_A (wX10 cA h0 h1 h2 h3 h4 h5 h6 h7 h8 h9 h10 h11 v) sz)) 0 0 (va_A (wX10 cA h0 h1 h2 h3 h4 h5 h6 h7 h8 h9 h10 h11 v) sz) := by
  refine Met.ofW (cc := cX10_need) (maxL := 2) (ret := none) (by decide) rfl ?_
  intro p e s m args below meth c s₁ B hml hv
  obtain ⟨rfl, hsz, hP, hK, hD0, hE⟩ := hv
  have hx := B.exec
  have hb := B.bytes
  have hr := B.returns
  have hts := atoms_spec (ws := wsX10_need) B.pre
  have hown : s.vm.findClass RX10 = some m.cls := findClass_of_methodNamed B.named
  have hlocks := B.notSynchronized
  have hinX10 : ∀ w ∈ u_ws RX10 TX10 16, w ∈ wsX10_need := fun w h => List.mem_cons_of_mem _ (List.mem_append_right _ h)
  subst hsz
  have hD := hD0.self (sz := s.heap.size)
  generalize hAe : va_A (wX10 cA h0 h1 h2 h3 h4 h5 h6 h7 h8 h9 h10 h11 v) s.heap.size = A at hD hE ⊢
  have hA : ∀ q : Nat, s.heap.size ≤ q → A q := fun q h => by rw [← hAe]; exact Or.inr h
  have hS : va_S A s.heap s.heap [] := va_S.rf
  have hN : zN s := hE.1
  have hP : va_P D vwCl [(h0, .inr (10, [.ref h1, .ref h2, .ref h3, .ref h4, .ref h5, .ref h6, .int v.2.2.2.2.2.2.1, .ref h7, .ref h8, .ref h9, .ref h10, .int v.2.2.2.2.2.2.2.2.2.2.2.1, .int v.2.2.2.2.2.2.2.2.2.2.2.2.1, .int v.2.2.2.2.2.2.2.2.2.2.2.2.2.1, .ref h11, .int v.2.2.2.2.2.2.2.2.2.2.2.2.2.2.2])), (h1, .inl ((cA 1), 85, .inl v.1)), (h2, .inl ((cA 0), 9, .inr (.inl v.2.1))), (h3, .inl ((cA 1), 85, .inl v.2.2.1)), (h4, .inl ((cA 0), 9, .inr (.inl v.2.2.2.1))), (h5, .inl ((cA 1), 510, .inl v.2.2.2.2.1)), (h6, .inl ((cA 0), 54, .inr (.inl v.2.2.2.2.2.1))), (h7, .inl ((cA 1), 170, .inl v.2.2.2.2.2.2.2.1)), (h8, .inl ((cA 0), 18, .inr (.inl v.2.2.2.2.2.2.2.2.1))), (h9, .inl ((cA 2), 2, .inl v.2.2.2.2.2.2.2.2.2.1)), (h10, .inl ((cA 1), 80, .inl v.2.2.2.2.2.2.2.2.2.2.1)), (h11, .inl ((cA 1), 60, .inl v.2.2.2.2.2.2.2.2.2.2.2.2.2.2.1))] s.heap := hP
  have hD : va_D A [(h0, .inr (10, [.ref h1, .ref h2, .ref h3, .ref h4, .ref h5, .ref h6, .int v.2.2.2.2.2.2.1, .ref h7, .ref h8, .ref h9, .ref h10, .int v.2.2.2.2.2.2.2.2.2.2.2.1, .int v.2.2.2.2.2.2.2.2.2.2.2.2.1, .int v.2.2.2.2.2.2.2.2.2.2.2.2.2.1, .ref h11, .int v.2.2.2.2.2.2.2.2.2.2.2.2.2.2.2])), (h1, .inl ((cA 1), 85, .inl v.1)), (h2, .inl ((cA 0), 9, .inr (.inl v.2.1))), (h3, .inl ((cA 1), 85, .inl v.2.2.1)), (h4, .inl ((cA 0), 9, .inr (.inl v.2.2.2.1))), (h5, .inl ((cA 1), 510, .inl v.2.2.2.2.1)), (h6, .inl ((cA 0), 54, .inr (.inl v.2.2.2.2.2.1))), (h7, .inl ((cA 1), 170, .inl v.2.2.2.2.2.2.2.1)), (h8, .inl ((cA 0), 18, .inr (.inl v.2.2.2.2.2.2.2.2.1))), (h9, .inl ((cA 2), 2, .inl v.2.2.2.2.2.2.2.2.2.1)), (h10, .inl ((cA 1), 80, .inl v.2.2.2.2.2.2.2.2.2.2.1)), (h11, .inl ((cA 1), 60, .inl v.2.2.2.2.2.2.2.2.2.2.2.2.2.2.1))] := hD
  have hl := lv_entry ([.ref h0, .int x1]) (n := 2) (Nat.le_of_ble_eq_true rfl)
  rw [lg_entry_eq]
  generalize (lg_sl ([.ref h0, .int x1]) ++ List.replicate (2 - (lg_sl ([.ref h0, .int x1])).length) Slot.unset).toArray = ls at hl ⊢
  have hl : lv_has ls 2 [(0, .ref h0), (1, .int x1)] := hl
  refine z_genQ (fun Q hQ => ?_)
  refine lv_aload_n hx hb dX10_need_0 rfl (lv_at hl 0 rfl) ?_
  refine lv_aload_n hx hb dX10_need_1 rfl (lv_at hl 0 rfl) ?_
  refine va_get (D := D) (ci := 10) (v := .int v.2.2.2.2.2.2.2.2.2.2.2.2.2.1) (C := RX10) (T := TX10) (N := 16) hx hb hts hinX10 hown hK hP 0 rfl rfl 13 (by decide) (hts (.fieldLink RX10 197 "GyroTrainerModel" "isWrong" "Z") (List.mem_of_getElem? (i := 1) rfl)) (fun _ h9 => h9) rfl dX10_need_2 ?_
  refine lv_if_ne (tgt := 16) hx hb dX10_need_5 (by decide) (fun c_1 => ?_) (fun c_1 => ?_)
  · skip
    refine lv_iconst (v := 1) hx hb dX10_need_16 (by decide) ?_
    refine lv_goto (tgt := 21) hx hb dX10_need_17 (by decide) ?_
    refine va_put (D := D) (ci := 10) (v := .int (1 : Int32)) (ty := .boolean) (C := RX10) (T := TX10) (N := 16) hx hb hts hinX10 tyX10 tyX10_ok nmX10 hown hK hP hD hS 0 rfl rfl 13 (by decide) (hts (.fieldLink RX10 197 "GyroTrainerModel" "isWrong" "Z") (List.mem_of_getElem? (i := 1) rfl)) (fun _ h9 => h9) rfl (by decide +kernel) rfl rfl (Nat.le_of_ble_eq_true rfl) dX10_need_21 (fun H locs hP hD hS => ?_)
    have hP : va_P D vwCl [(h0, .inr (10, [.ref h1, .ref h2, .ref h3, .ref h4, .ref h5, .ref h6, .int v.2.2.2.2.2.2.1, .ref h7, .ref h8, .ref h9, .ref h10, .int v.2.2.2.2.2.2.2.2.2.2.2.1, .int v.2.2.2.2.2.2.2.2.2.2.2.2.1, .int (1 : Int32), .ref h11, .int v.2.2.2.2.2.2.2.2.2.2.2.2.2.2.2])), (h1, .inl ((cA 1), 85, .inl v.1)), (h2, .inl ((cA 0), 9, .inr (.inl v.2.1))), (h3, .inl ((cA 1), 85, .inl v.2.2.1)), (h4, .inl ((cA 0), 9, .inr (.inl v.2.2.2.1))), (h5, .inl ((cA 1), 510, .inl v.2.2.2.2.1)), (h6, .inl ((cA 0), 54, .inr (.inl v.2.2.2.2.2.1))), (h7, .inl ((cA 1), 170, .inl v.2.2.2.2.2.2.2.1)), (h8, .inl ((cA 0), 18, .inr (.inl v.2.2.2.2.2.2.2.2.1))), (h9, .inl ((cA 2), 2, .inl v.2.2.2.2.2.2.2.2.2.1)), (h10, .inl ((cA 1), 80, .inl v.2.2.2.2.2.2.2.2.2.2.1)), (h11, .inl ((cA 1), 60, .inl v.2.2.2.2.2.2.2.2.2.2.2.2.2.2.1))] H := hP
    have hD : va_D A [(h0, .inr (10, [.ref h1, .ref h2, .ref h3, .ref h4, .ref h5, .ref h6, .int v.2.2.2.2.2.2.1, .ref h7, .ref h8, .ref h9, .ref h10, .int v.2.2.2.2.2.2.2.2.2.2.2.1, .int v.2.2.2.2.2.2.2.2.2.2.2.2.1, .int (1 : Int32), .ref h11, .int v.2.2.2.2.2.2.2.2.2.2.2.2.2.2.2])), (h1, .inl ((cA 1), 85, .inl v.1)), (h2, .inl ((cA 0), 9, .inr (.inl v.2.1))), (h3, .inl ((cA 1), 85, .inl v.2.2.1)), (h4, .inl ((cA 0), 9, .inr (.inl v.2.2.2.1))), (h5, .inl ((cA 1), 510, .inl v.2.2.2.2.1)), (h6, .inl ((cA 0), 54, .inr (.inl v.2.2.2.2.2.1))), (h7, .inl ((cA 1), 170, .inl v.2.2.2.2.2.2.2.1)), (h8, .inl ((cA 0), 18, .inr (.inl v.2.2.2.2.2.2.2.2.1))), (h9, .inl ((cA 2), 2, .inl v.2.2.2.2.2.2.2.2.2.1)), (h10, .inl ((cA 1), 80, .inl v.2.2.2.2.2.2.2.2.2.2.1)), (h11, .inl ((cA 1), 60, .inl v.2.2.2.2.2.2.2.2.2.2.2.2.2.2.1))] := hD
    refine lv_aload_n hx hb dX10_need_24 rfl (lv_at hl 0 rfl) ?_
    refine lv_dup hx hb dX10_need_25 rfl ?_
    refine va_get (D := D) (ci := 10) (v := .int v.2.2.2.2.2.2.2.2.2.2.2.2.1) (C := RX10) (T := TX10) (N := 16) hx hb hts hinX10 hown hK hP 0 rfl rfl 12 (by decide) (hts (.fieldLink RX10 194 "GyroTrainerModel" "spot" "I") (List.mem_of_getElem? (i := 2) rfl)) (fun _ h9 => h9) rfl dX10_need_26 ?_
    refine lv_aload_n hx hb dX10_need_29 rfl (lv_at hl 0 rfl) ?_
    refine va_get (D := D) (ci := 10) (v := .int (1 : Int32)) (C := RX10) (T := TX10) (N := 16) hx hb hts hinX10 hown hK hP 0 rfl rfl 13 (by decide) (hts (.fieldLink RX10 197 "GyroTrainerModel" "isWrong" "Z") (List.mem_of_getElem? (i := 1) rfl)) (fun _ h9 => h9) rfl dX10_need_30 ?_
    refine lv_if_eq (tgt := 40) hx hb dX10_need_33 (by decide) (fun c_2 => ?_) (fun c_2 => ?_)
    · skip
      exact absurd c_2 (by decide)
    · skip
      refine lv_iconst (v := 0) hx hb dX10_need_36 (by decide) ?_
      refine lv_goto (tgt := 41) hx hb dX10_need_37 (by decide) ?_
      refine lv_iadd hx hb dX10_need_41 ?_
      refine lv_topi (fun g_3 eg_3 => ?_)
      refine va_put (D := D) (ci := 10) (v := .int g_3) (ty := .int) (C := RX10) (T := TX10) (N := 16) hx hb hts hinX10 tyX10 tyX10_ok nmX10 hown hK hP hD hS 0 rfl rfl 12 (by decide) (hts (.fieldLink RX10 194 "GyroTrainerModel" "spot" "I") (List.mem_of_getElem? (i := 2) rfl)) (fun _ h9 => h9) rfl (by decide +kernel) rfl rfl (Nat.le_of_ble_eq_true rfl) dX10_need_42 (fun H locs hP hD hS => ?_)
      have hP : va_P D vwCl [(h0, .inr (10, [.ref h1, .ref h2, .ref h3, .ref h4, .ref h5, .ref h6, .int v.2.2.2.2.2.2.1, .ref h7, .ref h8, .ref h9, .ref h10, .int v.2.2.2.2.2.2.2.2.2.2.2.1, .int g_3, .int (1 : Int32), .ref h11, .int v.2.2.2.2.2.2.2.2.2.2.2.2.2.2.2])), (h1, .inl ((cA 1), 85, .inl v.1)), (h2, .inl ((cA 0), 9, .inr (.inl v.2.1))), (h3, .inl ((cA 1), 85, .inl v.2.2.1)), (h4, .inl ((cA 0), 9, .inr (.inl v.2.2.2.1))), (h5, .inl ((cA 1), 510, .inl v.2.2.2.2.1)), (h6, .inl ((cA 0), 54, .inr (.inl v.2.2.2.2.2.1))), (h7, .inl ((cA 1), 170, .inl v.2.2.2.2.2.2.2.1)), (h8, .inl ((cA 0), 18, .inr (.inl v.2.2.2.2.2.2.2.2.1))), (h9, .inl ((cA 2), 2, .inl v.2.2.2.2.2.2.2.2.2.1)), (h10, .inl ((cA 1), 80, .inl v.2.2.2.2.2.2.2.2.2.2.1)), (h11, .inl ((cA 1), 60, .inl v.2.2.2.2.2.2.2.2.2.2.2.2.2.2.1))] H := hP
      have hD : va_D A [(h0, .inr (10, [.ref h1, .ref h2, .ref h3, .ref h4, .ref h5, .ref h6, .int v.2.2.2.2.2.2.1, .ref h7, .ref h8, .ref h9, .ref h10, .int v.2.2.2.2.2.2.2.2.2.2.2.1, .int g_3, .int (1 : Int32), .ref h11, .int v.2.2.2.2.2.2.2.2.2.2.2.2.2.2.2])), (h1, .inl ((cA 1), 85, .inl v.1)), (h2, .inl ((cA 0), 9, .inr (.inl v.2.1))), (h3, .inl ((cA 1), 85, .inl v.2.2.1)), (h4, .inl ((cA 0), 9, .inr (.inl v.2.2.2.1))), (h5, .inl ((cA 1), 510, .inl v.2.2.2.2.1)), (h6, .inl ((cA 0), 54, .inr (.inl v.2.2.2.2.2.1))), (h7, .inl ((cA 1), 170, .inl v.2.2.2.2.2.2.2.1)), (h8, .inl ((cA 0), 18, .inr (.inl v.2.2.2.2.2.2.2.2.1))), (h9, .inl ((cA 2), 2, .inl v.2.2.2.2.2.2.2.2.2.1)), (h10, .inl ((cA 1), 80, .inl v.2.2.2.2.2.2.2.2.2.2.1)), (h11, .inl ((cA 1), 60, .inl v.2.2.2.2.2.2.2.2.2.2.2.2.2.2.1))] := hD
      have e9 : (fm_need v x1) = (v.1, v.2.1, v.2.2.1, v.2.2.2.1, v.2.2.2.2.1, v.2.2.2.2.2.1, v.2.2.2.2.2.2.1, v.2.2.2.2.2.2.2.1, v.2.2.2.2.2.2.2.2.1, v.2.2.2.2.2.2.2.2.2.1, v.2.2.2.2.2.2.2.2.2.2.1, v.2.2.2.2.2.2.2.2.2.2.2.1, g_3, (1 : Int32), v.2.2.2.2.2.2.2.2.2.2.2.2.2.2) := by unfold fm_need fm_ns fm_nw; simp only [if_neg c_1, show ((0 : Int32) = 0) = True from eq_self _, if_true, show ((1 : Int32) = 0) = False from eq_false (by decide), if_false]; rw [eg_3]; rfl
      have hP9 : va_P D vwCl (wX10 cA h0 h1 h2 h3 h4 h5 h6 h7 h8 h9 h10 h11 ((v.1, v.2.1, v.2.2.1, v.2.2.2.1, v.2.2.2.2.1, v.2.2.2.2.2.1, v.2.2.2.2.2.2.1, v.2.2.2.2.2.2.2.1, v.2.2.2.2.2.2.2.2.1, v.2.2.2.2.2.2.2.2.2.1, v.2.2.2.2.2.2.2.2.2.2.1, v.2.2.2.2.2.2.2.2.2.2.2.1, g_3, (1 : Int32), v.2.2.2.2.2.2.2.2.2.2.2.2.2.2) : vX10)) H := hP
      have hD9 : va_D A (wX10 cA h0 h1 h2 h3 h4 h5 h6 h7 h8 h9 h10 h11 ((v.1, v.2.1, v.2.2.1, v.2.2.2.1, v.2.2.2.2.1, v.2.2.2.2.2.1, v.2.2.2.2.2.2.1, v.2.2.2.2.2.2.2.1, v.2.2.2.2.2.2.2.2.1, v.2.2.2.2.2.2.2.2.2.1, v.2.2.2.2.2.2.2.2.2.2.1, v.2.2.2.2.2.2.2.2.2.2.2.1, g_3, (1 : Int32), v.2.2.2.2.2.2.2.2.2.2.2.2.2.2) : vX10)) := hD
      subst hQ
      exact W.vret hx hb hr (fun t ht hW => ⟨⟨(v.1, v.2.1, v.2.2.1, v.2.2.2.1, v.2.2.2.2.1, v.2.2.2.2.2.1, v.2.2.2.2.2.2.1, v.2.2.2.2.2.2.2.1, v.2.2.2.2.2.2.2.2.1, v.2.2.2.2.2.2.2.2.2.1, v.2.2.2.2.2.2.2.2.2.2.1, v.2.2.2.2.2.2.2.2.2.2.2.1, g_3, (1 : Int32), v.2.2.2.2.2.2.2.2.2.2.2.2.2.2), rfl, e9.symm, ⟨by rw [ht]; exact hP9, va_K.moved hW.alike hK, hD9⟩⟩, hS.F ht⟩) hS.2.2 dX10_need_45
  · skip
    refine lv_aload_n hx hb dX10_need_8 rfl (lv_at hl 0 rfl) ?_
    refine z_Ri (va_runV (As := []) (rest := [.ref h0]) ⟨hx, hb, hml, hown, hts⟩ (c_X10_next l D cA h0 h1 h2 h3 h4 h5 h6 h7 h8 h9 h10 h11 q0 v hq0 hq8 hs0) (cwV 0 hts gX10_need_X10_next rfl rfl rfl (by decide +kernel) ⟨Nat.le_of_ble_eq_true rfl, Nat.le_of_ble_eq_true rfl⟩) (zqVR hK hP hN (z_c1 (a := []) (b := []) rfl) 0 rfl rfl) rfl rfl hl.1 rfl (lv_room (Nat.le_of_ble_eq_true rfl)) dX10_need_9 ⟨Nat.le_of_ble_eq_true rfl, Nat.le_of_ble_eq_true rfl⟩) ?_
    refine lv_iload_n hx hb dX10_need_12 rfl (lv_at hl 1 rfl) ?_
    refine lv_icmp_eq (tgt := 20) hx hb dX10_need_13 (by decide) (fun c_4 => ?_) (fun c_4 => ?_)
    · skip
      refine lv_iconst (v := 0) hx hb dX10_need_20 (by decide) ?_
      refine va_put (D := D) (ci := 10) (v := .int (0 : Int32)) (ty := .boolean) (C := RX10) (T := TX10) (N := 16) hx hb hts hinX10 tyX10 tyX10_ok nmX10 hown hK hP hD hS 0 rfl rfl 13 (by decide) (hts (.fieldLink RX10 197 "GyroTrainerModel" "isWrong" "Z") (List.mem_of_getElem? (i := 1) rfl)) (fun _ h9 => h9) rfl (by decide +kernel) rfl rfl (Nat.le_of_ble_eq_true rfl) dX10_need_21 (fun H locs hP hD hS => ?_)
      have hP : va_P D vwCl [(h0, .inr (10, [.ref h1, .ref h2, .ref h3, .ref h4, .ref h5, .ref h6, .int v.2.2.2.2.2.2.1, .ref h7, .ref h8, .ref h9, .ref h10, .int v.2.2.2.2.2.2.2.2.2.2.2.1, .int v.2.2.2.2.2.2.2.2.2.2.2.2.1, .int (0 : Int32), .ref h11, .int v.2.2.2.2.2.2.2.2.2.2.2.2.2.2.2])), (h1, .inl ((cA 1), 85, .inl v.1)), (h2, .inl ((cA 0), 9, .inr (.inl v.2.1))), (h3, .inl ((cA 1), 85, .inl v.2.2.1)), (h4, .inl ((cA 0), 9, .inr (.inl v.2.2.2.1))), (h5, .inl ((cA 1), 510, .inl v.2.2.2.2.1)), (h6, .inl ((cA 0), 54, .inr (.inl v.2.2.2.2.2.1))), (h7, .inl ((cA 1), 170, .inl v.2.2.2.2.2.2.2.1)), (h8, .inl ((cA 0), 18, .inr (.inl v.2.2.2.2.2.2.2.2.1))), (h9, .inl ((cA 2), 2, .inl v.2.2.2.2.2.2.2.2.2.1)), (h10, .inl ((cA 1), 80, .inl v.2.2.2.2.2.2.2.2.2.2.1)), (h11, .inl ((cA 1), 60, .inl v.2.2.2.2.2.2.2.2.2.2.2.2.2.2.1))] H := hP
      have hD : va_D A [(h0, .inr (10, [.ref h1, .ref h2, .ref h3, .ref h4, .ref h5, .ref h6, .int v.2.2.2.2.2.2.1, .ref h7, .ref h8, .ref h9, .ref h10, .int v.2.2.2.2.2.2.2.2.2.2.2.1, .int v.2.2.2.2.2.2.2.2.2.2.2.2.1, .int (0 : Int32), .ref h11, .int v.2.2.2.2.2.2.2.2.2.2.2.2.2.2.2])), (h1, .inl ((cA 1), 85, .inl v.1)), (h2, .inl ((cA 0), 9, .inr (.inl v.2.1))), (h3, .inl ((cA 1), 85, .inl v.2.2.1)), (h4, .inl ((cA 0), 9, .inr (.inl v.2.2.2.1))), (h5, .inl ((cA 1), 510, .inl v.2.2.2.2.1)), (h6, .inl ((cA 0), 54, .inr (.inl v.2.2.2.2.2.1))), (h7, .inl ((cA 1), 170, .inl v.2.2.2.2.2.2.2.1)), (h8, .inl ((cA 0), 18, .inr (.inl v.2.2.2.2.2.2.2.2.1))), (h9, .inl ((cA 2), 2, .inl v.2.2.2.2.2.2.2.2.2.1)), (h10, .inl ((cA 1), 80, .inl v.2.2.2.2.2.2.2.2.2.2.1)), (h11, .inl ((cA 1), 60, .inl v.2.2.2.2.2.2.2.2.2.2.2.2.2.2.1))] := hD
      refine lv_aload_n hx hb dX10_need_24 rfl (lv_at hl 0 rfl) ?_
      refine lv_dup hx hb dX10_need_25 rfl ?_
      refine va_get (D := D) (ci := 10) (v := .int v.2.2.2.2.2.2.2.2.2.2.2.2.1) (C := RX10) (T := TX10) (N := 16) hx hb hts hinX10 hown hK hP 0 rfl rfl 12 (by decide) (hts (.fieldLink RX10 194 "GyroTrainerModel" "spot" "I") (List.mem_of_getElem? (i := 2) rfl)) (fun _ h9 => h9) rfl dX10_need_26 ?_
      refine lv_aload_n hx hb dX10_need_29 rfl (lv_at hl 0 rfl) ?_
      refine va_get (D := D) (ci := 10) (v := .int (0 : Int32)) (C := RX10) (T := TX10) (N := 16) hx hb hts hinX10 hown hK hP 0 rfl rfl 13 (by decide) (hts (.fieldLink RX10 197 "GyroTrainerModel" "isWrong" "Z") (List.mem_of_getElem? (i := 1) rfl)) (fun _ h9 => h9) rfl dX10_need_30 ?_
      refine lv_if_eq (tgt := 40) hx hb dX10_need_33 (by decide) (fun c_5 => ?_) (fun c_5 => ?_)
      · skip
        refine lv_iconst (v := 1) hx hb dX10_need_40 (by decide) ?_
        refine lv_iadd hx hb dX10_need_41 ?_
        refine lv_topi (fun g_6 eg_6 => ?_)
        refine va_put (D := D) (ci := 10) (v := .int g_6) (ty := .int) (C := RX10) (T := TX10) (N := 16) hx hb hts hinX10 tyX10 tyX10_ok nmX10 hown hK hP hD hS 0 rfl rfl 12 (by decide) (hts (.fieldLink RX10 194 "GyroTrainerModel" "spot" "I") (List.mem_of_getElem? (i := 2) rfl)) (fun _ h9 => h9) rfl (by decide +kernel) rfl rfl (Nat.le_of_ble_eq_true rfl) dX10_need_42 (fun H locs hP hD hS => ?_)
        have hP : va_P D vwCl [(h0, .inr (10, [.ref h1, .ref h2, .ref h3, .ref h4, .ref h5, .ref h6, .int v.2.2.2.2.2.2.1, .ref h7, .ref h8, .ref h9, .ref h10, .int v.2.2.2.2.2.2.2.2.2.2.2.1, .int g_6, .int (0 : Int32), .ref h11, .int v.2.2.2.2.2.2.2.2.2.2.2.2.2.2.2])), (h1, .inl ((cA 1), 85, .inl v.1)), (h2, .inl ((cA 0), 9, .inr (.inl v.2.1))), (h3, .inl ((cA 1), 85, .inl v.2.2.1)), (h4, .inl ((cA 0), 9, .inr (.inl v.2.2.2.1))), (h5, .inl ((cA 1), 510, .inl v.2.2.2.2.1)), (h6, .inl ((cA 0), 54, .inr (.inl v.2.2.2.2.2.1))), (h7, .inl ((cA 1), 170, .inl v.2.2.2.2.2.2.2.1)), (h8, .inl ((cA 0), 18, .inr (.inl v.2.2.2.2.2.2.2.2.1))), (h9, .inl ((cA 2), 2, .inl v.2.2.2.2.2.2.2.2.2.1)), (h10, .inl ((cA 1), 80, .inl v.2.2.2.2.2.2.2.2.2.2.1)), (h11, .inl ((cA 1), 60, .inl v.2.2.2.2.2.2.2.2.2.2.2.2.2.2.1))] H := hP
        have hD : va_D A [(h0, .inr (10, [.ref h1, .ref h2, .ref h3, .ref h4, .ref h5, .ref h6, .int v.2.2.2.2.2.2.1, .ref h7, .ref h8, .ref h9, .ref h10, .int v.2.2.2.2.2.2.2.2.2.2.2.1, .int g_6, .int (0 : Int32), .ref h11, .int v.2.2.2.2.2.2.2.2.2.2.2.2.2.2.2])), (h1, .inl ((cA 1), 85, .inl v.1)), (h2, .inl ((cA 0), 9, .inr (.inl v.2.1))), (h3, .inl ((cA 1), 85, .inl v.2.2.1)), (h4, .inl ((cA 0), 9, .inr (.inl v.2.2.2.1))), (h5, .inl ((cA 1), 510, .inl v.2.2.2.2.1)), (h6, .inl ((cA 0), 54, .inr (.inl v.2.2.2.2.2.1))), (h7, .inl ((cA 1), 170, .inl v.2.2.2.2.2.2.2.1)), (h8, .inl ((cA 0), 18, .inr (.inl v.2.2.2.2.2.2.2.2.1))), (h9, .inl ((cA 2), 2, .inl v.2.2.2.2.2.2.2.2.2.1)), (h10, .inl ((cA 1), 80, .inl v.2.2.2.2.2.2.2.2.2.2.1)), (h11, .inl ((cA 1), 60, .inl v.2.2.2.2.2.2.2.2.2.2.2.2.2.2.1))] := hD
        have e9 : (fm_need v x1) = (v.1, v.2.1, v.2.2.1, v.2.2.2.1, v.2.2.2.2.1, v.2.2.2.2.2.1, v.2.2.2.2.2.2.1, v.2.2.2.2.2.2.2.1, v.2.2.2.2.2.2.2.2.1, v.2.2.2.2.2.2.2.2.2.1, v.2.2.2.2.2.2.2.2.2.2.1, v.2.2.2.2.2.2.2.2.2.2.2.1, g_6, (0 : Int32), v.2.2.2.2.2.2.2.2.2.2.2.2.2.2) := by unfold fm_need fm_ns fm_nw; simp only [if_pos c_1, if_pos c_4, show ((0 : Int32) = 0) = True from eq_self _, if_true, show ((1 : Int32) = 0) = False from eq_false (by decide), if_false]; rw [eg_6]; rfl
        have hP9 : va_P D vwCl (wX10 cA h0 h1 h2 h3 h4 h5 h6 h7 h8 h9 h10 h11 ((v.1, v.2.1, v.2.2.1, v.2.2.2.1, v.2.2.2.2.1, v.2.2.2.2.2.1, v.2.2.2.2.2.2.1, v.2.2.2.2.2.2.2.1, v.2.2.2.2.2.2.2.2.1, v.2.2.2.2.2.2.2.2.2.1, v.2.2.2.2.2.2.2.2.2.2.1, v.2.2.2.2.2.2.2.2.2.2.2.1, g_6, (0 : Int32), v.2.2.2.2.2.2.2.2.2.2.2.2.2.2) : vX10)) H := hP
        have hD9 : va_D A (wX10 cA h0 h1 h2 h3 h4 h5 h6 h7 h8 h9 h10 h11 ((v.1, v.2.1, v.2.2.1, v.2.2.2.1, v.2.2.2.2.1, v.2.2.2.2.2.1, v.2.2.2.2.2.2.1, v.2.2.2.2.2.2.2.1, v.2.2.2.2.2.2.2.2.1, v.2.2.2.2.2.2.2.2.2.1, v.2.2.2.2.2.2.2.2.2.2.1, v.2.2.2.2.2.2.2.2.2.2.2.1, g_6, (0 : Int32), v.2.2.2.2.2.2.2.2.2.2.2.2.2.2) : vX10)) := hD
        subst hQ
        exact W.vret hx hb hr (fun t ht hW => ⟨⟨(v.1, v.2.1, v.2.2.1, v.2.2.2.1, v.2.2.2.2.1, v.2.2.2.2.2.1, v.2.2.2.2.2.2.1, v.2.2.2.2.2.2.2.1, v.2.2.2.2.2.2.2.2.1, v.2.2.2.2.2.2.2.2.2.1, v.2.2.2.2.2.2.2.2.2.2.1, v.2.2.2.2.2.2.2.2.2.2.2.1, g_6, (0 : Int32), v.2.2.2.2.2.2.2.2.2.2.2.2.2.2), rfl, e9.symm, ⟨by rw [ht]; exact hP9, va_K.moved hW.alike hK, hD9⟩⟩, hS.F ht⟩) hS.2.2 dX10_need_45
      · skip
        exact absurd (by decide) c_5
    · skip
      refine lv_iconst (v := 1) hx hb dX10_need_16 (by decide) ?_
      refine lv_goto (tgt := 21) hx hb dX10_need_17 (by decide) ?_
      refine va_put (D := D) (ci := 10) (v := .int (1 : Int32)) (ty := .boolean) (C := RX10) (T := TX10) (N := 16) hx hb hts hinX10 tyX10 tyX10_ok nmX10 hown hK hP hD hS 0 rfl rfl 13 (by decide) (hts (.fieldLink RX10 197 "GyroTrainerModel" "isWrong" "Z") (List.mem_of_getElem? (i := 1) rfl)) (fun _ h9 => h9) rfl (by decide +kernel) rfl rfl (Nat.le_of_ble_eq_true rfl) dX10_need_21 (fun H locs hP hD hS => ?_)
      have hP : va_P D vwCl [(h0, .inr (10, [.ref h1, .ref h2, .ref h3, .ref h4, .ref h5, .ref h6, .int v.2.2.2.2.2.2.1, .ref h7, .ref h8, .ref h9, .ref h10, .int v.2.2.2.2.2.2.2.2.2.2.2.1, .int v.2.2.2.2.2.2.2.2.2.2.2.2.1, .int (1 : Int32), .ref h11, .int v.2.2.2.2.2.2.2.2.2.2.2.2.2.2.2])), (h1, .inl ((cA 1), 85, .inl v.1)), (h2, .inl ((cA 0), 9, .inr (.inl v.2.1))), (h3, .inl ((cA 1), 85, .inl v.2.2.1)), (h4, .inl ((cA 0), 9, .inr (.inl v.2.2.2.1))), (h5, .inl ((cA 1), 510, .inl v.2.2.2.2.1)), (h6, .inl ((cA 0), 54, .inr (.inl v.2.2.2.2.2.1))), (h7, .inl ((cA 1), 170, .inl v.2.2.2.2.2.2.2.1)), (h8, .inl ((cA 0), 18, .inr (.inl v.2.2.2.2.2.2.2.2.1))), (h9, .inl ((cA 2), 2, .inl v.2.2.2.2.2.2.2.2.2.1)), (h10, .inl ((cA 1), 80, .inl v.2.2.2.2.2.2.2.2.2.2.1)), (h11, .inl ((cA 1), 60, .inl v.2.2.2.2.2.2.2.2.2.2.2.2.2.2.1))] H := hP
      have hD : va_D A [(h0, .inr (10, [.ref h1, .ref h2, .ref h3, .ref h4, .ref h5, .ref h6, .int v.2.2.2.2.2.2.1, .ref h7, .ref h8, .ref h9, .ref h10, .int v.2.2.2.2.2.2.2.2.2.2.2.1, .int v.2.2.2.2.2.2.2.2.2.2.2.2.1, .int (1 : Int32), .ref h11, .int v.2.2.2.2.2.2.2.2.2.2.2.2.2.2.2])), (h1, .inl ((cA 1), 85, .inl v.1)), (h2, .inl ((cA 0), 9, .inr (.inl v.2.1))), (h3, .inl ((cA 1), 85, .inl v.2.2.1)), (h4, .inl ((cA 0), 9, .inr (.inl v.2.2.2.1))), (h5, .inl ((cA 1), 510, .inl v.2.2.2.2.1)), (h6, .inl ((cA 0), 54, .inr (.inl v.2.2.2.2.2.1))), (h7, .inl ((cA 1), 170, .inl v.2.2.2.2.2.2.2.1)), (h8, .inl ((cA 0), 18, .inr (.inl v.2.2.2.2.2.2.2.2.1))), (h9, .inl ((cA 2), 2, .inl v.2.2.2.2.2.2.2.2.2.1)), (h10, .inl ((cA 1), 80, .inl v.2.2.2.2.2.2.2.2.2.2.1)), (h11, .inl ((cA 1), 60, .inl v.2.2.2.2.2.2.2.2.2.2.2.2.2.2.1))] := hD
      refine lv_aload_n hx hb dX10_need_24 rfl (lv_at hl 0 rfl) ?_
      refine lv_dup hx hb dX10_need_25 rfl ?_
      refine va_get (D := D) (ci := 10) (v := .int v.2.2.2.2.2.2.2.2.2.2.2.2.1) (C := RX10) (T := TX10) (N := 16) hx hb hts hinX10 hown hK hP 0 rfl rfl 12 (by decide) (hts (.fieldLink RX10 194 "GyroTrainerModel" "spot" "I") (List.mem_of_getElem? (i := 2) rfl)) (fun _ h9 => h9) rfl dX10_need_26 ?_
      refine lv_aload_n hx hb dX10_need_29 rfl (lv_at hl 0 rfl) ?_
      refine va_get (D := D) (ci := 10) (v := .int (1 : Int32)) (C := RX10) (T := TX10) (N := 16) hx hb hts hinX10 hown hK hP 0 rfl rfl 13 (by decide) (hts (.fieldLink RX10 197 "GyroTrainerModel" "isWrong" "Z") (List.mem_of_getElem? (i := 1) rfl)) (fun _ h9 => h9) rfl dX10_need_30 ?_
      refine lv_if_eq (tgt := 40) hx hb dX10_need_33 (by decide) (fun c_7 => ?_) (fun c_7 => ?_)
      · skip
        exact absurd c_7 (by decide)
      · skip
        refine lv_iconst (v := 0) hx hb dX10_need_36 (by decide) ?_
        refine lv_goto (tgt := 41) hx hb dX10_need_37 (by decide) ?_
        refine lv_iadd hx hb dX10_need_41 ?_
        refine lv_topi (fun g_8 eg_8 => ?_)
        refine va_put (D := D) (ci := 10) (v := .int g_8) (ty := .int) (C := RX10) (T := TX10) (N := 16) hx hb hts hinX10 tyX10 tyX10_ok nmX10 hown hK hP hD hS 0 rfl rfl 12 (by decide) (hts (.fieldLink RX10 194 "GyroTrainerModel" "spot" "I") (List.mem_of_getElem? (i := 2) rfl)) (fun _ h9 => h9) rfl (by decide +kernel) rfl rfl (Nat.le_of_ble_eq_true rfl) dX10_need_42 (fun H locs hP hD hS => ?_)
        have hP : va_P D vwCl [(h0, .inr (10, [.ref h1, .ref h2, .ref h3, .ref h4, .ref h5, .ref h6, .int v.2.2.2.2.2.2.1, .ref h7, .ref h8, .ref h9, .ref h10, .int v.2.2.2.2.2.2.2.2.2.2.2.1, .int g_8, .int (1 : Int32), .ref h11, .int v.2.2.2.2.2.2.2.2.2.2.2.2.2.2.2])), (h1, .inl ((cA 1), 85, .inl v.1)), (h2, .inl ((cA 0), 9, .inr (.inl v.2.1))), (h3, .inl ((cA 1), 85, .inl v.2.2.1)), (h4, .inl ((cA 0), 9, .inr (.inl v.2.2.2.1))), (h5, .inl ((cA 1), 510, .inl v.2.2.2.2.1)), (h6, .inl ((cA 0), 54, .inr (.inl v.2.2.2.2.2.1))), (h7, .inl ((cA 1), 170, .inl v.2.2.2.2.2.2.2.1)), (h8, .inl ((cA 0), 18, .inr (.inl v.2.2.2.2.2.2.2.2.1))), (h9, .inl ((cA 2), 2, .inl v.2.2.2.2.2.2.2.2.2.1)), (h10, .inl ((cA 1), 80, .inl v.2.2.2.2.2.2.2.2.2.2.1)), (h11, .inl ((cA 1), 60, .inl v.2.2.2.2.2.2.2.2.2.2.2.2.2.2.1))] H := hP
        have hD : va_D A [(h0, .inr (10, [.ref h1, .ref h2, .ref h3, .ref h4, .ref h5, .ref h6, .int v.2.2.2.2.2.2.1, .ref h7, .ref h8, .ref h9, .ref h10, .int v.2.2.2.2.2.2.2.2.2.2.2.1, .int g_8, .int (1 : Int32), .ref h11, .int v.2.2.2.2.2.2.2.2.2.2.2.2.2.2.2])), (h1, .inl ((cA 1), 85, .inl v.1)), (h2, .inl ((cA 0), 9, .inr (.inl v.2.1))), (h3, .inl ((cA 1), 85, .inl v.2.2.1)), (h4, .inl ((cA 0), 9, .inr (.inl v.2.2.2.1))), (h5, .inl ((cA 1), 510, .inl v.2.2.2.2.1)), (h6, .inl ((cA 0), 54, .inr (.inl v.2.2.2.2.2.1))), (h7, .inl ((cA 1), 170, .inl v.2.2.2.2.2.2.2.1)), (h8, .inl ((cA 0), 18, .inr (.inl v.2.2.2.2.2.2.2.2.1))), (h9, .inl ((cA 2), 2, .inl v.2.2.2.2.2.2.2.2.2.1)), (h10, .inl ((cA 1), 80, .inl v.2.2.2.2.2.2.2.2.2.2.1)), (h11, .inl ((cA 1), 60, .inl v.2.2.2.2.2.2.2.2.2.2.2.2.2.2.1))] := hD
        have e9 : (fm_need v x1) = (v.1, v.2.1, v.2.2.1, v.2.2.2.1, v.2.2.2.2.1, v.2.2.2.2.2.1, v.2.2.2.2.2.2.1, v.2.2.2.2.2.2.2.1, v.2.2.2.2.2.2.2.2.1, v.2.2.2.2.2.2.2.2.2.1, v.2.2.2.2.2.2.2.2.2.2.1, v.2.2.2.2.2.2.2.2.2.2.2.1, g_8, (1 : Int32), v.2.2.2.2.2.2.2.2.2.2.2.2.2.2) := by unfold fm_need fm_ns fm_nw; simp only [if_pos c_1, if_neg c_4, show ((0 : Int32) = 0) = True from eq_self _, if_true, show ((1 : Int32) = 0) = False from eq_false (by decide), if_false]; rw [eg_8]; rfl
        have hP9 : va_P D vwCl (wX10 cA h0 h1 h2 h3 h4 h5 h6 h7 h8 h9 h10 h11 ((v.1, v.2.1, v.2.2.1, v.2.2.2.1, v.2.2.2.2.1, v.2.2.2.2.2.1, v.2.2.2.2.2.2.1, v.2.2.2.2.2.2.2.1, v.2.2.2.2.2.2.2.2.1, v.2.2.2.2.2.2.2.2.2.1, v.2.2.2.2.2.2.2.2.2.2.1, v.2.2.2.2.2.2.2.2.2.2.2.1, g_8, (1 : Int32), v.2.2.2.2.2.2.2.2.2.2.2.2.2.2) : vX10)) H := hP
        have hD9 : va_D A (wX10 cA h0 h1 h2 h3 h4 h5 h6 h7 h8 h9 h10 h11 ((v.1, v.2.1, v.2.2.1, v.2.2.2.1, v.2.2.2.2.1, v.2.2.2.2.2.1, v.2.2.2.2.2.2.1, v.2.2.2.2.2.2.2.1, v.2.2.2.2.2.2.2.2.1, v.2.2.2.2.2.2.2.2.2.1, v.2.2.2.2.2.2.2.2.2.2.1, v.2.2.2.2.2.2.2.2.2.2.2.1, g_8, (1 : Int32), v.2.2.2.2.2.2.2.2.2.2.2.2.2.2) : vX10)) := hD
        subst hQ
        exact W.vret hx hb hr (fun t ht hW => ⟨⟨(v.1, v.2.1, v.2.2.1, v.2.2.2.1, v.2.2.2.2.1, v.2.2.2.2.2.1, v.2.2.2.2.2.2.1, v.2.2.2.2.2.2.2.1, v.2.2.2.2.2.2.2.2.1, v.2.2.2.2.2.2.2.2.2.1, v.2.2.2.2.2.2.2.2.2.2.1, v.2.2.2.2.2.2.2.2.2.2.2.1, g_8, (1 : Int32), v.2.2.2.2.2.2.2.2.2.2.2.2.2.2), rfl, e9.symm, ⟨by rw [ht]; exact hP9, va_K.moved hW.alike hK, hD9⟩⟩, hS.F ht⟩) hS.2.2 dX10_need_45
