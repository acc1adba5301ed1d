/-! rows of numbers that only grow at the front, legs, the ship, the compass, swings, sights -/
def zPreT (t n : Nat) (f : Nat → Int64) : State → Prop := fun U => va_T .long t n (fun j => .long (f j)) (fun _ => False) U U.heap
theorem zPreT.blind {av : List Value} {t n : Nat} {f : Nat → Int64} : FrameBlind (va_Pc av (zPreT t n f)) := fun a U g mk q => by
  obtain ⟨q0, qT⟩ := q
  exact ⟨q0, va_T.moved (u := U) (U := U.calling g mk a) (Vm.Alike.refl U.vm) qT⟩
theorem zpT {s : State} {A : Nat → Prop} {H : Heap} {locs : List Loc} {As : List Value} {t n : Nat} {f : Nat → Int64} (hT : va_T .long t n (fun j => .long (f j)) A s s.heap) (hS : va_S A s.heap H locs) : PreS s H (va_Pc As (zPreT t n f)) As :=
  ⟨zPreT.blind, fun U hU hW => ⟨rfl, by
    show va_T _ _ _ _ _ U U.heap
    rw [hU]
    exact ((hT.kept (fun a ha hn => hS.2.1 a ha hn)).moved hW.alike).narrow (fun _ h => h.elim)⟩⟩
set_option maxHeartbeats 4000000 in
set_option maxRecDepth 100000 in
/-- at, over a static row -/
theorem c_X9_at_T (l : Launch) (D : va_G) (cA : Nat → ClassId) (t : Nat) (n : Nat) (f : Nat → Int64) (x0 : Int32) (hn : n < 2 ^ 31) : Met l yX9_at wsX9_at ({ frames := 0, cells := 0, slots := 0, locals := 0 }) (va_Pc [.ref t, .int x0] (zPreT t n f)) (vp_Sl (fun x => x = (zf_at n f x0))) 0 0 (fun _ => False) := by
  refine Met.ofW (cc := cX9_at) (maxL := 2) (ret := (some .long)) (by decide) rfl ?_
  intro p e s m args below meth c s₁ B hml hv
  obtain ⟨rfl, hT⟩ := hv
  have hx := B.exec
  have hb := B.bytes
  have hr := B.returns
  have hlocks := B.notSynchronized
  have hS : va_S (fun _ => False) s.heap s.heap [] := va_S.rf
  have hl := lv_entry ([.ref t, .int x0]) (n := 2) (Nat.le_of_ble_eq_true rfl)
  rw [lg_entry_eq]
  generalize (lg_sl ([.ref t, .int x0]) ++ List.replicate (2 - (lg_sl ([.ref t, .int x0])).length) Slot.unset).toArray = ls at hl ⊢
  have hl : lv_has ls 2 [(0, .ref t), (1, .int x0)] := hl
  refine lv_iload_n hx hb dX9_at_0 rfl (lv_at hl 1 rfl) ?_
  refine lv_if_lt (tgt := 16) hx hb dX9_at_1 (by decide) (fun c_1 => ?_) (fun c_1 => ?_)
  · refine lv_lconst (v := 0) hx hb dX9_at_16 (by decide) ?_
    have e9 : zf_at n f x0 = 0 := by unfold zf_at; rw [if_pos c_1]
    exact W.lret (v := 0) hx hb hr (fun t ht hW => ⟨_, rfl, e9.symm, ht⟩) (fun q h => by cases h) dX9_at_17
  · refine lv_iload_n hx hb dX9_at_4 rfl (lv_at hl 1 rfl) ?_
    refine lv_aload_n hx hb dX9_at_5 rfl (lv_at hl 0 rfl) ?_
    refine va_tlen (v := nI n) hx hb hT hS rfl dX9_at_6 ?_
    refine lv_icmp_ge (tgt := 16) hx hb dX9_at_7 (by decide) (fun c_2 => ?_) (fun c_2 => ?_)
    · refine lv_lconst (v := 0) hx hb dX9_at_16 (by decide) ?_
      have e9 : zf_at n f x0 = 0 := by unfold zf_at; rw [if_neg c_1, if_pos c_2]
      exact W.lret (v := 0) hx hb hr (fun t ht hW => ⟨_, rfl, e9.symm, ht⟩) (fun q h => by cases h) dX9_at_17
    · obtain ⟨k, hk, ek⟩ := z_ixof c_1 c_2 hn
      refine lv_aload_n hx hb dX9_at_10 rfl (lv_at hl 0 rfl) ?_
      refine lv_iload_n hx hb dX9_at_11 rfl (lv_at hl 1 rfl) ?_
      subst ek
      refine va_tl (v := .long (f k)) hx hb hT hS (vp_in_nI hk hn) (by rw [nI_clamp (by omega)]) dX9_at_12 ?_
      refine lv_goto (tgt := 17) hx hb dX9_at_13 (by decide) ?_
      have e9 : zf_at n f (nI k) = f k := by unfold zf_at; rw [if_neg c_1, if_neg c_2, nI_clamp (by omega)]
      exact W.lret (v := f k) hx hb hr (fun t ht hW => ⟨_, rfl, e9.symm, ht⟩) (fun q h => by cases h) dX9_at_17
def zsh (f : Nat → Int64) (x : Int64) : Nat → Int64 := fun j => if j = 0 then x else f (j - 1)
/-- the row while it is moved up by one: places from k on hold their neighbours -/
def zup (k : Nat) (f : Nat → Int64) : Nat → Int64 := fun j => if k < j then f (j - 1) else f j
theorem zup_s (k : Nat) (f : Nat → Int64) : vp_updL (zup (k + 1) f) (k + 1) (zup (k + 1) f k) = zup k f := by
  funext j
  unfold vp_updL zup
  by_cases h : j = k + 1
  · subst h; rw [if_pos rfl, if_neg (by omega), if_pos (by omega)]; rfl
  · rw [if_neg h]
    by_cases h2 : k + 1 < j
    · rw [if_pos h2, if_pos (by omega)]
    · rw [if_neg h2, if_neg (by omega)]
def zf_ladd (n : Nat) (v : vX2) (x : Int64) : vX2 := (zsh v.1 x, if nI n < v.2 + 1 then nI n else v.2 + 1)
def zsum (f : Nat → Int64) : Nat → Int64
  | 0 => 0
  | k + 1 => zsum f k + f k
def zf_lclear (v : vX2) : vX2 := (v.1, 0)
def zf_gadd (n : Nat) (v : vX3) (a b d : Int64) : vX3 := if v.2.2.2 < nI n then (zf_write n v.1 v.2.2.2 a, zf_write n v.2.1 v.2.2.2 b, zf_write n v.2.2.1 v.2.2.2 d, v.2.2.2 + 1) else v
/-- the row while its first is dropped: places below k - 1 hold their neighbours -/
def zdn (k : Nat) (f : Nat → Int64) : Nat → Int64 := fun j => if j + 1 < k then f (j + 1) else f j
theorem zdn_1 (f : Nat → Int64) : zdn 1 f = f := by
  funext j; unfold zdn; rw [if_neg (by omega)]
theorem zdn_s (n k : Nat) (f : Nat → Int64) (hk : k + 1 < n) (hn : n < 2 ^ 31) : zf_write n (zdn (k + 1) f) (nI (k + 1) - 1) (zf_at n (zdn (k + 1) f) (nI (k + 1))) = zdn (k + 2) f := by
  rw [nI_pred]
  unfold zf_write zf_at
  rw [if_neg (nI_pos (by omega)), if_neg (nI_ge (by omega) (by omega)), if_neg (nI_pos (by omega)), if_neg (nI_ge (by omega) (by omega)), nI_clamp (by omega), nI_clamp (by omega)]
  funext j
  unfold vp_updL zdn
  by_cases h : j = k
  · subst h; rw [if_pos rfl, if_neg (by omega), if_pos (by omega)]
  · rw [if_neg h]
    by_cases h2 : j + 1 < k + 1
    · rw [if_pos h2, if_pos (by omega)]
    · rw [if_neg h2, if_neg (by omega)]
def zf_gdrop (c : Nat) (v : vX3) : vX3 := (zdn c v.1, zdn c v.2.1, zdn c v.2.2.1, if 0 < v.2.2.2 - 1 then v.2.2.2 - 1 else 0)
def zf_gclear (v : vX3) : vX3 := (v.1, v.2.1, v.2.2.1, 0)
def zf_take (v : vX5) : vX5 := if v.1.2.2.2 ≤ 0 then v else (v.1, v.2.1, zf_at 8 v.1.1 0, zf_at 8 v.1.2.1 0, v.2.2.2.2)
def zf_shadd (v : vX5) (a b d : Int64) : vX5 := zf_take (zf_gadd 8 v.1 a b d, v.2)
def zf_left (v : vX5) : Int64 := if v.1.2.2.2 ≤ 0 then 0 else zf_at 8 v.1.2.2.1 0
/-- the first leg's minute is over (k: how many legs there are) -/
def zf_legMin (v : vX5) : vX3 := (v.1.1, v.1.2.1, zf_write 8 v.1.2.2.1 0 (zf_at 8 v.1.2.2.1 0 - 1), v.1.2.2.2)
def zf_sailLeg (k : Nat) (v : vX5) : vX5 :=
  if zf_at 8 v.1.2.2.1 0 - 1 ≤ 0 then
    (if (zf_gdrop k (zf_legMin v)).2.2.2 = 0 then zf_take (zf_gdrop k (zf_legMin v), v.2.1, v.2.2.1, 0, v.2.2.2.2) else zf_take (zf_gdrop k (zf_legMin v), v.2))
  else (zf_legMin v, v.2)
def zf_sail (k : Nat) (v : vX5) : vX5 :=
  if v.1.2.2.2 ≤ 0 then (v.1, zf_limited (v.2.1 + v.2.2.2.1 * 28 * zf_cosine v.2.2.1 / 1000000) 70000000, v.2.2.1, v.2.2.2.1, v.2.2.2.2 + v.2.2.2.1)
  else zf_sailLeg k (v.1, zf_limited (v.2.1 + v.2.2.2.1 * 28 * zf_cosine v.2.2.1 / 1000000) 70000000, v.2.2.1, v.2.2.2.1, v.2.2.2.2 + v.2.2.2.1)
def zf_swing (v : vX0) (g r rest co : Int64) : vX0 :=
  let t1 := v.2.2.1 - g * (v.2.1 - rest) / 1000 * co / 1000000
  let t2 := t1 - t1 * zf_at 5 z_damp v.2.2.2.2.2.1 / 1000
  let t3 := zf_limited t2 900000
  (v.1, zf_limited (v.2.1 + r * t3 / 1000) 1800000, t3, v.2.2.2)
def zf_forget (v : vX8) : vX8 := (zf_lclear v.1, zf_lclear v.2.1, zf_lclear v.2.2.1, v.2.2.2.1, 0, v.2.2.2.2.2)
def zf_dir (b a : Int64) : Int32 := if a ≤ b then -1 else 1
def zf_follow (v : vX8) (b a t : Int64) : vX8 :=
  if a = b then (v.1, v.2.1, v.2.2.1, v.2.2.2.1 + a, v.2.2.2.2)
  else if v.2.2.2.2.1 = -zf_dir b a then (zf_ladd 8 v.1 b, zf_ladd 8 v.2.1 t, zf_ladd 8 v.2.2.1 v.2.2.2.1, v.2.2.2.1 + a, zf_dir b a, v.2.2.2.2.2 + 1)
  else (v.1, v.2.1, v.2.2.1, v.2.2.2.1 + a, zf_dir b a, v.2.2.2.2.2)
def zf_can (v : vX8) : Int32 := if v.1.2 < 3 then 0 else 1
def zf_byTurns (v : vX8) : Int64 := (zf_at 8 v.1.1 2 + 2 * zf_at 8 v.1.1 1 + zf_at 8 v.1.1 0) / 4
def zf_byMean (v : vX8) : Int64 := zf_quot (zf_at 8 v.2.2.1.1 0 - zf_at 8 v.2.2.1.1 2) (zf_at 8 v.2.1.1 0 - zf_at 8 v.2.1.1 2)
def zf_last (v : vX8) : Int64 := zf_at 8 v.1.1 0 - zf_at 8 v.1.1 1
def zf_addLine (v : vX6) (b : Int64) : Int32 × vX6 := (v.2.2.1, zf_write 6 v.1 v.2.2.1 b, v.2.1, v.2.2.1 + 1, v.2.2.2)
def zf_addCheck (v : vX6) (d : Int64) : vX6 := (v.1, zf_ladd 5 v.2.1 d, v.2.2.1, v.2.2.2 + 1)
def zf_rest (S : vX7) : Int64 := zf_free (zf_at 9 S.1 2) S.2.1.2.1 S.2.1.2.2.2.1 S.2.1.2.2.1 - zf_free (zf_at 9 S.1 2) (S.2.2.1.2.2.2.1.toInt64 * 1000000) S.2.2.1.2.2.2.2.1.toInt64 S.2.1.2.2.1
def zf_abs (x : Int64) : Int64 := if 0 < x then x else -x
def zf_calm (S : vX7) (b : Int64) : Int32 := if b < (if 0 < S.2.2.1.2.1 - zf_rest S then S.2.2.1.2.1 - zf_rest S else -(S.2.2.1.2.1 - zf_rest S)) then 0 else if b < (if 0 < S.2.2.1.2.2.1 then S.2.2.1.2.2.1 else -S.2.2.1.2.2.1) then 0 else 1
def zf_since (S : vX7) : Int64 := if S.2.2.1.2.2.2.2.2.2 = -1 then -6 else S.2.2.2.2.2.1 - S.2.2.1.2.2.2.2.2.2
def zf_minute (k : Nat) (S : vX7) : vX7 :=
  let g := zf_swing S.2.2.1 (zf_at 9 S.1 0) (zf_at 9 S.1 1) (zf_rest S) (zf_cosine (zf_cLat S.2.1.2.1))
  (S.1, zf_sail k S.2.1, (zf_write 5 g.1 g.2.2.2.2.2.1 (zf_at 5 g.1 g.2.2.2.2.2.1 + 1), g.2), zf_follow S.2.2.2.1 S.2.2.1.2.1 g.2.1 S.2.2.2.2.2.1, S.2.2.2.2.1, S.2.2.2.2.2.1 + 1, S.2.2.2.2.2.2)
theorem z_pred1 {n : Nat} (h : 0 < n) : nI n - 1 = nI (n - 1) := by
  obtain ⟨k, rfl⟩ : ∃ k, n = k + 1 := ⟨n - 1, by omega⟩
  exact nI_pred k
theorem zup_t {k : Nat} {f : Nat → Int64} (h : 0 < k) : vp_updL (zup k f) k (zup k f (k - 1)) = zup (k - 1) f := by
  obtain ⟨j, rfl⟩ : ∃ j, k = j + 1 := ⟨k - 1, by omega⟩
  exact zup_s j f
theorem zup_end (n : Nat) (f : Nat → Int64) (x : Int64) (h : 0 < n) (hn : n < 2 ^ 31) : zf_write n (zup 0 f) 0 x = zsh f x := by
  unfold zf_write
  have e : ¬ nI n ≤ 0 := fun q => absurd ((nI_leI hn (by omega)).mp (show nI n ≤ nI 0 from q)) (by omega)
  rw [if_neg (by decide), if_neg e]
  funext j
  unfold vp_updL zup zsh
  by_cases hj : j = 0
  · subst hj; rfl
  · rw [if_neg (show ¬ j = (0 : Int32).toNatClampNeg from hj), if_neg hj, if_pos (by omega)]
theorem z_at_in {n k : Nat} {f : Nat → Int64} (hk : k < n) (hn : n < 2 ^ 31) : zf_at n f (nI k) = f k := by
  unfold zf_at
  rw [if_neg (nI_pos (by omega)), if_neg (nI_ge hk hn), nI_clamp (by omega)]
theorem zdn_x {k0 k : Nat} {f : Nat → Int64} (h1 : k0 ≤ k + 1) (h2 : k + 1 ≤ k0 ∨ k = 0) : zdn (k + 1) f = zdn k0 f := by
  funext j
  unfold zdn
  rcases h2 with h | h
  · rw [show k0 = k + 1 by omega]
  · subst h
    rw [if_neg (by omega), if_neg (by omega)]

set_option maxHeartbeats 4000000 in
set_option maxRecDepth 100000 in
theorem c_X2_copyFrom (l : Launch) (D : va_G) (cA : Nat → ClassId) (h0 h1 h2 h3 : Nat) (sz : Nat) (n : Nat) (v : vX2) (o : vX2) (hn : n < 2 ^ 31) : Met l yX2_copyFrom wsX2_copyFrom ({ frames := 1, cells := 0, slots := 0, locals := 22 }) (va_Pc [.ref h0, .ref h2] (zPre D (zty cA) (wX2 cA n h0 h1 v ++ wX2 cA n h2 h3 o) sz)) (va_Qv (fun (u : vX2) => u = o) (fun u => zPost D (zty cA) (va_A (wX2 cA n h0 h1 v ++ wX2 cA n h2 h3 o) sz) (wX2 cA n h0 h1 u ++ wX2 cA n h2 h3 o)) (va_A (wX2 cA n h0 h1 v ++ wX2 cA n h2 h3 o) sz)) 0 0 (va_A (wX2 cA n h0 h1 v ++ wX2 cA n h2 h3 o) sz) := by
  refine Met.ofW (cc := cX2_copyFrom) (maxL := 2) (ret := none) (by decide) rfl ?_
  intro p e s m args below meth c s₁ B hml hv
  obtain ⟨rfl, hsz, hP, hK, hD0, hE⟩ := hv
  have hx := B.exec
  have hb := B.bytes
  have hr := B.returns
  have hts := atoms_spec (ws := wsX2_copyFrom) B.pre
  have hown : s.vm.findClass RX2 = some m.cls := findClass_of_methodNamed B.named
  have hlocks := B.notSynchronized
  have hinX2 : ∀ w ∈ u_ws RX2 TX2 2, w ∈ wsX2_copyFrom := fun w h => List.mem_cons_of_mem _ (List.mem_append_right _ h)
  subst hsz
  have hD := hD0.self (sz := s.heap.size)
  generalize hAe : va_A (wX2 cA n h0 h1 v ++ wX2 cA n h2 h3 o) s.heap.size = A at hD hE ⊢
  have hA : ∀ q : Nat, s.heap.size ≤ q → A q := fun q h => by rw [← hAe]; exact Or.inr h
  have hS : va_S A s.heap s.heap [] := va_S.rf
  have hN : zN s := hE.1
  have hP : va_P D vwCl [(h0, .inr (2, [.ref h1, .int v.2])), (h1, .inl ((cA 0), n, .inr (.inl v.1))), (h2, .inr (2, [.ref h3, .int o.2])), (h3, .inl ((cA 0), n, .inr (.inl o.1)))] s.heap := hP
  have hD : va_D A [(h0, .inr (2, [.ref h1, .int v.2])), (h1, .inl ((cA 0), n, .inr (.inl v.1))), (h2, .inr (2, [.ref h3, .int o.2])), (h3, .inl ((cA 0), n, .inr (.inl o.1)))] := hD
  have hl := lv_entry ([.ref h0, .ref h2]) (n := 2) (Nat.le_of_ble_eq_true rfl)
  rw [lg_entry_eq]
  generalize (lg_sl ([.ref h0, .ref h2]) ++ List.replicate (2 - (lg_sl ([.ref h0, .ref h2])).length) Slot.unset).toArray = ls at hl ⊢
  have hl : lv_has ls 2 [(0, .ref h0), (1, .ref h2)] := hl
  refine z_genQ (fun Q hQ => ?_)
  refine lv_aload_n hx hb dX2_copyFrom_0 rfl (lv_at hl 1 rfl) ?_
  refine va_get (D := D) (ci := 2) (v := .ref h3) (C := RX2) (T := TX2) (N := 2) hx hb hts hinX2 hown hK hP 2 rfl rfl 0 (by decide) (hts (.fieldLink RX2 13 "GyroTrainer$Latest" "numbers" "[J") (List.mem_of_getElem? (i := 1) rfl)) (fun _ h9 => h9) rfl dX2_copyFrom_1 ?_
  refine lv_aload_n hx hb dX2_copyFrom_4 rfl (lv_at hl 0 rfl) ?_
  refine va_get (D := D) (ci := 2) (v := .ref h1) (C := RX2) (T := TX2) (N := 2) hx hb hts hinX2 hown hK hP 0 rfl rfl 0 (by decide) (hts (.fieldLink RX2 13 "GyroTrainer$Latest" "numbers" "[J") (List.mem_of_getElem? (i := 1) rfl)) (fun _ h9 => h9) rfl dX2_copyFrom_5 ?_
  refine z_Gv (wr := [(h0, .inr (2, [.ref h1, .int v.2])), (h2, .inr (2, [.ref h3, .int o.2]))]) (wt := (fun (u_1 : (Nat → Int64)) => [(h0, .inr (2, [.ref h1, .int v.2])), (h1, .inl ((cA 0), n, .inr (.inl u_1))), (h2, .inr (2, [.ref h3, .int o.2])), (h3, .inl ((cA 0), n, .inr (.inl o.1)))])) (va_runSN (As := [.ref h3, .ref h1]) (rest := []) ⟨hx, hb, hml, hown, hts⟩ (c_X9_copy l D cA h3 h1 s.heap.size n o.1 v.1 hn) (⟨va_cnB (host := "GyroTrainer") 2 hts gX2_copyFrom_X9_copy_n19 rfl rfl rfl (hN.get 10 rfl) (hts (.initialized RX9) (List.mem_of_getElem? (i := 4) rfl)) (by decide +kernel) ⟨Nat.le_of_ble_eq_true rfl, Nat.le_of_ble_eq_true rfl⟩, (hts (.static yX9_copy) (List.mem_of_getElem? (i := 3) rfl)), trivial⟩) (zpS hK hP hD hS hA hE [3, 1] [0, 1, 2, 3, 4] rfl (by decide) rfl) rfl rfl hl.1 rfl (lv_room (Nat.le_of_ble_eq_true rfl)) dX2_copyFrom_8 ⟨Nat.le_of_ble_eq_true rfl, Nat.le_of_ble_eq_true rfl⟩) hP hD hS hA [3, 1] [0, 2] [0, 3, 1, 2] rfl rfl (by decide) (fun _ => rfl) (fun u_1 H locs eu_1 hP hD hS => ?_)
  have hP : va_P D vwCl [(h0, .inr (2, [.ref h1, .int v.2])), (h1, .inl ((cA 0), n, .inr (.inl u_1))), (h2, .inr (2, [.ref h3, .int o.2])), (h3, .inl ((cA 0), n, .inr (.inl o.1)))] H := hP
  have hD : va_D A [(h0, .inr (2, [.ref h1, .int v.2])), (h1, .inl ((cA 0), n, .inr (.inl u_1))), (h2, .inr (2, [.ref h3, .int o.2])), (h3, .inl ((cA 0), n, .inr (.inl o.1)))] := hD
  refine lv_aload_n hx hb dX2_copyFrom_11 rfl (lv_at hl 0 rfl) ?_
  refine lv_aload_n hx hb dX2_copyFrom_12 rfl (lv_at hl 1 rfl) ?_
  refine va_get (D := D) (ci := 2) (v := .int o.2) (C := RX2) (T := TX2) (N := 2) hx hb hts hinX2 hown hK hP 2 rfl rfl 1 (by decide) (hts (.fieldLink RX2 25 "GyroTrainer$Latest" "count" "I") (List.mem_of_getElem? (i := 2) rfl)) (fun _ h9 => h9) rfl dX2_copyFrom_13 ?_
  refine va_put (D := D) (ci := 2) (v := .int o.2) (ty := .int) (C := RX2) (T := TX2) (N := 2) hx hb hts hinX2 tyX2 tyX2_ok nmX2 hown hK hP hD hS 0 rfl rfl 1 (by decide) (hts (.fieldLink RX2 25 "GyroTrainer$Latest" "count" "I") (List.mem_of_getElem? (i := 2) rfl)) (fun _ h9 => h9) rfl (by decide +kernel) rfl rfl (Nat.le_of_ble_eq_true rfl) dX2_copyFrom_16 (fun H locs hP hD hS => ?_)
  have hP : va_P D vwCl [(h0, .inr (2, [.ref h1, .int o.2])), (h1, .inl ((cA 0), n, .inr (.inl u_1))), (h2, .inr (2, [.ref h3, .int o.2])), (h3, .inl ((cA 0), n, .inr (.inl o.1)))] H := hP
  have hD : va_D A [(h0, .inr (2, [.ref h1, .int o.2])), (h1, .inl ((cA 0), n, .inr (.inl u_1))), (h2, .inr (2, [.ref h3, .int o.2])), (h3, .inl ((cA 0), n, .inr (.inl o.1)))] := hD
  have e9 : o = (u_1, o.2) := by subst eu_1; rfl
  have hP9 : va_P D vwCl (wX2 cA n h0 h1 ((u_1, o.2) : vX2) ++ wX2 cA n h2 h3 o) H := hP
  have hD9 : va_D A (wX2 cA n h0 h1 ((u_1, o.2) : vX2) ++ wX2 cA n h2 h3 o) := hD
  subst hQ
  exact W.vret hx hb hr (fun t ht hW => ⟨⟨(u_1, o.2), rfl, e9.symm, ⟨by rw [ht]; exact hP9, va_K.moved hW.alike hK, hD9⟩⟩, hS.F ht⟩) hS.2.2 dX2_copyFrom_19
set_option maxHeartbeats 4000000 in
set_option maxRecDepth 100000 in
theorem c_X2_clear (l : Launch) (D : va_G) (cA : Nat → ClassId) (h0 h1 : Nat) (sz : Nat) (n : Nat) (v : vX2)  : Met l yX2_clear wsX2_clear ({ frames := 0, cells := 0, slots := 0, locals := 0 }) (va_Pc [.ref h0] (zPre D (zty cA) (wX2 cA n h0 h1 v) sz)) (va_Qv (fun (u : vX2) => u = (zf_lclear v)) (fun u => zPost D (zty cA) (va_A (wX2 cA n h0 h1 v) sz) (wX2 cA n h0 h1 u)) (va_A (wX2 cA n h0 h1 v) sz)) 0 0 (va_A (wX2 cA n h0 h1 v) sz) := by
  refine Met.ofW (cc := cX2_clear) (maxL := 1) (ret := none) (by decide) rfl ?_
  intro p e s m args below meth c s₁ B hml hv
  obtain ⟨rfl, hsz, hP, hK, hD0, hE⟩ := hv
  have hx := B.exec
  have hb := B.bytes
  have hr := B.returns
  have hts := atoms_spec (ws := wsX2_clear) B.pre
  have hown : s.vm.findClass RX2 = some m.cls := findClass_of_methodNamed B.named
  have hlocks := B.notSynchronized
  have hinX2 : ∀ w ∈ u_ws RX2 TX2 2, w ∈ wsX2_clear := fun w h => List.mem_cons_of_mem _ (List.mem_append_right _ h)
  subst hsz
  have hD := hD0.self (sz := s.heap.size)
  generalize hAe : va_A (wX2 cA n h0 h1 v) s.heap.size = A at hD hE ⊢
  have hA : ∀ q : Nat, s.heap.size ≤ q → A q := fun q h => by rw [← hAe]; exact Or.inr h
  have hS : va_S A s.heap s.heap [] := va_S.rf
  have hN : zN s := hE.1
  have hP : va_P D vwCl [(h0, .inr (2, [.ref h1, .int v.2])), (h1, .inl ((cA 0), n, .inr (.inl v.1)))] s.heap := hP
  have hD : va_D A [(h0, .inr (2, [.ref h1, .int v.2])), (h1, .inl ((cA 0), n, .inr (.inl v.1)))] := hD
  have hl := lv_entry ([.ref h0]) (n := 1) (Nat.le_of_ble_eq_true rfl)
  rw [lg_entry_eq]
  generalize (lg_sl ([.ref h0]) ++ List.replicate (1 - (lg_sl ([.ref h0])).length) Slot.unset).toArray = ls at hl ⊢
  have hl : lv_has ls 1 [(0, .ref h0)] := hl
  refine z_genQ (fun Q hQ => ?_)
  refine lv_aload_n hx hb dX2_clear_0 rfl (lv_at hl 0 rfl) ?_
  refine lv_iconst (v := 0) hx hb dX2_clear_1 (by decide) ?_
  refine va_put (D := D) (ci := 2) (v := .int (0 : Int32)) (ty := .int) (C := RX2) (T := TX2) (N := 2) hx hb hts hinX2 tyX2 tyX2_ok nmX2 hown hK hP hD hS 0 rfl rfl 1 (by decide) (hts (.fieldLink RX2 25 "GyroTrainer$Latest" "count" "I") (List.mem_of_getElem? (i := 1) rfl)) (fun _ h9 => h9) rfl (by decide +kernel) rfl rfl (Nat.le_of_ble_eq_true rfl) dX2_clear_2 (fun H locs hP hD hS => ?_)
  have hP : va_P D vwCl [(h0, .inr (2, [.ref h1, .int (0 : Int32)])), (h1, .inl ((cA 0), n, .inr (.inl v.1)))] H := hP
  have hD : va_D A [(h0, .inr (2, [.ref h1, .int (0 : Int32)])), (h1, .inl ((cA 0), n, .inr (.inl v.1)))] := hD
  have e9 : (zf_lclear v) = (v.1, (0 : Int32)) := by rfl
  have hP9 : va_P D vwCl (wX2 cA n h0 h1 ((v.1, (0 : Int32)) : vX2)) H := hP
  have hD9 : va_D A (wX2 cA n h0 h1 ((v.1, (0 : Int32)) : vX2)) := hD
  subst hQ
  exact W.vret hx hb hr (fun t ht hW => ⟨⟨(v.1, (0 : Int32)), rfl, e9.symm, ⟨by rw [ht]; exact hP9, va_K.moved hW.alike hK, hD9⟩⟩, hS.F ht⟩) hS.2.2 dX2_clear_5
set_option maxHeartbeats 4000000 in
set_option maxRecDepth 100000 in
theorem c_X2_add (l : Launch) (D : va_G) (cA : Nat → ClassId) (h0 h1 : Nat) (sz : Nat) (n : Nat) (v : vX2) (y0 : Int64) (hn1 : 0 < n) (hn : n < 2 ^ 31) : Met l yX2_add wsX2_add ({ frames := 1, cells := 0, slots := 0, locals := 23 }) (va_Pc [.ref h0, .long y0] (zPre D (zty cA) (wX2 cA n h0 h1 v) sz)) (va_Qv (fun (u : vX2) => u = (zf_ladd n v y0)) (fun u => zPost D (zty cA) (va_A (wX2 cA n h0 h1 v) sz) (wX2 cA n h0 h1 u)) (va_A (wX2 cA n h0 h1 v) sz)) 0 0 (va_A (wX2 cA n h0 h1 v) sz) := by
  refine Met.ofW (cc := cX2_add) (maxL := 4) (ret := none) (by decide) rfl ?_
  intro p e s m args below meth c s₁ B hml hv
  obtain ⟨rfl, hsz, hP, hK, hD0, hE⟩ := hv
  have hx := B.exec
  have hb := B.bytes
  have hr := B.returns
  have hts := atoms_spec (ws := wsX2_add) B.pre
  have hown : s.vm.findClass RX2 = some m.cls := findClass_of_methodNamed B.named
  have hlocks := B.notSynchronized
  have hinX2 : ∀ w ∈ u_ws RX2 TX2 2, w ∈ wsX2_add := fun w h => List.mem_cons_of_mem _ (List.mem_append_right _ h)
  subst hsz
  have hD := hD0.self (sz := s.heap.size)
  generalize hAe : va_A (wX2 cA n h0 h1 v) s.heap.size = A at hD hE ⊢
  have hA : ∀ q : Nat, s.heap.size ≤ q → A q := fun q h => by rw [← hAe]; exact Or.inr h
  have hS : va_S A s.heap s.heap [] := va_S.rf
  have hN : zN s := hE.1
  have hP : va_P D vwCl [(h0, .inr (2, [.ref h1, .int v.2])), (h1, .inl ((cA 0), n, .inr (.inl v.1)))] s.heap := hP
  have hD : va_D A [(h0, .inr (2, [.ref h1, .int v.2])), (h1, .inl ((cA 0), n, .inr (.inl v.1)))] := hD
  have hl := lv_entry ([.ref h0, .long y0]) (n := 4) (Nat.le_of_ble_eq_true rfl)
  rw [lg_entry_eq]
  generalize (lg_sl ([.ref h0, .long y0]) ++ List.replicate (4 - (lg_sl ([.ref h0, .long y0])).length) Slot.unset).toArray = ls at hl ⊢
  have hl : lv_has ls 4 [(0, .ref h0), (1, .long y0)] := hl
  refine z_genQ (fun Q hQ => ?_)
  refine lv_aload_n hx hb dX2_add_0 rfl (lv_at hl 0 rfl) ?_
  refine va_get (D := D) (ci := 2) (v := .ref h1) (C := RX2) (T := TX2) (N := 2) hx hb hts hinX2 hown hK hP 0 rfl rfl 0 (by decide) (hts (.fieldLink RX2 13 "GyroTrainer$Latest" "numbers" "[J") (List.mem_of_getElem? (i := 1) rfl)) (fun _ h9 => h9) rfl dX2_add_1 ?_
  refine va_alen (v := (nI n)) hx hb hK hP 1 0 rfl rfl rfl dX2_add_4 ?_
  refine lv_iconst (v := 1) hx hb dX2_add_5 (by decide) ?_
  refine lv_isub hx hb dX2_add_6 ?_
  rw [z_pred1 hn1]
  refine lv_istore_n (lv' := [(3, .int (nI (n - 1))), (0, .ref h0), (1, .long y0)]) hx hb dX2_add_7 rfl hl (by decide) rfl (fun ls hl => ?_)
  have L8 : ∀ (zn : Nat) (k : Nat), k < zn → (k < n) → ∀ (H : Heap) (locs : List Loc), va_P D vwCl [(h0, .inr (2, [.ref h1, .int v.2])), (h1, .inl ((cA 0), n, .inr (.inl (zup k v.1))))] H → va_D A [(h0, .inr (2, [.ref h1, .int v.2])), (h1, .inl ((cA 0), n, .inr (.inl (zup k v.1))))] → va_S A s.heap H locs → ∀ (ls : Array Slot), lv_has ls 4 [(3, .int (nI k)), (0, .ref h0), (1, .long y0)] → W p l e (headSpec wsX2_add ({ frames := 1, cells := 0, slots := 0, locals := 23 })).room s m (([.ref h0, .long y0] : List Value).toArray) below meth c H locs 0 0 Q (F0 m 8 ls []) := by
    intro zn
    induction zn with
    | zero =>
      intro k hm
      exact absurd hm (Nat.not_lt_zero _)
    | succ zn ih =>
      intro k hm hk H locs hP hD hS ls hl
      refine lv_iload_n hx hb dX2_add_8 rfl (lv_at hl 0 rfl) ?_
      refine lv_if_le (tgt := 32) hx hb dX2_add_9 (by decide) (fun c_1 => ?_) (fun c_1 => ?_)
      · skip
        have ek0 : k = 0 := Nat.eq_zero_of_not_pos (fun h => nI_nle h (by omega) c_1)
        subst ek0
        refine lv_aload_n hx hb dX2_add_32 rfl (lv_at hl 1 rfl) ?_
        refine va_get (D := D) (ci := 2) (v := .ref h1) (C := RX2) (T := TX2) (N := 2) hx hb hts hinX2 hown hK hP 0 rfl rfl 0 (by decide) (hts (.fieldLink RX2 13 "GyroTrainer$Latest" "numbers" "[J") (List.mem_of_getElem? (i := 1) rfl)) (fun _ h9 => h9) rfl dX2_add_33 ?_
        refine lv_iconst (v := 0) hx hb dX2_add_36 (by decide) ?_
        refine lv_lload_n hx hb dX2_add_37 rfl (lv_at hl 2 rfl) ?_
        refine z_Gv (wr := [(h0, .inr (2, [.ref h1, .int v.2]))]) (wt := (fun (u_2 : (Nat → Int64)) => [(h0, .inr (2, [.ref h1, .int v.2])), (h1, .inl ((cA 0), n, .inr (.inl u_2)))])) (va_runSN (As := [.ref h1, .int (0 : Int32), .long y0]) (rest := []) ⟨hx, hb, hml, hown, hts⟩ (c_X9_write l D cA h1 H.size n (zup 0 v.1) (0 : Int32) y0 hn) (⟨va_cnB (host := "GyroTrainer") 3 hts gX2_add_X9_write_n29 rfl rfl rfl (hN.get 21 rfl) (hts (.initialized RX9) (List.mem_of_getElem? (i := 8) rfl)) (by decide +kernel) ⟨Nat.le_of_ble_eq_true rfl, Nat.le_of_ble_eq_true rfl⟩, (hts (.static yX9_write) (List.mem_of_getElem? (i := 7) rfl)), trivial⟩) (zpS hK hP hD hS hA hE [1] [0, 1, 2, 3, 4] rfl (by decide) rfl) rfl rfl hl.1 rfl (lv_room (Nat.le_of_ble_eq_true rfl)) dX2_add_38 ⟨Nat.le_of_ble_eq_true rfl, Nat.le_of_ble_eq_true rfl⟩) hP hD hS hA [1] [0] [0, 1] rfl rfl (by decide) (fun _ => rfl) (fun u_2 H locs eu_2 hP hD hS => ?_)
        have hP : va_P D vwCl [(h0, .inr (2, [.ref h1, .int v.2])), (h1, .inl ((cA 0), n, .inr (.inl u_2)))] H := hP
        have hD : va_D A [(h0, .inr (2, [.ref h1, .int v.2])), (h1, .inl ((cA 0), n, .inr (.inl u_2)))] := hD
        refine lv_aload_n hx hb dX2_add_41 rfl (lv_at hl 1 rfl) ?_
        refine lv_aload_n hx hb dX2_add_42 rfl (lv_at hl 1 rfl) ?_
        refine va_get (D := D) (ci := 2) (v := .int v.2) (C := RX2) (T := TX2) (N := 2) hx hb hts hinX2 hown hK hP 0 rfl rfl 1 (by decide) (hts (.fieldLink RX2 25 "GyroTrainer$Latest" "count" "I") (List.mem_of_getElem? (i := 2) rfl)) (fun _ h9 => h9) rfl dX2_add_43 ?_
        refine lv_iconst (v := 1) hx hb dX2_add_46 (by decide) ?_
        refine lv_iadd hx hb dX2_add_47 ?_
        refine lv_aload_n hx hb dX2_add_48 rfl (lv_at hl 1 rfl) ?_
        refine va_get (D := D) (ci := 2) (v := .ref h1) (C := RX2) (T := TX2) (N := 2) hx hb hts hinX2 hown hK hP 0 rfl rfl 0 (by decide) (hts (.fieldLink RX2 13 "GyroTrainer$Latest" "numbers" "[J") (List.mem_of_getElem? (i := 1) rfl)) (fun _ h9 => h9) rfl dX2_add_49 ?_
        refine va_alen (v := (nI n)) hx hb hK hP 1 0 rfl rfl rfl dX2_add_52 ?_
        refine va_mmin hx hb (hml.trans hl.1.symm) hown (hts (.methodLink RX2 33 Lib.Math.min.name) (List.mem_of_getElem? (i := 3) rfl)) (hts (.static Lib.Math.min.name) (List.mem_of_getElem? (i := 4) rfl)) (hts (.initialized "java/lang/Math") (List.mem_of_getElem? (i := 5) rfl)) (hts (.code Lib.Math.min.name Lib.Math.min.code 2 (some .int)) (List.mem_of_getElem? (i := 6) rfl)) (Nat.le_of_ble_eq_true rfl) (Nat.le_of_ble_eq_true rfl) (Nat.le_of_ble_eq_true rfl) (Nat.le_of_ble_eq_true rfl) dX2_add_53 ?_
        refine lv_topi (fun g_4 eg_4 => ?_)
        refine va_put (D := D) (ci := 2) (v := .int g_4) (ty := .int) (C := RX2) (T := TX2) (N := 2) hx hb hts hinX2 tyX2 tyX2_ok nmX2 hown hK hP hD hS 0 rfl rfl 1 (by decide) (hts (.fieldLink RX2 25 "GyroTrainer$Latest" "count" "I") (List.mem_of_getElem? (i := 2) rfl)) (fun _ h9 => h9) rfl (by decide +kernel) rfl rfl (Nat.le_of_ble_eq_true rfl) dX2_add_56 (fun H locs hP hD hS => ?_)
        have hP : va_P D vwCl [(h0, .inr (2, [.ref h1, .int g_4])), (h1, .inl ((cA 0), n, .inr (.inl u_2)))] H := hP
        have hD : va_D A [(h0, .inr (2, [.ref h1, .int g_4])), (h1, .inl ((cA 0), n, .inr (.inl u_2)))] := hD
        have e9 : (zf_ladd n v y0) = (u_2, g_4) := by subst eu_2; subst eg_4; unfold zf_ladd; rw [zup_end n v.1 y0 hn1 hn]
        have hP9 : va_P D vwCl (wX2 cA n h0 h1 ((u_2, g_4) : vX2)) H := hP
        have hD9 : va_D A (wX2 cA n h0 h1 ((u_2, g_4) : vX2)) := hD
        subst hQ
        exact W.vret hx hb hr (fun t ht hW => ⟨⟨(u_2, g_4), rfl, e9.symm, ⟨by rw [ht]; exact hP9, va_K.moved hW.alike hK, hD9⟩⟩, hS.F ht⟩) hS.2.2 dX2_add_59
      · skip
        have hk0 : 0 < k := Nat.pos_of_ne_zero (fun h => c_1 (by rw [h]; decide))
        refine lv_aload_n hx hb dX2_add_12 rfl (lv_at hl 1 rfl) ?_
        refine va_get (D := D) (ci := 2) (v := .ref h1) (C := RX2) (T := TX2) (N := 2) hx hb hts hinX2 hown hK hP 0 rfl rfl 0 (by decide) (hts (.fieldLink RX2 13 "GyroTrainer$Latest" "numbers" "[J") (List.mem_of_getElem? (i := 1) rfl)) (fun _ h9 => h9) rfl dX2_add_13 ?_
        refine lv_iload_n hx hb dX2_add_16 rfl (lv_at hl 0 rfl) ?_
        refine lv_aload_n hx hb dX2_add_17 rfl (lv_at hl 1 rfl) ?_
        refine va_get (D := D) (ci := 2) (v := .ref h1) (C := RX2) (T := TX2) (N := 2) hx hb hts hinX2 hown hK hP 0 rfl rfl 0 (by decide) (hts (.fieldLink RX2 13 "GyroTrainer$Latest" "numbers" "[J") (List.mem_of_getElem? (i := 1) rfl)) (fun _ h9 => h9) rfl dX2_add_18 ?_
        refine lv_iload_n hx hb dX2_add_21 rfl (lv_at hl 0 rfl) ?_
        refine lv_iconst (v := 1) hx hb dX2_add_22 (by decide) ?_
        refine lv_isub hx hb dX2_add_23 ?_
        refine z_lald (k := (k - 1)) hx hb hK hP 1 0 rfl rfl (z_pred1 hk0) (by omega) hn dX2_add_24 ?_
        refine z_last (k := k) hx hb hK hP hD hS 1 0 rfl rfl rfl hk hn dX2_add_25 (fun g_5 eg_5 H locs hP hD hS => ?_)
        have hP : va_P D vwCl [(h0, .inr (2, [.ref h1, .int v.2])), (h1, .inl ((cA 0), n, .inr (.inl g_5)))] H := hP
        have hD : va_D A [(h0, .inr (2, [.ref h1, .int v.2])), (h1, .inl ((cA 0), n, .inr (.inl g_5)))] := hD
        refine lv_iinc (v := (nI (k - 1))) (lv' := [(3, .int (nI (k - 1))), (0, .ref h0), (1, .long y0)]) hx hb dX2_add_26 hl (k := 0) rfl (sb_m1 hk0) (by decide) rfl (fun ls hl => ?_)
        refine lv_goto (tgt := 8) hx hb dX2_add_29 (by decide) ?_
        rw [zup_t hk0] at eg_5
        subst eg_5
        exact ih (k - 1) (by omega) (by omega) _ _ hP hD hS ls (lv_sub hl [0, 1, 2] rfl)
  exact L8 ((n - 1) + 1) (n - 1) (by omega) (by omega) _ _ (z_reL (g := zup (n - 1) v.1) hP (k := 1) rfl (fun j hj => by unfold zup; rw [if_neg (by omega)])) (hD.set (p := 1) (e := .inl (cA 0, n, .inr (.inl (zup (n - 1) v.1)))) rfl) hS ls (lv_sub hl [0, 1, 2] rfl)
set_option maxHeartbeats 4000000 in
set_option maxRecDepth 100000 in
theorem c_X2_sumOf (l : Launch) (D : va_G) (cA : Nat → ClassId) (h0 h1 : Nat) (n : Nat) (v : vX2) (k0 : Nat) (q : Nat) (hn : n < 2 ^ 31) (hc : v.2 = nI k0) (hkn : k0 ≤ n) (hq : q < 2 ^ 31) : Met l yX2_sumOf wsX2_sumOf ({ frames := 1, cells := 0, slots := 0, locals := 21 }) (va_Pc [.ref h0, .int (nI q)] (zPreR D (zty cA) (wX2 cA n h0 h1 v))) (vp_Sl (fun x => x = (zsum v.1 (min k0 q)))) 0 0 (fun _ => False) := by
  refine Met.ofW (cc := cX2_sumOf) (maxL := 5) (ret := (some .long)) (by decide) rfl ?_
  intro p e s m args below meth c s₁ B hml hv
  obtain ⟨rfl, hP, hK, hN⟩ := hv
  have hx := B.exec
  have hb := B.bytes
  have hr := B.returns
  have hts := atoms_spec (ws := wsX2_sumOf) B.pre
  have hown : s.vm.findClass RX2 = some m.cls := findClass_of_methodNamed B.named
  have hlocks := B.notSynchronized
  have hinX2 : ∀ w ∈ u_ws RX2 TX2 2, w ∈ wsX2_sumOf := fun w h => List.mem_cons_of_mem _ (List.mem_append_right _ h)
  have hP : va_P D vwCl [(h0, .inr (2, [.ref h1, .int v.2])), (h1, .inl ((cA 0), n, .inr (.inl v.1)))] s.heap := hP
  have hl := lv_entry ([.ref h0, .int (nI q)]) (n := 5) (Nat.le_of_ble_eq_true rfl)
  rw [lg_entry_eq]
  generalize (lg_sl ([.ref h0, .int (nI q)]) ++ List.replicate (5 - (lg_sl ([.ref h0, .int (nI q)])).length) Slot.unset).toArray = ls at hl ⊢
  have hl : lv_has ls 5 [(0, .ref h0), (1, .int (nI q))] := hl
  refine z_genQ (fun Q hQ => ?_)
  refine lv_lconst (v := 0) hx hb dX2_sumOf_0 (by decide) ?_
  refine lv_lstore_n (lv' := [(2, .long (0 : Int64)), (0, .ref h0), (1, .int (nI q))]) hx hb dX2_sumOf_1 rfl hl (by decide) rfl (fun ls hl => ?_)
  refine lv_iconst (v := 0) hx hb dX2_sumOf_2 (by decide) ?_
  refine lv_istore (lv' := [(4, .int (0 : Int32)), (2, .long (0 : Int64)), (0, .ref h0), (1, .int (nI q))]) hx hb dX2_sumOf_3 hl (by decide) rfl (fun ls hl => ?_)
  have L5 : ∀ (zn : Nat) (k : Nat), n - k < zn → (k ≤ k0) → (k ≤ q) → ∀ (ls : Array Slot), lv_has ls 5 [(4, .int (nI k)), (2, .long (zsum v.1 k)), (0, .ref h0), (1, .int (nI q))] → W p l e (headSpec wsX2_sumOf ({ frames := 1, cells := 0, slots := 0, locals := 21 })).room s m (([.ref h0, .int (nI q)] : List Value).toArray) below meth c s.heap [] 0 0 Q (F0 m 5 ls []) := by
    intro zn
    induction zn with
    | zero =>
      intro k hm
      exact absurd hm (Nat.not_lt_zero _)
    | succ zn ih =>
      intro k hm hk1 hk2 ls hl
      refine lv_iload hx hb dX2_sumOf_5 (lv_at hl 0 rfl) ?_
      refine lv_aload_n hx hb dX2_sumOf_7 rfl (lv_at hl 2 rfl) ?_
      refine va_get (D := D) (ci := 2) (v := .int v.2) (C := RX2) (T := TX2) (N := 2) hx hb hts hinX2 hown hK hP 0 rfl rfl 1 (by decide) (hts (.fieldLink RX2 25 "GyroTrainer$Latest" "count" "I") (List.mem_of_getElem? (i := 1) rfl)) (fun _ h9 => h9) rfl dX2_sumOf_8 ?_
      refine lv_icmp_ge (tgt := 38) hx hb dX2_sumOf_11 (by decide) (fun c_1 => ?_) (fun c_1 => ?_)
      · skip
        rw [hc] at c_1
        have hm : k = min k0 q := by have := (nI_leI (by omega) (by omega)).mp c_1; omega
        refine lv_lload_n hx hb dX2_sumOf_38 rfl (lv_at hl 1 rfl) ?_
        have e9 : (zsum v.1 (min k0 q)) = (zsum v.1 k) := by rw [← hm]
        subst hQ
        exact W.lret (v := (zsum v.1 k)) hx hb hr (fun t ht hW => ⟨_, rfl, e9.symm, ht⟩) (fun q h => by cases h) dX2_sumOf_39
      · skip
        rw [hc] at c_1
        have hm1 : k < k0 := Nat.lt_of_not_le (fun h => c_1 (nI_le h (by omega)))
        refine lv_iload hx hb dX2_sumOf_14 (lv_at hl 0 rfl) ?_
        refine lv_iload_n hx hb dX2_sumOf_16 rfl (lv_at hl 3 rfl) ?_
        refine lv_icmp_ge (tgt := 38) hx hb dX2_sumOf_17 (by decide) (fun c_2 => ?_) (fun c_2 => ?_)
        · skip
          have hm : k = min k0 q := by have := (nI_leI hq (by omega)).mp c_2; omega
          refine lv_lload_n hx hb dX2_sumOf_38 rfl (lv_at hl 1 rfl) ?_
          have e9 : (zsum v.1 (min k0 q)) = (zsum v.1 k) := by rw [← hm]
          subst hQ
          exact W.lret (v := (zsum v.1 k)) hx hb hr (fun t ht hW => ⟨_, rfl, e9.symm, ht⟩) (fun q h => by cases h) dX2_sumOf_39
        · skip
          have hm2 : k < q := Nat.lt_of_not_le (fun h => c_2 (nI_le h (by omega)))
          refine lv_lload_n hx hb dX2_sumOf_20 rfl (lv_at hl 1 rfl) ?_
          refine lv_aload_n hx hb dX2_sumOf_21 rfl (lv_at hl 2 rfl) ?_
          refine va_get (D := D) (ci := 2) (v := .ref h1) (C := RX2) (T := TX2) (N := 2) hx hb hts hinX2 hown hK hP 0 rfl rfl 0 (by decide) (hts (.fieldLink RX2 13 "GyroTrainer$Latest" "numbers" "[J") (List.mem_of_getElem? (i := 2) rfl)) (fun _ h9 => h9) rfl dX2_sumOf_22 ?_
          refine lv_iload hx hb dX2_sumOf_25 (lv_at hl 0 rfl) ?_
          refine z_Rl (va_runSN (As := [.ref h1, .int (nI k)]) (rest := [.long (zsum v.1 k)]) ⟨hx, hb, hml, hown, hts⟩ (c_X9_at l D cA h1 n v.1 (nI k) hn) (⟨va_cnB (host := "GyroTrainer") 2 hts gX2_sumOf_X9_at_n36 rfl rfl rfl (hN.get 29 rfl) (hts (.initialized RX9) (List.mem_of_getElem? (i := 4) rfl)) (by decide +kernel) ⟨Nat.le_of_ble_eq_true rfl, Nat.le_of_ble_eq_true rfl⟩, (hts (.static yX9_at) (List.mem_of_getElem? (i := 3) rfl)), trivial⟩) (zpSR hK hP hN [1] [0, 1, 2, 3, 4] rfl rfl) rfl rfl hl.1 rfl (lv_room (Nat.le_of_ble_eq_true rfl)) dX2_sumOf_27 ⟨Nat.le_of_ble_eq_true rfl, Nat.le_of_ble_eq_true rfl⟩) ?_
          refine lv_ladd hx hb dX2_sumOf_30 ?_
          refine lv_lstore_n (lv' := [(2, .long ((zsum v.1 k) + (zf_at n v.1 (nI k)))), (4, .int (nI k)), (0, .ref h0), (1, .int (nI q))]) hx hb dX2_sumOf_31 rfl hl (by decide) rfl (fun ls hl => ?_)
          refine lv_iinc (v := (nI (k + 1))) (lv' := [(4, .int (nI (k + 1))), (2, .long ((zsum v.1 k) + (zf_at n v.1 (nI k)))), (0, .ref h0), (1, .int (nI q))]) hx hb dX2_sumOf_32 hl (k := 1) rfl (nI_1 k) (by decide) rfl (fun ls hl => ?_)
          refine lv_goto (tgt := 5) hx hb dX2_sumOf_35 (by decide) ?_
          exact ih (k + 1) (by omega) (by omega) (by omega) ls (by have h := lv_sub (l' := [(4, .int (nI (k + 1))), (2, .long ((zsum v.1 k) + (zf_at n v.1 (nI k)))), (0, .ref h0), (1, .int (nI q))]) hl [0, 1, 2, 3] rfl; rw [z_at_in (by omega) hn] at h; exact h)
  exact L5 (n + 1) (0) (by omega) (Nat.zero_le _) (Nat.zero_le _) ls (lv_sub hl [0, 1, 2, 3] rfl)
set_option maxHeartbeats 4000000 in
set_option maxRecDepth 100000 in
theorem c_X3_copyFrom (l : Launch) (D : va_G) (cA : Nat → ClassId) (h0 h1 h2 h3 h4 h5 h6 h7 : Nat) (sz : Nat) (n : Nat) (v : vX3) (o : vX3) (hn : n < 2 ^ 31) : Met l yX3_copyFrom wsX3_copyFrom ({ frames := 1, cells := 0, slots := 0, locals := 22 }) (va_Pc [.ref h0, .ref h4] (zPre D (zty cA) (wX3 cA n h0 h1 h2 h3 v ++ wX3 cA n h4 h5 h6 h7 o) sz)) (va_Qv (fun (u : vX3) => u = o) (fun u => zPost D (zty cA) (va_A (wX3 cA n h0 h1 h2 h3 v ++ wX3 cA n h4 h5 h6 h7 o) sz) (wX3 cA n h0 h1 h2 h3 u ++ wX3 cA n h4 h5 h6 h7 o)) (va_A (wX3 cA n h0 h1 h2 h3 v ++ wX3 cA n h4 h5 h6 h7 o) sz)) 0 0 (va_A (wX3 cA n h0 h1 h2 h3 v ++ wX3 cA n h4 h5 h6 h7 o) sz) := by
  refine Met.ofW (cc := cX3_copyFrom) (maxL := 2) (ret := none) (by decide) rfl ?_
  intro p e s m args below meth c s₁ B hml hv
  obtain ⟨rfl, hsz, hP, hK, hD0, hE⟩ := hv
  have hx := B.exec
  have hb := B.bytes
  have hr := B.returns
  have hts := atoms_spec (ws := wsX3_copyFrom) B.pre
  have hown : s.vm.findClass RX3 = some m.cls := findClass_of_methodNamed B.named
  have hlocks := B.notSynchronized
  have hinX3 : ∀ w ∈ u_ws RX3 TX3 4, w ∈ wsX3_copyFrom := fun w h => List.mem_cons_of_mem _ (List.mem_append_right _ h)
  subst hsz
  have hD := hD0.self (sz := s.heap.size)
  generalize hAe : va_A (wX3 cA n h0 h1 h2 h3 v ++ wX3 cA n h4 h5 h6 h7 o) s.heap.size = A at hD hE ⊢
  have hA : ∀ q : Nat, s.heap.size ≤ q → A q := fun q h => by rw [← hAe]; exact Or.inr h
  have hS : va_S A s.heap s.heap [] := va_S.rf
  have hN : zN s := hE.1
  have hP : va_P D vwCl [(h0, .inr (3, [.ref h1, .ref h2, .ref h3, .int v.2.2.2])), (h1, .inl ((cA 0), n, .inr (.inl v.1))), (h2, .inl ((cA 0), n, .inr (.inl v.2.1))), (h3, .inl ((cA 0), n, .inr (.inl v.2.2.1))), (h4, .inr (3, [.ref h5, .ref h6, .ref h7, .int o.2.2.2])), (h5, .inl ((cA 0), n, .inr (.inl o.1))), (h6, .inl ((cA 0), n, .inr (.inl o.2.1))), (h7, .inl ((cA 0), n, .inr (.inl o.2.2.1)))] s.heap := hP
  have hD : va_D A [(h0, .inr (3, [.ref h1, .ref h2, .ref h3, .int v.2.2.2])), (h1, .inl ((cA 0), n, .inr (.inl v.1))), (h2, .inl ((cA 0), n, .inr (.inl v.2.1))), (h3, .inl ((cA 0), n, .inr (.inl v.2.2.1))), (h4, .inr (3, [.ref h5, .ref h6, .ref h7, .int o.2.2.2])), (h5, .inl ((cA 0), n, .inr (.inl o.1))), (h6, .inl ((cA 0), n, .inr (.inl o.2.1))), (h7, .inl ((cA 0), n, .inr (.inl o.2.2.1)))] := hD
  have hl := lv_entry ([.ref h0, .ref h4]) (n := 2) (Nat.le_of_ble_eq_true rfl)
  rw [lg_entry_eq]
  generalize (lg_sl ([.ref h0, .ref h4]) ++ List.replicate (2 - (lg_sl ([.ref h0, .ref h4])).length) Slot.unset).toArray = ls at hl ⊢
  have hl : lv_has ls 2 [(0, .ref h0), (1, .ref h4)] := hl
  refine z_genQ (fun Q hQ => ?_)
  refine lv_aload_n hx hb dX3_copyFrom_0 rfl (lv_at hl 1 rfl) ?_
  refine va_get (D := D) (ci := 3) (v := .ref h5) (C := RX3) (T := TX3) (N := 4) hx hb hts hinX3 hown hK hP 4 rfl rfl 0 (by decide) (hts (.fieldLink RX3 13 "GyroTrainer$Legs" "courses" "[J") (List.mem_of_getElem? (i := 1) rfl)) (fun _ h9 => h9) rfl dX3_copyFrom_1 ?_
  refine lv_aload_n hx hb dX3_copyFrom_4 rfl (lv_at hl 0 rfl) ?_
  refine va_get (D := D) (ci := 3) (v := .ref h1) (C := RX3) (T := TX3) (N := 4) hx hb hts hinX3 hown hK hP 0 rfl rfl 0 (by decide) (hts (.fieldLink RX3 13 "GyroTrainer$Legs" "courses" "[J") (List.mem_of_getElem? (i := 1) rfl)) (fun _ h9 => h9) rfl dX3_copyFrom_5 ?_
  refine z_Gv (wr := [(h0, .inr (3, [.ref h1, .ref h2, .ref h3, .int v.2.2.2])), (h2, .inl ((cA 0), n, .inr (.inl v.2.1))), (h3, .inl ((cA 0), n, .inr (.inl v.2.2.1))), (h4, .inr (3, [.ref h5, .ref h6, .ref h7, .int o.2.2.2])), (h6, .inl ((cA 0), n, .inr (.inl o.2.1))), (h7, .inl ((cA 0), n, .inr (.inl o.2.2.1)))]) (wt := (fun (u_1 : (Nat → Int64)) => [(h0, .inr (3, [.ref h1, .ref h2, .ref h3, .int v.2.2.2])), (h1, .inl ((cA 0), n, .inr (.inl u_1))), (h2, .inl ((cA 0), n, .inr (.inl v.2.1))), (h3, .inl ((cA 0), n, .inr (.inl v.2.2.1))), (h4, .inr (3, [.ref h5, .ref h6, .ref h7, .int o.2.2.2])), (h5, .inl ((cA 0), n, .inr (.inl o.1))), (h6, .inl ((cA 0), n, .inr (.inl o.2.1))), (h7, .inl ((cA 0), n, .inr (.inl o.2.2.1)))])) (va_runSN (As := [.ref h5, .ref h1]) (rest := []) ⟨hx, hb, hml, hown, hts⟩ (c_X9_copy l D cA h5 h1 s.heap.size n o.1 v.1 hn) (⟨va_cnB (host := "GyroTrainer") 2 hts gX3_copyFrom_X9_copy_n25 rfl rfl rfl (hN.get 8 rfl) (hts (.initialized RX9) (List.mem_of_getElem? (i := 6) rfl)) (by decide +kernel) ⟨Nat.le_of_ble_eq_true rfl, Nat.le_of_ble_eq_true rfl⟩, (hts (.static yX9_copy) (List.mem_of_getElem? (i := 5) rfl)), trivial⟩) (zpS hK hP hD hS hA hE [5, 1] [0, 1, 2, 3, 4] rfl (by decide) rfl) rfl rfl hl.1 rfl (lv_room (Nat.le_of_ble_eq_true rfl)) dX3_copyFrom_8 ⟨Nat.le_of_ble_eq_true rfl, Nat.le_of_ble_eq_true rfl⟩) hP hD hS hA [5, 1] [0, 2, 3, 4, 6, 7] [0, 7, 1, 2, 3, 6, 4, 5] rfl rfl (by decide) (fun _ => rfl) (fun u_1 H locs eu_1 hP hD hS => ?_)
  have hP : va_P D vwCl [(h0, .inr (3, [.ref h1, .ref h2, .ref h3, .int v.2.2.2])), (h1, .inl ((cA 0), n, .inr (.inl u_1))), (h2, .inl ((cA 0), n, .inr (.inl v.2.1))), (h3, .inl ((cA 0), n, .inr (.inl v.2.2.1))), (h4, .inr (3, [.ref h5, .ref h6, .ref h7, .int o.2.2.2])), (h5, .inl ((cA 0), n, .inr (.inl o.1))), (h6, .inl ((cA 0), n, .inr (.inl o.2.1))), (h7, .inl ((cA 0), n, .inr (.inl o.2.2.1)))] H := hP
  have hD : va_D A [(h0, .inr (3, [.ref h1, .ref h2, .ref h3, .int v.2.2.2])), (h1, .inl ((cA 0), n, .inr (.inl u_1))), (h2, .inl ((cA 0), n, .inr (.inl v.2.1))), (h3, .inl ((cA 0), n, .inr (.inl v.2.2.1))), (h4, .inr (3, [.ref h5, .ref h6, .ref h7, .int o.2.2.2])), (h5, .inl ((cA 0), n, .inr (.inl o.1))), (h6, .inl ((cA 0), n, .inr (.inl o.2.1))), (h7, .inl ((cA 0), n, .inr (.inl o.2.2.1)))] := hD
  refine lv_aload_n hx hb dX3_copyFrom_11 rfl (lv_at hl 1 rfl) ?_
  refine va_get (D := D) (ci := 3) (v := .ref h6) (C := RX3) (T := TX3) (N := 4) hx hb hts hinX3 hown hK hP 4 rfl rfl 1 (by decide) (hts (.fieldLink RX3 19 "GyroTrainer$Legs" "speeds" "[J") (List.mem_of_getElem? (i := 2) rfl)) (fun _ h9 => h9) rfl dX3_copyFrom_12 ?_
  refine lv_aload_n hx hb dX3_copyFrom_15 rfl (lv_at hl 0 rfl) ?_
  refine va_get (D := D) (ci := 3) (v := .ref h2) (C := RX3) (T := TX3) (N := 4) hx hb hts hinX3 hown hK hP 0 rfl rfl 1 (by decide) (hts (.fieldLink RX3 19 "GyroTrainer$Legs" "speeds" "[J") (List.mem_of_getElem? (i := 2) rfl)) (fun _ h9 => h9) rfl dX3_copyFrom_16 ?_
  refine z_Gv (wr := [(h0, .inr (3, [.ref h1, .ref h2, .ref h3, .int v.2.2.2])), (h1, .inl ((cA 0), n, .inr (.inl u_1))), (h3, .inl ((cA 0), n, .inr (.inl v.2.2.1))), (h4, .inr (3, [.ref h5, .ref h6, .ref h7, .int o.2.2.2])), (h5, .inl ((cA 0), n, .inr (.inl o.1))), (h7, .inl ((cA 0), n, .inr (.inl o.2.2.1)))]) (wt := (fun (u_3 : (Nat → Int64)) => [(h0, .inr (3, [.ref h1, .ref h2, .ref h3, .int v.2.2.2])), (h1, .inl ((cA 0), n, .inr (.inl u_1))), (h2, .inl ((cA 0), n, .inr (.inl u_3))), (h3, .inl ((cA 0), n, .inr (.inl v.2.2.1))), (h4, .inr (3, [.ref h5, .ref h6, .ref h7, .int o.2.2.2])), (h5, .inl ((cA 0), n, .inr (.inl o.1))), (h6, .inl ((cA 0), n, .inr (.inl o.2.1))), (h7, .inl ((cA 0), n, .inr (.inl o.2.2.1)))])) (va_runSN (As := [.ref h6, .ref h2]) (rest := []) ⟨hx, hb, hml, hown, hts⟩ (c_X9_copy l D cA h6 h2 H.size n o.2.1 v.2.1 hn) (⟨va_cnB (host := "GyroTrainer") 2 hts gX3_copyFrom_X9_copy_n25 rfl rfl rfl (hN.get 8 rfl) (hts (.initialized RX9) (List.mem_of_getElem? (i := 6) rfl)) (by decide +kernel) ⟨Nat.le_of_ble_eq_true rfl, Nat.le_of_ble_eq_true rfl⟩, (hts (.static yX9_copy) (List.mem_of_getElem? (i := 5) rfl)), trivial⟩) (zpS hK hP hD hS hA hE [6, 2] [0, 1, 2, 3, 4] rfl (by decide) rfl) rfl rfl hl.1 rfl (lv_room (Nat.le_of_ble_eq_true rfl)) dX3_copyFrom_19 ⟨Nat.le_of_ble_eq_true rfl, Nat.le_of_ble_eq_true rfl⟩) hP hD hS hA [6, 2] [0, 1, 3, 4, 5, 7] [0, 1, 7, 2, 3, 4, 6, 5] rfl rfl (by decide) (fun _ => rfl) (fun u_3 H locs eu_3 hP hD hS => ?_)
  have hP : va_P D vwCl [(h0, .inr (3, [.ref h1, .ref h2, .ref h3, .int v.2.2.2])), (h1, .inl ((cA 0), n, .inr (.inl u_1))), (h2, .inl ((cA 0), n, .inr (.inl u_3))), (h3, .inl ((cA 0), n, .inr (.inl v.2.2.1))), (h4, .inr (3, [.ref h5, .ref h6, .ref h7, .int o.2.2.2])), (h5, .inl ((cA 0), n, .inr (.inl o.1))), (h6, .inl ((cA 0), n, .inr (.inl o.2.1))), (h7, .inl ((cA 0), n, .inr (.inl o.2.2.1)))] H := hP
  have hD : va_D A [(h0, .inr (3, [.ref h1, .ref h2, .ref h3, .int v.2.2.2])), (h1, .inl ((cA 0), n, .inr (.inl u_1))), (h2, .inl ((cA 0), n, .inr (.inl u_3))), (h3, .inl ((cA 0), n, .inr (.inl v.2.2.1))), (h4, .inr (3, [.ref h5, .ref h6, .ref h7, .int o.2.2.2])), (h5, .inl ((cA 0), n, .inr (.inl o.1))), (h6, .inl ((cA 0), n, .inr (.inl o.2.1))), (h7, .inl ((cA 0), n, .inr (.inl o.2.2.1)))] := hD
  refine lv_aload_n hx hb dX3_copyFrom_22 rfl (lv_at hl 1 rfl) ?_
  refine va_get (D := D) (ci := 3) (v := .ref h7) (C := RX3) (T := TX3) (N := 4) hx hb hts hinX3 hown hK hP 4 rfl rfl 2 (by decide) (hts (.fieldLink RX3 22 "GyroTrainer$Legs" "minutes" "[J") (List.mem_of_getElem? (i := 3) rfl)) (fun _ h9 => h9) rfl dX3_copyFrom_23 ?_
  refine lv_aload_n hx hb dX3_copyFrom_26 rfl (lv_at hl 0 rfl) ?_
  refine va_get (D := D) (ci := 3) (v := .ref h3) (C := RX3) (T := TX3) (N := 4) hx hb hts hinX3 hown hK hP 0 rfl rfl 2 (by decide) (hts (.fieldLink RX3 22 "GyroTrainer$Legs" "minutes" "[J") (List.mem_of_getElem? (i := 3) rfl)) (fun _ h9 => h9) rfl dX3_copyFrom_27 ?_
  refine z_Gv (wr := [(h0, .inr (3, [.ref h1, .ref h2, .ref h3, .int v.2.2.2])), (h1, .inl ((cA 0), n, .inr (.inl u_1))), (h2, .inl ((cA 0), n, .inr (.inl u_3))), (h4, .inr (3, [.ref h5, .ref h6, .ref h7, .int o.2.2.2])), (h5, .inl ((cA 0), n, .inr (.inl o.1))), (h6, .inl ((cA 0), n, .inr (.inl o.2.1)))]) (wt := (fun (u_5 : (Nat → Int64)) => [(h0, .inr (3, [.ref h1, .ref h2, .ref h3, .int v.2.2.2])), (h1, .inl ((cA 0), n, .inr (.inl u_1))), (h2, .inl ((cA 0), n, .inr (.inl u_3))), (h3, .inl ((cA 0), n, .inr (.inl u_5))), (h4, .inr (3, [.ref h5, .ref h6, .ref h7, .int o.2.2.2])), (h5, .inl ((cA 0), n, .inr (.inl o.1))), (h6, .inl ((cA 0), n, .inr (.inl o.2.1))), (h7, .inl ((cA 0), n, .inr (.inl o.2.2.1)))])) (va_runSN (As := [.ref h7, .ref h3]) (rest := []) ⟨hx, hb, hml, hown, hts⟩ (c_X9_copy l D cA h7 h3 H.size n o.2.2.1 v.2.2.1 hn) (⟨va_cnB (host := "GyroTrainer") 2 hts gX3_copyFrom_X9_copy_n25 rfl rfl rfl (hN.get 8 rfl) (hts (.initialized RX9) (List.mem_of_getElem? (i := 6) rfl)) (by decide +kernel) ⟨Nat.le_of_ble_eq_true rfl, Nat.le_of_ble_eq_true rfl⟩, (hts (.static yX9_copy) (List.mem_of_getElem? (i := 5) rfl)), trivial⟩) (zpS hK hP hD hS hA hE [7, 3] [0, 1, 2, 3, 4] rfl (by decide) rfl) rfl rfl hl.1 rfl (lv_room (Nat.le_of_ble_eq_true rfl)) dX3_copyFrom_30 ⟨Nat.le_of_ble_eq_true rfl, Nat.le_of_ble_eq_true rfl⟩) hP hD hS hA [7, 3] [0, 1, 2, 4, 5, 6] [0, 1, 2, 7, 3, 4, 5, 6] rfl rfl (by decide) (fun _ => rfl) (fun u_5 H locs eu_5 hP hD hS => ?_)
  have hP : va_P D vwCl [(h0, .inr (3, [.ref h1, .ref h2, .ref h3, .int v.2.2.2])), (h1, .inl ((cA 0), n, .inr (.inl u_1))), (h2, .inl ((cA 0), n, .inr (.inl u_3))), (h3, .inl ((cA 0), n, .inr (.inl u_5))), (h4, .inr (3, [.ref h5, .ref h6, .ref h7, .int o.2.2.2])), (h5, .inl ((cA 0), n, .inr (.inl o.1))), (h6, .inl ((cA 0), n, .inr (.inl o.2.1))), (h7, .inl ((cA 0), n, .inr (.inl o.2.2.1)))] H := hP
  have hD : va_D A [(h0, .inr (3, [.ref h1, .ref h2, .ref h3, .int v.2.2.2])), (h1, .inl ((cA 0), n, .inr (.inl u_1))), (h2, .inl ((cA 0), n, .inr (.inl u_3))), (h3, .inl ((cA 0), n, .inr (.inl u_5))), (h4, .inr (3, [.ref h5, .ref h6, .ref h7, .int o.2.2.2])), (h5, .inl ((cA 0), n, .inr (.inl o.1))), (h6, .inl ((cA 0), n, .inr (.inl o.2.1))), (h7, .inl ((cA 0), n, .inr (.inl o.2.2.1)))] := hD
  refine lv_aload_n hx hb dX3_copyFrom_33 rfl (lv_at hl 0 rfl) ?_
  refine lv_aload_n hx hb dX3_copyFrom_34 rfl (lv_at hl 1 rfl) ?_
  refine va_get (D := D) (ci := 3) (v := .int o.2.2.2) (C := RX3) (T := TX3) (N := 4) hx hb hts hinX3 hown hK hP 4 rfl rfl 3 (by decide) (hts (.fieldLink RX3 31 "GyroTrainer$Legs" "count" "I") (List.mem_of_getElem? (i := 4) rfl)) (fun _ h9 => h9) rfl dX3_copyFrom_35 ?_
  refine va_put (D := D) (ci := 3) (v := .int o.2.2.2) (ty := .int) (C := RX3) (T := TX3) (N := 4) hx hb hts hinX3 tyX3 tyX3_ok nmX3 hown hK hP hD hS 0 rfl rfl 3 (by decide) (hts (.fieldLink RX3 31 "GyroTrainer$Legs" "count" "I") (List.mem_of_getElem? (i := 4) rfl)) (fun _ h9 => h9) rfl (by decide +kernel) rfl rfl (Nat.le_of_ble_eq_true rfl) dX3_copyFrom_38 (fun H locs hP hD hS => ?_)
  have hP : va_P D vwCl [(h0, .inr (3, [.ref h1, .ref h2, .ref h3, .int o.2.2.2])), (h1, .inl ((cA 0), n, .inr (.inl u_1))), (h2, .inl ((cA 0), n, .inr (.inl u_3))), (h3, .inl ((cA 0), n, .inr (.inl u_5))), (h4, .inr (3, [.ref h5, .ref h6, .ref h7, .int o.2.2.2])), (h5, .inl ((cA 0), n, .inr (.inl o.1))), (h6, .inl ((cA 0), n, .inr (.inl o.2.1))), (h7, .inl ((cA 0), n, .inr (.inl o.2.2.1)))] H := hP
  have hD : va_D A [(h0, .inr (3, [.ref h1, .ref h2, .ref h3, .int o.2.2.2])), (h1, .inl ((cA 0), n, .inr (.inl u_1))), (h2, .inl ((cA 0), n, .inr (.inl u_3))), (h3, .inl ((cA 0), n, .inr (.inl u_5))), (h4, .inr (3, [.ref h5, .ref h6, .ref h7, .int o.2.2.2])), (h5, .inl ((cA 0), n, .inr (.inl o.1))), (h6, .inl ((cA 0), n, .inr (.inl o.2.1))), (h7, .inl ((cA 0), n, .inr (.inl o.2.2.1)))] := hD
  have e9 : o = (u_1, u_3, u_5, o.2.2.2) := by subst eu_1; subst eu_3; subst eu_5; rfl
  have hP9 : va_P D vwCl (wX3 cA n h0 h1 h2 h3 ((u_1, u_3, u_5, o.2.2.2) : vX3) ++ wX3 cA n h4 h5 h6 h7 o) H := hP
  have hD9 : va_D A (wX3 cA n h0 h1 h2 h3 ((u_1, u_3, u_5, o.2.2.2) : vX3) ++ wX3 cA n h4 h5 h6 h7 o) := hD
  subst hQ
  exact W.vret hx hb hr (fun t ht hW => ⟨⟨(u_1, u_3, u_5, o.2.2.2), rfl, e9.symm, ⟨by rw [ht]; exact hP9, va_K.moved hW.alike hK, hD9⟩⟩, hS.F ht⟩) hS.2.2 dX3_copyFrom_41
set_option maxHeartbeats 4000000 in
set_option maxRecDepth 100000 in
theorem c_X3_clear (l : Launch) (D : va_G) (cA : Nat → ClassId) (h0 h1 h2 h3 : Nat) (sz : Nat) (n : Nat) (v : vX3)  : Met l yX3_clear wsX3_clear ({ frames := 0, cells := 0, slots := 0, locals := 0 }) (va_Pc [.ref h0] (zPre D (zty cA) (wX3 cA n h0 h1 h2 h3 v) sz)) (va_Qv (fun (u : vX3) => u = (zf_gclear v)) (fun u => zPost D (zty cA) (va_A (wX3 cA n h0 h1 h2 h3 v) sz) (wX3 cA n h0 h1 h2 h3 u)) (va_A (wX3 cA n h0 h1 h2 h3 v) sz)) 0 0 (va_A (wX3 cA n h0 h1 h2 h3 v) sz) := by
  refine Met.ofW (cc := cX3_clear) (maxL := 1) (ret := none) (by decide) rfl ?_
  intro p e s m args below meth c s₁ B hml hv
  obtain ⟨rfl, hsz, hP, hK, hD0, hE⟩ := hv
  have hx := B.exec
  have hb := B.bytes
  have hr := B.returns
  have hts := atoms_spec (ws := wsX3_clear) B.pre
  have hown : s.vm.findClass RX3 = some m.cls := findClass_of_methodNamed B.named
  have hlocks := B.notSynchronized
  have hinX3 : ∀ w ∈ u_ws RX3 TX3 4, w ∈ wsX3_clear := fun w h => List.mem_cons_of_mem _ (List.mem_append_right _ h)
  subst hsz
  have hD := hD0.self (sz := s.heap.size)
  generalize hAe : va_A (wX3 cA n h0 h1 h2 h3 v) s.heap.size = A at hD hE ⊢
  have hA : ∀ q : Nat, s.heap.size ≤ q → A q := fun q h => by rw [← hAe]; exact Or.inr h
  have hS : va_S A s.heap s.heap [] := va_S.rf
  have hN : zN s := hE.1
  have hP : va_P D vwCl [(h0, .inr (3, [.ref h1, .ref h2, .ref h3, .int v.2.2.2])), (h1, .inl ((cA 0), n, .inr (.inl v.1))), (h2, .inl ((cA 0), n, .inr (.inl v.2.1))), (h3, .inl ((cA 0), n, .inr (.inl v.2.2.1)))] s.heap := hP
  have hD : va_D A [(h0, .inr (3, [.ref h1, .ref h2, .ref h3, .int v.2.2.2])), (h1, .inl ((cA 0), n, .inr (.inl v.1))), (h2, .inl ((cA 0), n, .inr (.inl v.2.1))), (h3, .inl ((cA 0), n, .inr (.inl v.2.2.1)))] := hD
  have hl := lv_entry ([.ref h0]) (n := 1) (Nat.le_of_ble_eq_true rfl)
  rw [lg_entry_eq]
  generalize (lg_sl ([.ref h0]) ++ List.replicate (1 - (lg_sl ([.ref h0])).length) Slot.unset).toArray = ls at hl ⊢
  have hl : lv_has ls 1 [(0, .ref h0)] := hl
  refine z_genQ (fun Q hQ => ?_)
  refine lv_aload_n hx hb dX3_clear_0 rfl (lv_at hl 0 rfl) ?_
  refine lv_iconst (v := 0) hx hb dX3_clear_1 (by decide) ?_
  refine va_put (D := D) (ci := 3) (v := .int (0 : Int32)) (ty := .int) (C := RX3) (T := TX3) (N := 4) hx hb hts hinX3 tyX3 tyX3_ok nmX3 hown hK hP hD hS 0 rfl rfl 3 (by decide) (hts (.fieldLink RX3 31 "GyroTrainer$Legs" "count" "I") (List.mem_of_getElem? (i := 1) rfl)) (fun _ h9 => h9) rfl (by decide +kernel) rfl rfl (Nat.le_of_ble_eq_true rfl) dX3_clear_2 (fun H locs hP hD hS => ?_)
  have hP : va_P D vwCl [(h0, .inr (3, [.ref h1, .ref h2, .ref h3, .int (0 : Int32)])), (h1, .inl ((cA 0), n, .inr (.inl v.1))), (h2, .inl ((cA 0), n, .inr (.inl v.2.1))), (h3, .inl ((cA 0), n, .inr (.inl v.2.2.1)))] H := hP
  have hD : va_D A [(h0, .inr (3, [.ref h1, .ref h2, .ref h3, .int (0 : Int32)])), (h1, .inl ((cA 0), n, .inr (.inl v.1))), (h2, .inl ((cA 0), n, .inr (.inl v.2.1))), (h3, .inl ((cA 0), n, .inr (.inl v.2.2.1)))] := hD
  have e9 : (zf_gclear v) = (v.1, v.2.1, v.2.2.1, (0 : Int32)) := by rfl
  have hP9 : va_P D vwCl (wX3 cA n h0 h1 h2 h3 ((v.1, v.2.1, v.2.2.1, (0 : Int32)) : vX3)) H := hP
  have hD9 : va_D A (wX3 cA n h0 h1 h2 h3 ((v.1, v.2.1, v.2.2.1, (0 : Int32)) : vX3)) := hD
  subst hQ
  exact W.vret hx hb hr (fun t ht hW => ⟨⟨(v.1, v.2.1, v.2.2.1, (0 : Int32)), rfl, e9.symm, ⟨by rw [ht]; exact hP9, va_K.moved hW.alike hK, hD9⟩⟩, hS.F ht⟩) hS.2.2 dX3_clear_5
set_option maxHeartbeats 4000000 in
set_option maxRecDepth 100000 in
theorem c_X3_add (l : Launch) (D : va_G) (cA : Nat → ClassId) (h0 h1 h2 h3 : Nat) (sz : Nat) (n : Nat) (v : vX3) (y0 : Int64) (y1 : Int64) (y2 : Int64) (hn : n < 2 ^ 31) : Met l yX3_add wsX3_add ({ frames := 1, cells := 0, slots := 0, locals := 23 }) (va_Pc [.ref h0, .long y0, .long y1, .long y2] (zPre D (zty cA) (wX3 cA n h0 h1 h2 h3 v) sz)) (va_Qv (fun (u : vX3) => u = (zf_gadd n v y0 y1 y2)) (fun u => zPost D (zty cA) (va_A (wX3 cA n h0 h1 h2 h3 v) sz) (wX3 cA n h0 h1 h2 h3 u)) (va_A (wX3 cA n h0 h1 h2 h3 v) sz)) 0 0 (va_A (wX3 cA n h0 h1 h2 h3 v) sz) := by
  refine Met.ofW (cc := cX3_add) (maxL := 7) (ret := none) (by decide) rfl ?_
  intro p e s m args below meth c s₁ B hml hv
  obtain ⟨rfl, hsz, hP, hK, hD0, hE⟩ := hv
  have hx := B.exec
  have hb := B.bytes
  have hr := B.returns
  have hts := atoms_spec (ws := wsX3_add) B.pre
  have hown : s.vm.findClass RX3 = some m.cls := findClass_of_methodNamed B.named
  have hlocks := B.notSynchronized
  have hinX3 : ∀ w ∈ u_ws RX3 TX3 4, w ∈ wsX3_add := fun w h => List.mem_cons_of_mem _ (List.mem_append_right _ h)
  subst hsz
  have hD := hD0.self (sz := s.heap.size)
  generalize hAe : va_A (wX3 cA n h0 h1 h2 h3 v) s.heap.size = A at hD hE ⊢
  have hA : ∀ q : Nat, s.heap.size ≤ q → A q := fun q h => by rw [← hAe]; exact Or.inr h
  have hS : va_S A s.heap s.heap [] := va_S.rf
  have hN : zN s := hE.1
  have hP : va_P D vwCl [(h0, .inr (3, [.ref h1, .ref h2, .ref h3, .int v.2.2.2])), (h1, .inl ((cA 0), n, .inr (.inl v.1))), (h2, .inl ((cA 0), n, .inr (.inl v.2.1))), (h3, .inl ((cA 0), n, .inr (.inl v.2.2.1)))] s.heap := hP
  have hD : va_D A [(h0, .inr (3, [.ref h1, .ref h2, .ref h3, .int v.2.2.2])), (h1, .inl ((cA 0), n, .inr (.inl v.1))), (h2, .inl ((cA 0), n, .inr (.inl v.2.1))), (h3, .inl ((cA 0), n, .inr (.inl v.2.2.1)))] := hD
  have hl := lv_entry ([.ref h0, .long y0, .long y1, .long y2]) (n := 7) (Nat.le_of_ble_eq_true rfl)
  rw [lg_entry_eq]
  generalize (lg_sl ([.ref h0, .long y0, .long y1, .long y2]) ++ List.replicate (7 - (lg_sl ([.ref h0, .long y0, .long y1, .long y2])).length) Slot.unset).toArray = ls at hl ⊢
  have hl : lv_has ls 7 [(0, .ref h0), (1, .long y0), (3, .long y1), (5, .long y2)] := hl
  refine z_genQ (fun Q hQ => ?_)
  refine lv_aload_n hx hb dX3_add_0 rfl (lv_at hl 0 rfl) ?_
  refine va_get (D := D) (ci := 3) (v := .int v.2.2.2) (C := RX3) (T := TX3) (N := 4) hx hb hts hinX3 hown hK hP 0 rfl rfl 3 (by decide) (hts (.fieldLink RX3 31 "GyroTrainer$Legs" "count" "I") (List.mem_of_getElem? (i := 1) rfl)) (fun _ h9 => h9) rfl dX3_add_1 ?_
  refine lv_aload_n hx hb dX3_add_4 rfl (lv_at hl 0 rfl) ?_
  refine va_get (D := D) (ci := 3) (v := .ref h1) (C := RX3) (T := TX3) (N := 4) hx hb hts hinX3 hown hK hP 0 rfl rfl 0 (by decide) (hts (.fieldLink RX3 13 "GyroTrainer$Legs" "courses" "[J") (List.mem_of_getElem? (i := 2) rfl)) (fun _ h9 => h9) rfl dX3_add_5 ?_
  refine va_alen (v := (nI n)) hx hb hK hP 1 0 rfl rfl rfl dX3_add_8 ?_
  refine lv_icmp_lt (tgt := 13) hx hb dX3_add_9 (by decide) (fun c_1 => ?_) (fun c_1 => ?_)
  · skip
    refine lv_aload_n hx hb dX3_add_13 rfl (lv_at hl 0 rfl) ?_
    refine va_get (D := D) (ci := 3) (v := .ref h1) (C := RX3) (T := TX3) (N := 4) hx hb hts hinX3 hown hK hP 0 rfl rfl 0 (by decide) (hts (.fieldLink RX3 13 "GyroTrainer$Legs" "courses" "[J") (List.mem_of_getElem? (i := 2) rfl)) (fun _ h9 => h9) rfl dX3_add_14 ?_
    refine lv_aload_n hx hb dX3_add_17 rfl (lv_at hl 0 rfl) ?_
    refine va_get (D := D) (ci := 3) (v := .int v.2.2.2) (C := RX3) (T := TX3) (N := 4) hx hb hts hinX3 hown hK hP 0 rfl rfl 3 (by decide) (hts (.fieldLink RX3 31 "GyroTrainer$Legs" "count" "I") (List.mem_of_getElem? (i := 1) rfl)) (fun _ h9 => h9) rfl dX3_add_18 ?_
    refine lv_lload_n hx hb dX3_add_21 rfl (lv_at hl 1 rfl) ?_
    refine z_Gv (wr := [(h0, .inr (3, [.ref h1, .ref h2, .ref h3, .int v.2.2.2])), (h2, .inl ((cA 0), n, .inr (.inl v.2.1))), (h3, .inl ((cA 0), n, .inr (.inl v.2.2.1)))]) (wt := (fun (u_2 : (Nat → Int64)) => [(h0, .inr (3, [.ref h1, .ref h2, .ref h3, .int v.2.2.2])), (h1, .inl ((cA 0), n, .inr (.inl u_2))), (h2, .inl ((cA 0), n, .inr (.inl v.2.1))), (h3, .inl ((cA 0), n, .inr (.inl v.2.2.1)))])) (va_runSN (As := [.ref h1, .int v.2.2.2, .long y0]) (rest := []) ⟨hx, hb, hml, hown, hts⟩ (c_X9_write l D cA h1 s.heap.size n v.1 v.2.2.2 y0 hn) (⟨va_cnB (host := "GyroTrainer") 3 hts gX3_add_X9_write_n35 rfl rfl rfl (hN.get 13 rfl) (hts (.initialized RX9) (List.mem_of_getElem? (i := 6) rfl)) (by decide +kernel) ⟨Nat.le_of_ble_eq_true rfl, Nat.le_of_ble_eq_true rfl⟩, (hts (.static yX9_write) (List.mem_of_getElem? (i := 5) rfl)), trivial⟩) (zpS hK hP hD hS hA hE [1] [0, 1, 2, 3, 4] rfl (by decide) rfl) rfl rfl hl.1 rfl (lv_room (Nat.le_of_ble_eq_true rfl)) dX3_add_22 ⟨Nat.le_of_ble_eq_true rfl, Nat.le_of_ble_eq_true rfl⟩) hP hD hS hA [1] [0, 2, 3] [0, 3, 1, 2] rfl rfl (by decide) (fun _ => rfl) (fun u_2 H locs eu_2 hP hD hS => ?_)
    have hP : va_P D vwCl [(h0, .inr (3, [.ref h1, .ref h2, .ref h3, .int v.2.2.2])), (h1, .inl ((cA 0), n, .inr (.inl u_2))), (h2, .inl ((cA 0), n, .inr (.inl v.2.1))), (h3, .inl ((cA 0), n, .inr (.inl v.2.2.1)))] H := hP
    have hD : va_D A [(h0, .inr (3, [.ref h1, .ref h2, .ref h3, .int v.2.2.2])), (h1, .inl ((cA 0), n, .inr (.inl u_2))), (h2, .inl ((cA 0), n, .inr (.inl v.2.1))), (h3, .inl ((cA 0), n, .inr (.inl v.2.2.1)))] := hD
    refine lv_aload_n hx hb dX3_add_25 rfl (lv_at hl 0 rfl) ?_
    refine va_get (D := D) (ci := 3) (v := .ref h2) (C := RX3) (T := TX3) (N := 4) hx hb hts hinX3 hown hK hP 0 rfl rfl 1 (by decide) (hts (.fieldLink RX3 19 "GyroTrainer$Legs" "speeds" "[J") (List.mem_of_getElem? (i := 3) rfl)) (fun _ h9 => h9) rfl dX3_add_26 ?_
    refine lv_aload_n hx hb dX3_add_29 rfl (lv_at hl 0 rfl) ?_
    refine va_get (D := D) (ci := 3) (v := .int v.2.2.2) (C := RX3) (T := TX3) (N := 4) hx hb hts hinX3 hown hK hP 0 rfl rfl 3 (by decide) (hts (.fieldLink RX3 31 "GyroTrainer$Legs" "count" "I") (List.mem_of_getElem? (i := 1) rfl)) (fun _ h9 => h9) rfl dX3_add_30 ?_
    refine lv_lload_n hx hb dX3_add_33 rfl (lv_at hl 2 rfl) ?_
    refine z_Gv (wr := [(h0, .inr (3, [.ref h1, .ref h2, .ref h3, .int v.2.2.2])), (h1, .inl ((cA 0), n, .inr (.inl u_2))), (h3, .inl ((cA 0), n, .inr (.inl v.2.2.1)))]) (wt := (fun (u_4 : (Nat → Int64)) => [(h0, .inr (3, [.ref h1, .ref h2, .ref h3, .int v.2.2.2])), (h1, .inl ((cA 0), n, .inr (.inl u_2))), (h2, .inl ((cA 0), n, .inr (.inl u_4))), (h3, .inl ((cA 0), n, .inr (.inl v.2.2.1)))])) (va_runSN (As := [.ref h2, .int v.2.2.2, .long y1]) (rest := []) ⟨hx, hb, hml, hown, hts⟩ (c_X9_write l D cA h2 H.size n v.2.1 v.2.2.2 y1 hn) (⟨va_cnB (host := "GyroTrainer") 3 hts gX3_add_X9_write_n35 rfl rfl rfl (hN.get 13 rfl) (hts (.initialized RX9) (List.mem_of_getElem? (i := 6) rfl)) (by decide +kernel) ⟨Nat.le_of_ble_eq_true rfl, Nat.le_of_ble_eq_true rfl⟩, (hts (.static yX9_write) (List.mem_of_getElem? (i := 5) rfl)), trivial⟩) (zpS hK hP hD hS hA hE [2] [0, 1, 2, 3, 4] rfl (by decide) rfl) rfl rfl hl.1 rfl (lv_room (Nat.le_of_ble_eq_true rfl)) dX3_add_34 ⟨Nat.le_of_ble_eq_true rfl, Nat.le_of_ble_eq_true rfl⟩) hP hD hS hA [2] [0, 1, 3] [0, 1, 3, 2] rfl rfl (by decide) (fun _ => rfl) (fun u_4 H locs eu_4 hP hD hS => ?_)
    have hP : va_P D vwCl [(h0, .inr (3, [.ref h1, .ref h2, .ref h3, .int v.2.2.2])), (h1, .inl ((cA 0), n, .inr (.inl u_2))), (h2, .inl ((cA 0), n, .inr (.inl u_4))), (h3, .inl ((cA 0), n, .inr (.inl v.2.2.1)))] H := hP
    have hD : va_D A [(h0, .inr (3, [.ref h1, .ref h2, .ref h3, .int v.2.2.2])), (h1, .inl ((cA 0), n, .inr (.inl u_2))), (h2, .inl ((cA 0), n, .inr (.inl u_4))), (h3, .inl ((cA 0), n, .inr (.inl v.2.2.1)))] := hD
    refine lv_aload_n hx hb dX3_add_37 rfl (lv_at hl 0 rfl) ?_
    refine va_get (D := D) (ci := 3) (v := .ref h3) (C := RX3) (T := TX3) (N := 4) hx hb hts hinX3 hown hK hP 0 rfl rfl 2 (by decide) (hts (.fieldLink RX3 22 "GyroTrainer$Legs" "minutes" "[J") (List.mem_of_getElem? (i := 4) rfl)) (fun _ h9 => h9) rfl dX3_add_38 ?_
    refine lv_aload_n hx hb dX3_add_41 rfl (lv_at hl 0 rfl) ?_
    refine va_get (D := D) (ci := 3) (v := .int v.2.2.2) (C := RX3) (T := TX3) (N := 4) hx hb hts hinX3 hown hK hP 0 rfl rfl 3 (by decide) (hts (.fieldLink RX3 31 "GyroTrainer$Legs" "count" "I") (List.mem_of_getElem? (i := 1) rfl)) (fun _ h9 => h9) rfl dX3_add_42 ?_
    refine lv_lload hx hb dX3_add_45 (lv_at hl 3 rfl) ?_
    refine z_Gv (wr := [(h0, .inr (3, [.ref h1, .ref h2, .ref h3, .int v.2.2.2])), (h1, .inl ((cA 0), n, .inr (.inl u_2))), (h2, .inl ((cA 0), n, .inr (.inl u_4)))]) (wt := (fun (u_6 : (Nat → Int64)) => [(h0, .inr (3, [.ref h1, .ref h2, .ref h3, .int v.2.2.2])), (h1, .inl ((cA 0), n, .inr (.inl u_2))), (h2, .inl ((cA 0), n, .inr (.inl u_4))), (h3, .inl ((cA 0), n, .inr (.inl u_6)))])) (va_runSN (As := [.ref h3, .int v.2.2.2, .long y2]) (rest := []) ⟨hx, hb, hml, hown, hts⟩ (c_X9_write l D cA h3 H.size n v.2.2.1 v.2.2.2 y2 hn) (⟨va_cnB (host := "GyroTrainer") 3 hts gX3_add_X9_write_n35 rfl rfl rfl (hN.get 13 rfl) (hts (.initialized RX9) (List.mem_of_getElem? (i := 6) rfl)) (by decide +kernel) ⟨Nat.le_of_ble_eq_true rfl, Nat.le_of_ble_eq_true rfl⟩, (hts (.static yX9_write) (List.mem_of_getElem? (i := 5) rfl)), trivial⟩) (zpS hK hP hD hS hA hE [3] [0, 1, 2, 3, 4] rfl (by decide) rfl) rfl rfl hl.1 rfl (lv_room (Nat.le_of_ble_eq_true rfl)) dX3_add_47 ⟨Nat.le_of_ble_eq_true rfl, Nat.le_of_ble_eq_true rfl⟩) hP hD hS hA [3] [0, 1, 2] [0, 1, 2, 3] rfl rfl (by decide) (fun _ => rfl) (fun u_6 H locs eu_6 hP hD hS => ?_)
    have hP : va_P D vwCl [(h0, .inr (3, [.ref h1, .ref h2, .ref h3, .int v.2.2.2])), (h1, .inl ((cA 0), n, .inr (.inl u_2))), (h2, .inl ((cA 0), n, .inr (.inl u_4))), (h3, .inl ((cA 0), n, .inr (.inl u_6)))] H := hP
    have hD : va_D A [(h0, .inr (3, [.ref h1, .ref h2, .ref h3, .int v.2.2.2])), (h1, .inl ((cA 0), n, .inr (.inl u_2))), (h2, .inl ((cA 0), n, .inr (.inl u_4))), (h3, .inl ((cA 0), n, .inr (.inl u_6)))] := hD
    refine lv_aload_n hx hb dX3_add_50 rfl (lv_at hl 0 rfl) ?_
    refine lv_dup hx hb dX3_add_51 rfl ?_
    refine va_get (D := D) (ci := 3) (v := .int v.2.2.2) (C := RX3) (T := TX3) (N := 4) hx hb hts hinX3 hown hK hP 0 rfl rfl 3 (by decide) (hts (.fieldLink RX3 31 "GyroTrainer$Legs" "count" "I") (List.mem_of_getElem? (i := 1) rfl)) (fun _ h9 => h9) rfl dX3_add_52 ?_
    refine lv_iconst (v := 1) hx hb dX3_add_55 (by decide) ?_
    refine lv_iadd hx hb dX3_add_56 ?_
    refine lv_topi (fun g_8 eg_8 => ?_)
    refine va_put (D := D) (ci := 3) (v := .int g_8) (ty := .int) (C := RX3) (T := TX3) (N := 4) hx hb hts hinX3 tyX3 tyX3_ok nmX3 hown hK hP hD hS 0 rfl rfl 3 (by decide) (hts (.fieldLink RX3 31 "GyroTrainer$Legs" "count" "I") (List.mem_of_getElem? (i := 1) rfl)) (fun _ h9 => h9) rfl (by decide +kernel) rfl rfl (Nat.le_of_ble_eq_true rfl) dX3_add_57 (fun H locs hP hD hS => ?_)
    have hP : va_P D vwCl [(h0, .inr (3, [.ref h1, .ref h2, .ref h3, .int g_8])), (h1, .inl ((cA 0), n, .inr (.inl u_2))), (h2, .inl ((cA 0), n, .inr (.inl u_4))), (h3, .inl ((cA 0), n, .inr (.inl u_6)))] H := hP
    have hD : va_D A [(h0, .inr (3, [.ref h1, .ref h2, .ref h3, .int g_8])), (h1, .inl ((cA 0), n, .inr (.inl u_2))), (h2, .inl ((cA 0), n, .inr (.inl u_4))), (h3, .inl ((cA 0), n, .inr (.inl u_6)))] := hD
    have e9 : (zf_gadd n v y0 y1 y2) = (u_2, u_4, u_6, g_8) := by subst eu_2; subst eu_4; subst eu_6; subst eg_8; unfold zf_gadd; simp only [if_pos c_1] <;> rfl
    have hP9 : va_P D vwCl (wX3 cA n h0 h1 h2 h3 ((u_2, u_4, u_6, g_8) : vX3)) H := hP
    have hD9 : va_D A (wX3 cA n h0 h1 h2 h3 ((u_2, u_4, u_6, g_8) : vX3)) := hD
    subst hQ
    exact W.vret hx hb hr (fun t ht hW => ⟨⟨(u_2, u_4, u_6, g_8), rfl, e9.symm, ⟨by rw [ht]; exact hP9, va_K.moved hW.alike hK, hD9⟩⟩, hS.F ht⟩) hS.2.2 dX3_add_60
  · skip
    have e9 : (zf_gadd n v y0 y1 y2) = v := by unfold zf_gadd; simp only [if_neg c_1] <;> rfl
    have hP9 : va_P D vwCl (wX3 cA n h0 h1 h2 h3 (v : vX3)) s.heap := hP
    have hD9 : va_D A (wX3 cA n h0 h1 h2 h3 (v : vX3)) := hD
    subst hQ
    exact W.vret hx hb hr (fun t ht hW => ⟨⟨v, rfl, e9.symm, ⟨by rw [ht]; exact hP9, va_K.moved hW.alike hK, hD9⟩⟩, hS.F ht⟩) hS.2.2 dX3_add_12
set_option maxHeartbeats 4000000 in
set_option maxRecDepth 100000 in
theorem c_X3_dropFirst (l : Launch) (D : va_G) (cA : Nat → ClassId) (h0 h1 h2 h3 : Nat) (sz : Nat) (n : Nat) (k0 : Nat) (v : vX3) (hn : n < 2 ^ 31) (hc : v.2.2.2 = nI k0) (hkn : k0 ≤ n) : Met l yX3_dropFirst wsX3_dropFirst ({ frames := 1, cells := 0, slots := 0, locals := 23 }) (va_Pc [.ref h0] (zPre D (zty cA) (wX3 cA n h0 h1 h2 h3 v) sz)) (va_Qv (fun (u : vX3) => u = (zf_gdrop k0 v)) (fun u => zPost D (zty cA) (va_A (wX3 cA n h0 h1 h2 h3 v) sz) (wX3 cA n h0 h1 h2 h3 u)) (va_A (wX3 cA n h0 h1 h2 h3 v) sz)) 0 0 (va_A (wX3 cA n h0 h1 h2 h3 v) sz) := by
  refine Met.ofW (cc := cX3_dropFirst) (maxL := 2) (ret := none) (by decide) rfl ?_
  intro p e s m args below meth c s₁ B hml hv
  obtain ⟨rfl, hsz, hP, hK, hD0, hE⟩ := hv
  have hx := B.exec
  have hb := B.bytes
  have hr := B.returns
  have hts := atoms_spec (ws := wsX3_dropFirst) B.pre
  have hown : s.vm.findClass RX3 = some m.cls := findClass_of_methodNamed B.named
  have hlocks := B.notSynchronized
  have hinX3 : ∀ w ∈ u_ws RX3 TX3 4, w ∈ wsX3_dropFirst := fun w h => List.mem_cons_of_mem _ (List.mem_append_right _ h)
  subst hsz
  have hD := hD0.self (sz := s.heap.size)
  generalize hAe : va_A (wX3 cA n h0 h1 h2 h3 v) s.heap.size = A at hD hE ⊢
  have hA : ∀ q : Nat, s.heap.size ≤ q → A q := fun q h => by rw [← hAe]; exact Or.inr h
  have hS : va_S A s.heap s.heap [] := va_S.rf
  have hN : zN s := hE.1
  have hP : va_P D vwCl [(h0, .inr (3, [.ref h1, .ref h2, .ref h3, .int v.2.2.2])), (h1, .inl ((cA 0), n, .inr (.inl v.1))), (h2, .inl ((cA 0), n, .inr (.inl v.2.1))), (h3, .inl ((cA 0), n, .inr (.inl v.2.2.1)))] s.heap := hP
  have hD : va_D A [(h0, .inr (3, [.ref h1, .ref h2, .ref h3, .int v.2.2.2])), (h1, .inl ((cA 0), n, .inr (.inl v.1))), (h2, .inl ((cA 0), n, .inr (.inl v.2.1))), (h3, .inl ((cA 0), n, .inr (.inl v.2.2.1)))] := hD
  have hl := lv_entry ([.ref h0]) (n := 2) (Nat.le_of_ble_eq_true rfl)
  rw [lg_entry_eq]
  generalize (lg_sl ([.ref h0]) ++ List.replicate (2 - (lg_sl ([.ref h0])).length) Slot.unset).toArray = ls at hl ⊢
  have hl : lv_has ls 2 [(0, .ref h0)] := hl
  refine z_genQ (fun Q hQ => ?_)
  refine lv_iconst (v := 1) hx hb dX3_dropFirst_0 (by decide) ?_
  refine lv_istore_n (lv' := [(1, .int (1 : Int32)), (0, .ref h0)]) hx hb dX3_dropFirst_1 rfl hl (by decide) rfl (fun ls hl => ?_)
  have L2 : ∀ (zn : Nat) (k : Nat), n - k < zn → (k + 1 ≤ k0 ∨ k = 0) → ∀ (H : Heap) (locs : List Loc), va_P D vwCl [(h0, .inr (3, [.ref h1, .ref h2, .ref h3, .int v.2.2.2])), (h1, .inl ((cA 0), n, .inr (.inl (zdn (k + 1) v.1)))), (h2, .inl ((cA 0), n, .inr (.inl (zdn (k + 1) v.2.1)))), (h3, .inl ((cA 0), n, .inr (.inl (zdn (k + 1) v.2.2.1))))] H → va_D A [(h0, .inr (3, [.ref h1, .ref h2, .ref h3, .int v.2.2.2])), (h1, .inl ((cA 0), n, .inr (.inl (zdn (k + 1) v.1)))), (h2, .inl ((cA 0), n, .inr (.inl (zdn (k + 1) v.2.1)))), (h3, .inl ((cA 0), n, .inr (.inl (zdn (k + 1) v.2.2.1))))] → va_S A s.heap H locs → ∀ (ls : Array Slot), lv_has ls 2 [(1, .int (nI (k + 1))), (0, .ref h0)] → W p l e (headSpec wsX3_dropFirst ({ frames := 1, cells := 0, slots := 0, locals := 23 })).room s m (([.ref h0] : List Value).toArray) below meth c H locs 0 0 Q (F0 m 2 ls []) := by
    intro zn
    induction zn with
    | zero =>
      intro k hm
      exact absurd hm (Nat.not_lt_zero _)
    | succ zn ih =>
      intro k hm hk H locs hP hD hS ls hl
      refine lv_iload_n hx hb dX3_dropFirst_2 rfl (lv_at hl 0 rfl) ?_
      refine lv_aload_n hx hb dX3_dropFirst_3 rfl (lv_at hl 1 rfl) ?_
      refine va_get (D := D) (ci := 3) (v := .int v.2.2.2) (C := RX3) (T := TX3) (N := 4) hx hb hts hinX3 hown hK hP 0 rfl rfl 3 (by decide) (hts (.fieldLink RX3 31 "GyroTrainer$Legs" "count" "I") (List.mem_of_getElem? (i := 1) rfl)) (fun _ h9 => h9) rfl dX3_dropFirst_4 ?_
      refine lv_icmp_ge (tgt := 70) hx hb dX3_dropFirst_7 (by decide) (fun c_1 => ?_) (fun c_1 => ?_)
      · skip
        have hx1 : k0 ≤ k + 1 := (nI_leI (by omega) (by omega)).mp (hc ▸ c_1)
        rw [zdn_x (f := v.1) hx1 hk] at hP hD
        rw [zdn_x (f := v.2.1) hx1 hk] at hP hD
        rw [zdn_x (f := v.2.2.1) hx1 hk] at hP hD
        have hP : va_P D vwCl [(h0, .inr (3, [.ref h1, .ref h2, .ref h3, .int v.2.2.2])), (h1, .inl ((cA 0), n, .inr (.inl (zdn k0 v.1)))), (h2, .inl ((cA 0), n, .inr (.inl (zdn k0 v.2.1)))), (h3, .inl ((cA 0), n, .inr (.inl (zdn k0 v.2.2.1))))] H := hP
        have hD : va_D A [(h0, .inr (3, [.ref h1, .ref h2, .ref h3, .int v.2.2.2])), (h1, .inl ((cA 0), n, .inr (.inl (zdn k0 v.1)))), (h2, .inl ((cA 0), n, .inr (.inl (zdn k0 v.2.1)))), (h3, .inl ((cA 0), n, .inr (.inl (zdn k0 v.2.2.1))))] := hD
        refine lv_aload_n hx hb dX3_dropFirst_70 rfl (lv_at hl 1 rfl) ?_
        refine lv_iconst (v := 0) hx hb dX3_dropFirst_71 (by decide) ?_
        refine lv_aload_n hx hb dX3_dropFirst_72 rfl (lv_at hl 1 rfl) ?_
        refine va_get (D := D) (ci := 3) (v := .int v.2.2.2) (C := RX3) (T := TX3) (N := 4) hx hb hts hinX3 hown hK hP 0 rfl rfl 3 (by decide) (hts (.fieldLink RX3 31 "GyroTrainer$Legs" "count" "I") (List.mem_of_getElem? (i := 1) rfl)) (fun _ h9 => h9) rfl dX3_dropFirst_73 ?_
        refine lv_iconst (v := 1) hx hb dX3_dropFirst_76 (by decide) ?_
        refine lv_isub hx hb dX3_dropFirst_77 ?_
        refine va_mmax hx hb (hml.trans hl.1.symm) hown (hts (.methodLink RX3 7 Lib.Math.max.name) (List.mem_of_getElem? (i := 5) rfl)) (hts (.static Lib.Math.max.name) (List.mem_of_getElem? (i := 6) rfl)) (hts (.initialized "java/lang/Math") (List.mem_of_getElem? (i := 7) rfl)) (hts (.code Lib.Math.max.name Lib.Math.max.code 2 (some .int)) (List.mem_of_getElem? (i := 8) rfl)) (Nat.le_of_ble_eq_true rfl) (Nat.le_of_ble_eq_true rfl) (Nat.le_of_ble_eq_true rfl) (Nat.le_of_ble_eq_true rfl) dX3_dropFirst_78 ?_
        refine lv_topi (fun g_2 eg_2 => ?_)
        refine va_put (D := D) (ci := 3) (v := .int g_2) (ty := .int) (C := RX3) (T := TX3) (N := 4) hx hb hts hinX3 tyX3 tyX3_ok nmX3 hown hK hP hD hS 0 rfl rfl 3 (by decide) (hts (.fieldLink RX3 31 "GyroTrainer$Legs" "count" "I") (List.mem_of_getElem? (i := 1) rfl)) (fun _ h9 => h9) rfl (by decide +kernel) rfl rfl (Nat.le_of_ble_eq_true rfl) dX3_dropFirst_81 (fun H locs hP hD hS => ?_)
        have hP : va_P D vwCl [(h0, .inr (3, [.ref h1, .ref h2, .ref h3, .int g_2])), (h1, .inl ((cA 0), n, .inr (.inl (zdn k0 v.1)))), (h2, .inl ((cA 0), n, .inr (.inl (zdn k0 v.2.1)))), (h3, .inl ((cA 0), n, .inr (.inl (zdn k0 v.2.2.1))))] H := hP
        have hD : va_D A [(h0, .inr (3, [.ref h1, .ref h2, .ref h3, .int g_2])), (h1, .inl ((cA 0), n, .inr (.inl (zdn k0 v.1)))), (h2, .inl ((cA 0), n, .inr (.inl (zdn k0 v.2.1)))), (h3, .inl ((cA 0), n, .inr (.inl (zdn k0 v.2.2.1))))] := hD
        have e9 : (zf_gdrop k0 v) = ((zdn k0 v.1), (zdn k0 v.2.1), (zdn k0 v.2.2.1), g_2) := by subst eg_2; rfl
        have hP9 : va_P D vwCl (wX3 cA n h0 h1 h2 h3 (((zdn k0 v.1), (zdn k0 v.2.1), (zdn k0 v.2.2.1), g_2) : vX3)) H := hP
        have hD9 : va_D A (wX3 cA n h0 h1 h2 h3 (((zdn k0 v.1), (zdn k0 v.2.1), (zdn k0 v.2.2.1), g_2) : vX3)) := hD
        subst hQ
        exact W.vret hx hb hr (fun t ht hW => ⟨⟨((zdn k0 v.1), (zdn k0 v.2.1), (zdn k0 v.2.2.1), g_2), rfl, e9.symm, ⟨by rw [ht]; exact hP9, va_K.moved hW.alike hK, hD9⟩⟩, hS.F ht⟩) hS.2.2 dX3_dropFirst_84
      · skip
        have hx2 : k + 1 < k0 := Nat.lt_of_not_le (fun h => c_1 (by rw [hc]; exact nI_le h (by omega)))
        refine lv_aload_n hx hb dX3_dropFirst_10 rfl (lv_at hl 1 rfl) ?_
        refine va_get (D := D) (ci := 3) (v := .ref h1) (C := RX3) (T := TX3) (N := 4) hx hb hts hinX3 hown hK hP 0 rfl rfl 0 (by decide) (hts (.fieldLink RX3 13 "GyroTrainer$Legs" "courses" "[J") (List.mem_of_getElem? (i := 2) rfl)) (fun _ h9 => h9) rfl dX3_dropFirst_11 ?_
        refine lv_iload_n hx hb dX3_dropFirst_14 rfl (lv_at hl 0 rfl) ?_
        refine lv_iconst (v := 1) hx hb dX3_dropFirst_15 (by decide) ?_
        refine lv_isub hx hb dX3_dropFirst_16 ?_
        refine lv_aload_n hx hb dX3_dropFirst_17 rfl (lv_at hl 1 rfl) ?_
        refine va_get (D := D) (ci := 3) (v := .ref h1) (C := RX3) (T := TX3) (N := 4) hx hb hts hinX3 hown hK hP 0 rfl rfl 0 (by decide) (hts (.fieldLink RX3 13 "GyroTrainer$Legs" "courses" "[J") (List.mem_of_getElem? (i := 2) rfl)) (fun _ h9 => h9) rfl dX3_dropFirst_18 ?_
        refine lv_iload_n hx hb dX3_dropFirst_21 rfl (lv_at hl 0 rfl) ?_
        refine z_Rl (va_runSN (As := [.ref h1, .int (nI (k + 1))]) (rest := [.int ((nI (k + 1)) - (1 : Int32)), .ref h1]) ⟨hx, hb, hml, hown, hts⟩ (c_X9_at l D cA h1 n (zdn (k + 1) v.1) (nI (k + 1)) hn) (⟨va_cnB (host := "GyroTrainer") 2 hts gX3_dropFirst_X9_at_n39 rfl rfl rfl (hN.get 25 rfl) (hts (.initialized RX9) (List.mem_of_getElem? (i := 10) rfl)) (by decide +kernel) ⟨Nat.le_of_ble_eq_true rfl, Nat.le_of_ble_eq_true rfl⟩, (hts (.static yX9_at) (List.mem_of_getElem? (i := 9) rfl)), trivial⟩) (zpSR hK hP hN [1] [0, 1, 2, 3, 4] rfl rfl) rfl rfl hl.1 rfl (lv_room (Nat.le_of_ble_eq_true rfl)) dX3_dropFirst_22 ⟨Nat.le_of_ble_eq_true rfl, Nat.le_of_ble_eq_true rfl⟩) ?_
        refine z_Gv (wr := [(h0, .inr (3, [.ref h1, .ref h2, .ref h3, .int v.2.2.2])), (h2, .inl ((cA 0), n, .inr (.inl (zdn (k + 1) v.2.1)))), (h3, .inl ((cA 0), n, .inr (.inl (zdn (k + 1) v.2.2.1))))]) (wt := (fun (u_3 : (Nat → Int64)) => [(h0, .inr (3, [.ref h1, .ref h2, .ref h3, .int v.2.2.2])), (h1, .inl ((cA 0), n, .inr (.inl u_3))), (h2, .inl ((cA 0), n, .inr (.inl (zdn (k + 1) v.2.1)))), (h3, .inl ((cA 0), n, .inr (.inl (zdn (k + 1) v.2.2.1))))])) (va_runSN (As := [.ref h1, .int ((nI (k + 1)) - (1 : Int32)), .long (zf_at n (zdn (k + 1) v.1) (nI (k + 1)))]) (rest := []) ⟨hx, hb, hml, hown, hts⟩ (c_X9_write l D cA h1 H.size n (zdn (k + 1) v.1) ((nI (k + 1)) - (1 : Int32)) (zf_at n (zdn (k + 1) v.1) (nI (k + 1))) hn) (⟨va_cnB (host := "GyroTrainer") 3 hts gX3_dropFirst_X9_write_n35 rfl rfl rfl (hN.get 13 rfl) (hts (.initialized RX9) (List.mem_of_getElem? (i := 10) rfl)) (by decide +kernel) ⟨Nat.le_of_ble_eq_true rfl, Nat.le_of_ble_eq_true rfl⟩, (hts (.static yX9_write) (List.mem_of_getElem? (i := 12) rfl)), trivial⟩) (zpS hK hP hD hS hA hE [1] [0, 1, 2, 3, 4] rfl (by decide) rfl) rfl rfl hl.1 rfl (lv_room (Nat.le_of_ble_eq_true rfl)) dX3_dropFirst_25 ⟨Nat.le_of_ble_eq_true rfl, Nat.le_of_ble_eq_true rfl⟩) hP hD hS hA [1] [0, 2, 3] [0, 3, 1, 2] rfl rfl (by decide) (fun _ => rfl) (fun u_3 H locs eu_3 hP hD hS => ?_)
        have hP : va_P D vwCl [(h0, .inr (3, [.ref h1, .ref h2, .ref h3, .int v.2.2.2])), (h1, .inl ((cA 0), n, .inr (.inl u_3))), (h2, .inl ((cA 0), n, .inr (.inl (zdn (k + 1) v.2.1)))), (h3, .inl ((cA 0), n, .inr (.inl (zdn (k + 1) v.2.2.1))))] H := hP
        have hD : va_D A [(h0, .inr (3, [.ref h1, .ref h2, .ref h3, .int v.2.2.2])), (h1, .inl ((cA 0), n, .inr (.inl u_3))), (h2, .inl ((cA 0), n, .inr (.inl (zdn (k + 1) v.2.1)))), (h3, .inl ((cA 0), n, .inr (.inl (zdn (k + 1) v.2.2.1))))] := hD
        refine lv_aload_n hx hb dX3_dropFirst_28 rfl (lv_at hl 1 rfl) ?_
        refine va_get (D := D) (ci := 3) (v := .ref h2) (C := RX3) (T := TX3) (N := 4) hx hb hts hinX3 hown hK hP 0 rfl rfl 1 (by decide) (hts (.fieldLink RX3 19 "GyroTrainer$Legs" "speeds" "[J") (List.mem_of_getElem? (i := 3) rfl)) (fun _ h9 => h9) rfl dX3_dropFirst_29 ?_
        refine lv_iload_n hx hb dX3_dropFirst_32 rfl (lv_at hl 0 rfl) ?_
        refine lv_iconst (v := 1) hx hb dX3_dropFirst_33 (by decide) ?_
        refine lv_isub hx hb dX3_dropFirst_34 ?_
        refine lv_aload_n hx hb dX3_dropFirst_35 rfl (lv_at hl 1 rfl) ?_
        refine va_get (D := D) (ci := 3) (v := .ref h2) (C := RX3) (T := TX3) (N := 4) hx hb hts hinX3 hown hK hP 0 rfl rfl 1 (by decide) (hts (.fieldLink RX3 19 "GyroTrainer$Legs" "speeds" "[J") (List.mem_of_getElem? (i := 3) rfl)) (fun _ h9 => h9) rfl dX3_dropFirst_36 ?_
        refine lv_iload_n hx hb dX3_dropFirst_39 rfl (lv_at hl 0 rfl) ?_
        refine z_Rl (va_runSN (As := [.ref h2, .int (nI (k + 1))]) (rest := [.int ((nI (k + 1)) - (1 : Int32)), .ref h2]) ⟨hx, hb, hml, hown, hts⟩ (c_X9_at l D cA h2 n (zdn (k + 1) v.2.1) (nI (k + 1)) hn) (⟨va_cnB (host := "GyroTrainer") 2 hts gX3_dropFirst_X9_at_n39 rfl rfl rfl (hN.get 25 rfl) (hts (.initialized RX9) (List.mem_of_getElem? (i := 10) rfl)) (by decide +kernel) ⟨Nat.le_of_ble_eq_true rfl, Nat.le_of_ble_eq_true rfl⟩, (hts (.static yX9_at) (List.mem_of_getElem? (i := 9) rfl)), trivial⟩) (zpSR hK hP hN [2] [0, 1, 2, 3, 4] rfl rfl) rfl rfl hl.1 rfl (lv_room (Nat.le_of_ble_eq_true rfl)) dX3_dropFirst_40 ⟨Nat.le_of_ble_eq_true rfl, Nat.le_of_ble_eq_true rfl⟩) ?_
        refine z_Gv (wr := [(h0, .inr (3, [.ref h1, .ref h2, .ref h3, .int v.2.2.2])), (h1, .inl ((cA 0), n, .inr (.inl u_3))), (h3, .inl ((cA 0), n, .inr (.inl (zdn (k + 1) v.2.2.1))))]) (wt := (fun (u_5 : (Nat → Int64)) => [(h0, .inr (3, [.ref h1, .ref h2, .ref h3, .int v.2.2.2])), (h1, .inl ((cA 0), n, .inr (.inl u_3))), (h2, .inl ((cA 0), n, .inr (.inl u_5))), (h3, .inl ((cA 0), n, .inr (.inl (zdn (k + 1) v.2.2.1))))])) (va_runSN (As := [.ref h2, .int ((nI (k + 1)) - (1 : Int32)), .long (zf_at n (zdn (k + 1) v.2.1) (nI (k + 1)))]) (rest := []) ⟨hx, hb, hml, hown, hts⟩ (c_X9_write l D cA h2 H.size n (zdn (k + 1) v.2.1) ((nI (k + 1)) - (1 : Int32)) (zf_at n (zdn (k + 1) v.2.1) (nI (k + 1))) hn) (⟨va_cnB (host := "GyroTrainer") 3 hts gX3_dropFirst_X9_write_n35 rfl rfl rfl (hN.get 13 rfl) (hts (.initialized RX9) (List.mem_of_getElem? (i := 10) rfl)) (by decide +kernel) ⟨Nat.le_of_ble_eq_true rfl, Nat.le_of_ble_eq_true rfl⟩, (hts (.static yX9_write) (List.mem_of_getElem? (i := 12) rfl)), trivial⟩) (zpS hK hP hD hS hA hE [2] [0, 1, 2, 3, 4] rfl (by decide) rfl) rfl rfl hl.1 rfl (lv_room (Nat.le_of_ble_eq_true rfl)) dX3_dropFirst_43 ⟨Nat.le_of_ble_eq_true rfl, Nat.le_of_ble_eq_true rfl⟩) hP hD hS hA [2] [0, 1, 3] [0, 1, 3, 2] rfl rfl (by decide) (fun _ => rfl) (fun u_5 H locs eu_5 hP hD hS => ?_)
        have hP : va_P D vwCl [(h0, .inr (3, [.ref h1, .ref h2, .ref h3, .int v.2.2.2])), (h1, .inl ((cA 0), n, .inr (.inl u_3))), (h2, .inl ((cA 0), n, .inr (.inl u_5))), (h3, .inl ((cA 0), n, .inr (.inl (zdn (k + 1) v.2.2.1))))] H := hP
        have hD : va_D A [(h0, .inr (3, [.ref h1, .ref h2, .ref h3, .int v.2.2.2])), (h1, .inl ((cA 0), n, .inr (.inl u_3))), (h2, .inl ((cA 0), n, .inr (.inl u_5))), (h3, .inl ((cA 0), n, .inr (.inl (zdn (k + 1) v.2.2.1))))] := hD
        refine lv_aload_n hx hb dX3_dropFirst_46 rfl (lv_at hl 1 rfl) ?_
        refine va_get (D := D) (ci := 3) (v := .ref h3) (C := RX3) (T := TX3) (N := 4) hx hb hts hinX3 hown hK hP 0 rfl rfl 2 (by decide) (hts (.fieldLink RX3 22 "GyroTrainer$Legs" "minutes" "[J") (List.mem_of_getElem? (i := 4) rfl)) (fun _ h9 => h9) rfl dX3_dropFirst_47 ?_
        refine lv_iload_n hx hb dX3_dropFirst_50 rfl (lv_at hl 0 rfl) ?_
        refine lv_iconst (v := 1) hx hb dX3_dropFirst_51 (by decide) ?_
        refine lv_isub hx hb dX3_dropFirst_52 ?_
        refine lv_aload_n hx hb dX3_dropFirst_53 rfl (lv_at hl 1 rfl) ?_
        refine va_get (D := D) (ci := 3) (v := .ref h3) (C := RX3) (T := TX3) (N := 4) hx hb hts hinX3 hown hK hP 0 rfl rfl 2 (by decide) (hts (.fieldLink RX3 22 "GyroTrainer$Legs" "minutes" "[J") (List.mem_of_getElem? (i := 4) rfl)) (fun _ h9 => h9) rfl dX3_dropFirst_54 ?_
        refine lv_iload_n hx hb dX3_dropFirst_57 rfl (lv_at hl 0 rfl) ?_
        refine z_Rl (va_runSN (As := [.ref h3, .int (nI (k + 1))]) (rest := [.int ((nI (k + 1)) - (1 : Int32)), .ref h3]) ⟨hx, hb, hml, hown, hts⟩ (c_X9_at l D cA h3 n (zdn (k + 1) v.2.2.1) (nI (k + 1)) hn) (⟨va_cnB (host := "GyroTrainer") 2 hts gX3_dropFirst_X9_at_n39 rfl rfl rfl (hN.get 25 rfl) (hts (.initialized RX9) (List.mem_of_getElem? (i := 10) rfl)) (by decide +kernel) ⟨Nat.le_of_ble_eq_true rfl, Nat.le_of_ble_eq_true rfl⟩, (hts (.static yX9_at) (List.mem_of_getElem? (i := 9) rfl)), trivial⟩) (zpSR hK hP hN [3] [0, 1, 2, 3, 4] rfl rfl) rfl rfl hl.1 rfl (lv_room (Nat.le_of_ble_eq_true rfl)) dX3_dropFirst_58 ⟨Nat.le_of_ble_eq_true rfl, Nat.le_of_ble_eq_true rfl⟩) ?_
        refine z_Gv (wr := [(h0, .inr (3, [.ref h1, .ref h2, .ref h3, .int v.2.2.2])), (h1, .inl ((cA 0), n, .inr (.inl u_3))), (h2, .inl ((cA 0), n, .inr (.inl u_5)))]) (wt := (fun (u_7 : (Nat → Int64)) => [(h0, .inr (3, [.ref h1, .ref h2, .ref h3, .int v.2.2.2])), (h1, .inl ((cA 0), n, .inr (.inl u_3))), (h2, .inl ((cA 0), n, .inr (.inl u_5))), (h3, .inl ((cA 0), n, .inr (.inl u_7)))])) (va_runSN (As := [.ref h3, .int ((nI (k + 1)) - (1 : Int32)), .long (zf_at n (zdn (k + 1) v.2.2.1) (nI (k + 1)))]) (rest := []) ⟨hx, hb, hml, hown, hts⟩ (c_X9_write l D cA h3 H.size n (zdn (k + 1) v.2.2.1) ((nI (k + 1)) - (1 : Int32)) (zf_at n (zdn (k + 1) v.2.2.1) (nI (k + 1))) hn) (⟨va_cnB (host := "GyroTrainer") 3 hts gX3_dropFirst_X9_write_n35 rfl rfl rfl (hN.get 13 rfl) (hts (.initialized RX9) (List.mem_of_getElem? (i := 10) rfl)) (by decide +kernel) ⟨Nat.le_of_ble_eq_true rfl, Nat.le_of_ble_eq_true rfl⟩, (hts (.static yX9_write) (List.mem_of_getElem? (i := 12) rfl)), trivial⟩) (zpS hK hP hD hS hA hE [3] [0, 1, 2, 3, 4] rfl (by decide) rfl) rfl rfl hl.1 rfl (lv_room (Nat.le_of_ble_eq_true rfl)) dX3_dropFirst_61 ⟨Nat.le_of_ble_eq_true rfl, Nat.le_of_ble_eq_true rfl⟩) hP hD hS hA [3] [0, 1, 2] [0, 1, 2, 3] rfl rfl (by decide) (fun _ => rfl) (fun u_7 H locs eu_7 hP hD hS => ?_)
        have hP : va_P D vwCl [(h0, .inr (3, [.ref h1, .ref h2, .ref h3, .int v.2.2.2])), (h1, .inl ((cA 0), n, .inr (.inl u_3))), (h2, .inl ((cA 0), n, .inr (.inl u_5))), (h3, .inl ((cA 0), n, .inr (.inl u_7)))] H := hP
        have hD : va_D A [(h0, .inr (3, [.ref h1, .ref h2, .ref h3, .int v.2.2.2])), (h1, .inl ((cA 0), n, .inr (.inl u_3))), (h2, .inl ((cA 0), n, .inr (.inl u_5))), (h3, .inl ((cA 0), n, .inr (.inl u_7)))] := hD
        refine lv_iinc (v := (nI ((k + 1) + 1))) (lv' := [(1, .int (nI ((k + 1) + 1))), (0, .ref h0)]) hx hb dX3_dropFirst_64 hl (k := 0) rfl (nI_1 (k + 1)) (by decide) rfl (fun ls hl => ?_)
        refine lv_goto (tgt := 2) hx hb dX3_dropFirst_67 (by decide) ?_
        rw [zdn_s n k v.1 (by omega) hn] at eu_3
        subst eu_3
        rw [zdn_s n k v.2.1 (by omega) hn] at eu_5
        subst eu_5
        rw [zdn_s n k v.2.2.1 (by omega) hn] at eu_7
        subst eu_7
        exact ih (k + 1) (by omega) (Or.inl (by omega)) _ _ hP hD hS ls (lv_sub hl [0, 1] rfl)
  exact L2 (n + 1) (0) (by omega) (Or.inr rfl) _ _ (by rw [zdn_1, zdn_1, zdn_1]; exact hP) (by rw [zdn_1, zdn_1, zdn_1]; exact hD) hS ls (lv_sub hl [0, 1] rfl)
set_option maxHeartbeats 4000000 in
set_option maxRecDepth 100000 in
theorem c_X5_takeFirstLeg (l : Launch) (D : va_G) (cA : Nat → ClassId) (h0 h1 h2 h3 h4 : Nat) (sz : Nat) (v : vX5)  : Met l yX5_takeFirstLeg wsX5_takeFirstLeg ({ frames := 1, cells := 0, slots := 0, locals := 21 }) (va_Pc [.ref h0] (zPre D (zty cA) (wX5 cA h0 h1 h2 h3 h4 v) sz)) (va_Qv (fun (u : vX5) => u = (zf_take v)) (fun u => zPost D (zty cA) (va_A (wX5 cA h0 h1 h2 h3 h4 v) sz) (wX5 cA h0 h1 h2 h3 h4 u)) (va_A (wX5 cA h0 h1 h2 h3 h4 v) sz)) 0 0 (va_A (wX5 cA h0 h1 h2 h3 h4 v) sz) := by
  refine Met.ofW (cc := cX5_takeFirstLeg) (maxL := 1) (ret := none) (by decide) rfl ?_
  intro p e s m args below meth c s₁ B hml hv
  obtain ⟨rfl, hsz, hP, hK, hD0, hE⟩ := hv
  have hx := B.exec
  have hb := B.bytes
  have hr := B.returns
  have hts := atoms_spec (ws := wsX5_takeFirstLeg) B.pre
  have hown : s.vm.findClass RX5 = some m.cls := findClass_of_methodNamed B.named
  have hlocks := B.notSynchronized
  have hinX5 : ∀ w ∈ u_ws RX5 TX5 5, w ∈ wsX5_takeFirstLeg := fun w h => List.mem_cons_of_mem _ (List.mem_append_left _ (List.mem_append_right _ h))
  have hinX3 : ∀ w ∈ u_ws RX3 TX3 4, w ∈ wsX5_takeFirstLeg := fun w h => List.mem_cons_of_mem _ (List.mem_append_right _ h)
  subst hsz
  have hD := hD0.self (sz := s.heap.size)
  generalize hAe : va_A (wX5 cA h0 h1 h2 h3 h4 v) s.heap.size = A at hD hE ⊢
  have hA : ∀ q : Nat, s.heap.size ≤ q → A q := fun q h => by rw [← hAe]; exact Or.inr h
  have hS : va_S A s.heap s.heap [] := va_S.rf
  have hN : zN s := hE.1
  have hP : va_P D vwCl [(h0, .inr (5, [.ref h1, .long v.2.1, .long v.2.2.1, .long v.2.2.2.1, .long v.2.2.2.2])), (h1, .inr (3, [.ref h2, .ref h3, .ref h4, .int v.1.2.2.2])), (h2, .inl ((cA 0), 8, .inr (.inl v.1.1))), (h3, .inl ((cA 0), 8, .inr (.inl v.1.2.1))), (h4, .inl ((cA 0), 8, .inr (.inl v.1.2.2.1)))] s.heap := hP
  have hD : va_D A [(h0, .inr (5, [.ref h1, .long v.2.1, .long v.2.2.1, .long v.2.2.2.1, .long v.2.2.2.2])), (h1, .inr (3, [.ref h2, .ref h3, .ref h4, .int v.1.2.2.2])), (h2, .inl ((cA 0), 8, .inr (.inl v.1.1))), (h3, .inl ((cA 0), 8, .inr (.inl v.1.2.1))), (h4, .inl ((cA 0), 8, .inr (.inl v.1.2.2.1)))] := hD
  have hl := lv_entry ([.ref h0]) (n := 1) (Nat.le_of_ble_eq_true rfl)
  rw [lg_entry_eq]
  generalize (lg_sl ([.ref h0]) ++ List.replicate (1 - (lg_sl ([.ref h0])).length) Slot.unset).toArray = ls at hl ⊢
  have hl : lv_has ls 1 [(0, .ref h0)] := hl
  refine z_genQ (fun Q hQ => ?_)
  refine lv_aload_n hx hb dX5_takeFirstLeg_0 rfl (lv_at hl 0 rfl) ?_
  refine va_get (D := D) (ci := 5) (v := .ref h1) (C := RX5) (T := TX5) (N := 5) hx hb hts hinX5 hown hK hP 0 rfl rfl 0 (by decide) (hts (.fieldLink RX5 14 "GyroTrainer$Ship" "legs" "LGyroTrainer$Legs;") (List.mem_of_getElem? (i := 1) rfl)) (fun _ h9 => h9) rfl dX5_takeFirstLeg_1 ?_
  refine va_get (D := D) (ci := 3) (v := .int v.1.2.2.2) (C := RX3) (T := TX3) (N := 4) hx hb hts hinX3 hown hK hP 1 rfl rfl 3 (by decide) (hts (.fieldLink RX5 44 "GyroTrainer$Legs" "count" "I") (List.mem_of_getElem? (i := 2) rfl)) (fun _ h9 => h9) rfl dX5_takeFirstLeg_4 ?_
  refine lv_if_le (tgt := 40) hx hb dX5_takeFirstLeg_7 (by decide) (fun c_1 => ?_) (fun c_1 => ?_)
  · skip
    have e9 : (zf_take v) = v := by unfold zf_take; simp only [if_pos c_1] <;> rfl
    have hP9 : va_P D vwCl (wX5 cA h0 h1 h2 h3 h4 (v : vX5)) s.heap := hP
    have hD9 : va_D A (wX5 cA h0 h1 h2 h3 h4 (v : vX5)) := hD
    subst hQ
    exact W.vret hx hb hr (fun t ht hW => ⟨⟨v, rfl, e9.symm, ⟨by rw [ht]; exact hP9, va_K.moved hW.alike hK, hD9⟩⟩, hS.F ht⟩) hS.2.2 dX5_takeFirstLeg_40
  · skip
    refine lv_aload_n hx hb dX5_takeFirstLeg_10 rfl (lv_at hl 0 rfl) ?_
    refine lv_aload_n hx hb dX5_takeFirstLeg_11 rfl (lv_at hl 0 rfl) ?_
    refine va_get (D := D) (ci := 5) (v := .ref h1) (C := RX5) (T := TX5) (N := 5) hx hb hts hinX5 hown hK hP 0 rfl rfl 0 (by decide) (hts (.fieldLink RX5 14 "GyroTrainer$Ship" "legs" "LGyroTrainer$Legs;") (List.mem_of_getElem? (i := 1) rfl)) (fun _ h9 => h9) rfl dX5_takeFirstLeg_12 ?_
    refine va_get (D := D) (ci := 3) (v := .ref h2) (C := RX3) (T := TX3) (N := 4) hx hb hts hinX3 hown hK hP 1 rfl rfl 0 (by decide) (hts (.fieldLink RX5 80 "GyroTrainer$Legs" "courses" "[J") (List.mem_of_getElem? (i := 3) rfl)) (fun _ h9 => h9) rfl dX5_takeFirstLeg_15 ?_
    refine lv_iconst (v := 0) hx hb dX5_takeFirstLeg_18 (by decide) ?_
    refine z_Rl (va_runSN (As := [.ref h2, .int (0 : Int32)]) (rest := [.ref h0]) ⟨hx, hb, hml, hown, hts⟩ (c_X9_at l D cA h2 8 v.1.1 (0 : Int32) (by decide)) (⟨va_cnB (host := "GyroTrainer") 2 hts gX5_takeFirstLeg_X9_at_n52 rfl rfl rfl (hN.get 14 rfl) (hts (.initialized RX9) (List.mem_of_getElem? (i := 8) rfl)) (by decide +kernel) ⟨Nat.le_of_ble_eq_true rfl, Nat.le_of_ble_eq_true rfl⟩, (hts (.static yX9_at) (List.mem_of_getElem? (i := 7) rfl)), trivial⟩) (zpSR hK hP hN [2] [0, 1, 2, 3, 4] rfl rfl) rfl rfl hl.1 rfl (lv_room (Nat.le_of_ble_eq_true rfl)) dX5_takeFirstLeg_19 ⟨Nat.le_of_ble_eq_true rfl, Nat.le_of_ble_eq_true rfl⟩) ?_
    refine lv_topl (fun g_2 eg_2 => ?_)
    refine va_put (D := D) (ci := 5) (v := .long g_2) (ty := .long) (C := RX5) (T := TX5) (N := 5) hx hb hts hinX5 tyX5 tyX5_ok nmX5 hown hK hP hD hS 0 rfl rfl 2 (by decide) (hts (.fieldLink RX5 28 "GyroTrainer$Ship" "course" "J") (List.mem_of_getElem? (i := 4) rfl)) (fun _ h9 => h9) rfl (by decide +kernel) rfl rfl (Nat.le_of_ble_eq_true rfl) dX5_takeFirstLeg_22 (fun H locs hP hD hS => ?_)
    have hP : va_P D vwCl [(h0, .inr (5, [.ref h1, .long v.2.1, .long g_2, .long v.2.2.2.1, .long v.2.2.2.2])), (h1, .inr (3, [.ref h2, .ref h3, .ref h4, .int v.1.2.2.2])), (h2, .inl ((cA 0), 8, .inr (.inl v.1.1))), (h3, .inl ((cA 0), 8, .inr (.inl v.1.2.1))), (h4, .inl ((cA 0), 8, .inr (.inl v.1.2.2.1)))] H := hP
    have hD : va_D A [(h0, .inr (5, [.ref h1, .long v.2.1, .long g_2, .long v.2.2.2.1, .long v.2.2.2.2])), (h1, .inr (3, [.ref h2, .ref h3, .ref h4, .int v.1.2.2.2])), (h2, .inl ((cA 0), 8, .inr (.inl v.1.1))), (h3, .inl ((cA 0), 8, .inr (.inl v.1.2.1))), (h4, .inl ((cA 0), 8, .inr (.inl v.1.2.2.1)))] := hD
    refine lv_aload_n hx hb dX5_takeFirstLeg_25 rfl (lv_at hl 0 rfl) ?_
    refine lv_aload_n hx hb dX5_takeFirstLeg_26 rfl (lv_at hl 0 rfl) ?_
    refine va_get (D := D) (ci := 5) (v := .ref h1) (C := RX5) (T := TX5) (N := 5) hx hb hts hinX5 hown hK hP 0 rfl rfl 0 (by decide) (hts (.fieldLink RX5 14 "GyroTrainer$Ship" "legs" "LGyroTrainer$Legs;") (List.mem_of_getElem? (i := 1) rfl)) (fun _ h9 => h9) rfl dX5_takeFirstLeg_27 ?_
    refine va_get (D := D) (ci := 3) (v := .ref h3) (C := RX3) (T := TX3) (N := 4) hx hb hts hinX3 hown hK hP 1 rfl rfl 1 (by decide) (hts (.fieldLink RX5 83 "GyroTrainer$Legs" "speeds" "[J") (List.mem_of_getElem? (i := 5) rfl)) (fun _ h9 => h9) rfl dX5_takeFirstLeg_30 ?_
    refine lv_iconst (v := 0) hx hb dX5_takeFirstLeg_33 (by decide) ?_
    refine z_Rl (va_runSN (As := [.ref h3, .int (0 : Int32)]) (rest := [.ref h0]) ⟨hx, hb, hml, hown, hts⟩ (c_X9_at l D cA h3 8 v.1.2.1 (0 : Int32) (by decide)) (⟨va_cnB (host := "GyroTrainer") 2 hts gX5_takeFirstLeg_X9_at_n52 rfl rfl rfl (hN.get 14 rfl) (hts (.initialized RX9) (List.mem_of_getElem? (i := 8) rfl)) (by decide +kernel) ⟨Nat.le_of_ble_eq_true rfl, Nat.le_of_ble_eq_true rfl⟩, (hts (.static yX9_at) (List.mem_of_getElem? (i := 7) rfl)), trivial⟩) (zpSR hK hP hN [3] [0, 1, 2, 3, 4] rfl rfl) rfl rfl hl.1 rfl (lv_room (Nat.le_of_ble_eq_true rfl)) dX5_takeFirstLeg_34 ⟨Nat.le_of_ble_eq_true rfl, Nat.le_of_ble_eq_true rfl⟩) ?_
    refine lv_topl (fun g_3 eg_3 => ?_)
    refine va_put (D := D) (ci := 5) (v := .long g_3) (ty := .long) (C := RX5) (T := TX5) (N := 5) hx hb hts hinX5 tyX5 tyX5_ok nmX5 hown hK hP hD hS 0 rfl rfl 3 (by decide) (hts (.fieldLink RX5 31 "GyroTrainer$Ship" "speed" "J") (List.mem_of_getElem? (i := 6) rfl)) (fun _ h9 => h9) rfl (by decide +kernel) rfl rfl (Nat.le_of_ble_eq_true rfl) dX5_takeFirstLeg_37 (fun H locs hP hD hS => ?_)
    have hP : va_P D vwCl [(h0, .inr (5, [.ref h1, .long v.2.1, .long g_2, .long g_3, .long v.2.2.2.2])), (h1, .inr (3, [.ref h2, .ref h3, .ref h4, .int v.1.2.2.2])), (h2, .inl ((cA 0), 8, .inr (.inl v.1.1))), (h3, .inl ((cA 0), 8, .inr (.inl v.1.2.1))), (h4, .inl ((cA 0), 8, .inr (.inl v.1.2.2.1)))] H := hP
    have hD : va_D A [(h0, .inr (5, [.ref h1, .long v.2.1, .long g_2, .long g_3, .long v.2.2.2.2])), (h1, .inr (3, [.ref h2, .ref h3, .ref h4, .int v.1.2.2.2])), (h2, .inl ((cA 0), 8, .inr (.inl v.1.1))), (h3, .inl ((cA 0), 8, .inr (.inl v.1.2.1))), (h4, .inl ((cA 0), 8, .inr (.inl v.1.2.2.1)))] := hD
    have e9 : (zf_take v) = (v.1, v.2.1, g_2, g_3, v.2.2.2.2) := by subst eg_2; subst eg_3; unfold zf_take; simp only [if_neg c_1] <;> rfl
    have hP9 : va_P D vwCl (wX5 cA h0 h1 h2 h3 h4 ((v.1, v.2.1, g_2, g_3, v.2.2.2.2) : vX5)) H := hP
    have hD9 : va_D A (wX5 cA h0 h1 h2 h3 h4 ((v.1, v.2.1, g_2, g_3, v.2.2.2.2) : vX5)) := hD
    subst hQ
    exact W.vret hx hb hr (fun t ht hW => ⟨⟨(v.1, v.2.1, g_2, g_3, v.2.2.2.2), rfl, e9.symm, ⟨by rw [ht]; exact hP9, va_K.moved hW.alike hK, hD9⟩⟩, hS.F ht⟩) hS.2.2 dX5_takeFirstLeg_40
set_option maxHeartbeats 4000000 in
set_option maxRecDepth 100000 in
theorem c_X5_copyFrom (l : Launch) (D : va_G) (cA : Nat → ClassId) (h0 h1 h2 h3 h4 h5 h6 h7 h8 h9 : Nat) (sz : Nat) (v : vX5) (o : vX5)  : Met l yX5_copyFrom wsX5_copyFrom ({ frames := 2, cells := 0, slots := 0, locals := 43 }) (va_Pc [.ref h0, .ref h5] (zPre D (zty cA) (wX5 cA h0 h1 h2 h3 h4 v ++ wX5 cA h5 h6 h7 h8 h9 o) sz)) (va_Qv (fun (u : vX5) => u = o) (fun u => zPost D (zty cA) (va_A (wX5 cA h0 h1 h2 h3 h4 v ++ wX5 cA h5 h6 h7 h8 h9 o) sz) (wX5 cA h0 h1 h2 h3 h4 u ++ wX5 cA h5 h6 h7 h8 h9 o)) (va_A (wX5 cA h0 h1 h2 h3 h4 v ++ wX5 cA h5 h6 h7 h8 h9 o) sz)) 0 0 (va_A (wX5 cA h0 h1 h2 h3 h4 v ++ wX5 cA h5 h6 h7 h8 h9 o) sz) := by
  refine Met.ofW (cc := cX5_copyFrom) (maxL := 2) (ret := none) (by decide) rfl ?_
  intro p e s m args below meth c s₁ B hml hv
  obtain ⟨rfl, hsz, hP, hK, hD0, hE⟩ := hv
  have hx := B.exec
  have hb := B.bytes
  have hr := B.returns
  have hts := atoms_spec (ws := wsX5_copyFrom) B.pre
  have hown : s.vm.findClass RX5 = some m.cls := findClass_of_methodNamed B.named
  have hlocks := B.notSynchronized
  have hinX5 : ∀ w ∈ u_ws RX5 TX5 5, w ∈ wsX5_copyFrom := fun w h => List.mem_cons_of_mem _ (List.mem_append_left _ (List.mem_append_right _ h))
  have hinX3 : ∀ w ∈ u_ws RX3 TX3 4, w ∈ wsX5_copyFrom := fun w h => List.mem_cons_of_mem _ (List.mem_append_right _ h)
  subst hsz
  have hD := hD0.self (sz := s.heap.size)
  generalize hAe : va_A (wX5 cA h0 h1 h2 h3 h4 v ++ wX5 cA h5 h6 h7 h8 h9 o) s.heap.size = A at hD hE ⊢
  have hA : ∀ q : Nat, s.heap.size ≤ q → A q := fun q h => by rw [← hAe]; exact Or.inr h
  have hS : va_S A s.heap s.heap [] := va_S.rf
  have hN : zN s := hE.1
  have hP : va_P D vwCl [(h0, .inr (5, [.ref h1, .long v.2.1, .long v.2.2.1, .long v.2.2.2.1, .long v.2.2.2.2])), (h1, .inr (3, [.ref h2, .ref h3, .ref h4, .int v.1.2.2.2])), (h2, .inl ((cA 0), 8, .inr (.inl v.1.1))), (h3, .inl ((cA 0), 8, .inr (.inl v.1.2.1))), (h4, .inl ((cA 0), 8, .inr (.inl v.1.2.2.1))), (h5, .inr (5, [.ref h6, .long o.2.1, .long o.2.2.1, .long o.2.2.2.1, .long o.2.2.2.2])), (h6, .inr (3, [.ref h7, .ref h8, .ref h9, .int o.1.2.2.2])), (h7, .inl ((cA 0), 8, .inr (.inl o.1.1))), (h8, .inl ((cA 0), 8, .inr (.inl o.1.2.1))), (h9, .inl ((cA 0), 8, .inr (.inl o.1.2.2.1)))] s.heap := hP
  have hD : va_D A [(h0, .inr (5, [.ref h1, .long v.2.1, .long v.2.2.1, .long v.2.2.2.1, .long v.2.2.2.2])), (h1, .inr (3, [.ref h2, .ref h3, .ref h4, .int v.1.2.2.2])), (h2, .inl ((cA 0), 8, .inr (.inl v.1.1))), (h3, .inl ((cA 0), 8, .inr (.inl v.1.2.1))), (h4, .inl ((cA 0), 8, .inr (.inl v.1.2.2.1))), (h5, .inr (5, [.ref h6, .long o.2.1, .long o.2.2.1, .long o.2.2.2.1, .long o.2.2.2.2])), (h6, .inr (3, [.ref h7, .ref h8, .ref h9, .int o.1.2.2.2])), (h7, .inl ((cA 0), 8, .inr (.inl o.1.1))), (h8, .inl ((cA 0), 8, .inr (.inl o.1.2.1))), (h9, .inl ((cA 0), 8, .inr (.inl o.1.2.2.1)))] := hD
  have hl := lv_entry ([.ref h0, .ref h5]) (n := 2) (Nat.le_of_ble_eq_true rfl)
  rw [lg_entry_eq]
  generalize (lg_sl ([.ref h0, .ref h5]) ++ List.replicate (2 - (lg_sl ([.ref h0, .ref h5])).length) Slot.unset).toArray = ls at hl ⊢
  have hl : lv_has ls 2 [(0, .ref h0), (1, .ref h5)] := hl
  refine z_genQ (fun Q hQ => ?_)
  refine lv_aload_n hx hb dX5_copyFrom_0 rfl (lv_at hl 0 rfl) ?_
  refine va_get (D := D) (ci := 5) (v := .ref h1) (C := RX5) (T := TX5) (N := 5) hx hb hts hinX5 hown hK hP 0 rfl rfl 0 (by decide) (hts (.fieldLink RX5 14 "GyroTrainer$Ship" "legs" "LGyroTrainer$Legs;") (List.mem_of_getElem? (i := 1) rfl)) (fun _ h9 => h9) rfl dX5_copyFrom_1 ?_
  refine lv_aload_n hx hb dX5_copyFrom_4 rfl (lv_at hl 1 rfl) ?_
  refine va_get (D := D) (ci := 5) (v := .ref h6) (C := RX5) (T := TX5) (N := 5) hx hb hts hinX5 hown hK hP 5 rfl rfl 0 (by decide) (hts (.fieldLink RX5 14 "GyroTrainer$Ship" "legs" "LGyroTrainer$Legs;") (List.mem_of_getElem? (i := 1) rfl)) (fun _ h9 => h9) rfl dX5_copyFrom_5 ?_
  refine z_Gv (wr := [(h0, .inr (5, [.ref h1, .long v.2.1, .long v.2.2.1, .long v.2.2.2.1, .long v.2.2.2.2])), (h5, .inr (5, [.ref h6, .long o.2.1, .long o.2.2.1, .long o.2.2.2.1, .long o.2.2.2.2]))]) (wt := (fun (u_1 : vX3) => [(h0, .inr (5, [.ref h1, .long v.2.1, .long v.2.2.1, .long v.2.2.2.1, .long v.2.2.2.2])), (h1, .inr (3, [.ref h2, .ref h3, .ref h4, .int u_1.2.2.2])), (h2, .inl ((cA 0), 8, .inr (.inl u_1.1))), (h3, .inl ((cA 0), 8, .inr (.inl u_1.2.1))), (h4, .inl ((cA 0), 8, .inr (.inl u_1.2.2.1))), (h5, .inr (5, [.ref h6, .long o.2.1, .long o.2.2.1, .long o.2.2.2.1, .long o.2.2.2.2])), (h6, .inr (3, [.ref h7, .ref h8, .ref h9, .int o.1.2.2.2])), (h7, .inl ((cA 0), 8, .inr (.inl o.1.1))), (h8, .inl ((cA 0), 8, .inr (.inl o.1.2.1))), (h9, .inl ((cA 0), 8, .inr (.inl o.1.2.2.1)))])) (va_runV (As := [.ref h6]) (rest := []) ⟨hx, hb, hml, hown, hts⟩ (c_X3_copyFrom l D cA h1 h2 h3 h4 h6 h7 h8 h9 s.heap.size 8 v.1 o.1 (by decide)) (cwV 1 hts gX5_copyFrom_X3_copyFrom rfl rfl rfl (by decide +kernel) ⟨Nat.le_of_ble_eq_true rfl, Nat.le_of_ble_eq_true rfl⟩) (zpV hK hP hD hS hA hE [1, 2, 3, 4, 6, 7, 8, 9] [0, 1, 2, 3, 4] rfl (by decide) rfl 0 rfl rfl) rfl rfl hl.1 rfl (lv_room (Nat.le_of_ble_eq_true rfl)) dX5_copyFrom_8 ⟨Nat.le_of_ble_eq_true rfl, Nat.le_of_ble_eq_true rfl⟩) hP hD hS hA [1, 2, 3, 4, 6, 7, 8, 9] [0, 5] [0, 2, 3, 4, 5, 1, 6, 7, 8, 9] rfl rfl (by decide) (fun _ => rfl) (fun u_1 H locs eu_1 hP hD hS => ?_)
  have hP : va_P D vwCl [(h0, .inr (5, [.ref h1, .long v.2.1, .long v.2.2.1, .long v.2.2.2.1, .long v.2.2.2.2])), (h1, .inr (3, [.ref h2, .ref h3, .ref h4, .int u_1.2.2.2])), (h2, .inl ((cA 0), 8, .inr (.inl u_1.1))), (h3, .inl ((cA 0), 8, .inr (.inl u_1.2.1))), (h4, .inl ((cA 0), 8, .inr (.inl u_1.2.2.1))), (h5, .inr (5, [.ref h6, .long o.2.1, .long o.2.2.1, .long o.2.2.2.1, .long o.2.2.2.2])), (h6, .inr (3, [.ref h7, .ref h8, .ref h9, .int o.1.2.2.2])), (h7, .inl ((cA 0), 8, .inr (.inl o.1.1))), (h8, .inl ((cA 0), 8, .inr (.inl o.1.2.1))), (h9, .inl ((cA 0), 8, .inr (.inl o.1.2.2.1)))] H := hP
  have hD : va_D A [(h0, .inr (5, [.ref h1, .long v.2.1, .long v.2.2.1, .long v.2.2.2.1, .long v.2.2.2.2])), (h1, .inr (3, [.ref h2, .ref h3, .ref h4, .int u_1.2.2.2])), (h2, .inl ((cA 0), 8, .inr (.inl u_1.1))), (h3, .inl ((cA 0), 8, .inr (.inl u_1.2.1))), (h4, .inl ((cA 0), 8, .inr (.inl u_1.2.2.1))), (h5, .inr (5, [.ref h6, .long o.2.1, .long o.2.2.1, .long o.2.2.2.1, .long o.2.2.2.2])), (h6, .inr (3, [.ref h7, .ref h8, .ref h9, .int o.1.2.2.2])), (h7, .inl ((cA 0), 8, .inr (.inl o.1.1))), (h8, .inl ((cA 0), 8, .inr (.inl o.1.2.1))), (h9, .inl ((cA 0), 8, .inr (.inl o.1.2.2.1)))] := hD
  refine lv_aload_n hx hb dX5_copyFrom_11 rfl (lv_at hl 0 rfl) ?_
  refine lv_aload_n hx hb dX5_copyFrom_12 rfl (lv_at hl 1 rfl) ?_
  refine va_get (D := D) (ci := 5) (v := .long o.2.1) (C := RX5) (T := TX5) (N := 5) hx hb hts hinX5 hown hK hP 5 rfl rfl 1 (by decide) (hts (.fieldLink RX5 24 "GyroTrainer$Ship" "latitude" "J") (List.mem_of_getElem? (i := 2) rfl)) (fun _ h9 => h9) rfl dX5_copyFrom_13 ?_
  refine va_put (D := D) (ci := 5) (v := .long o.2.1) (ty := .long) (C := RX5) (T := TX5) (N := 5) hx hb hts hinX5 tyX5 tyX5_ok nmX5 hown hK hP hD hS 0 rfl rfl 1 (by decide) (hts (.fieldLink RX5 24 "GyroTrainer$Ship" "latitude" "J") (List.mem_of_getElem? (i := 2) rfl)) (fun _ h9 => h9) rfl (by decide +kernel) rfl rfl (Nat.le_of_ble_eq_true rfl) dX5_copyFrom_16 (fun H locs hP hD hS => ?_)
  have hP : va_P D vwCl [(h0, .inr (5, [.ref h1, .long o.2.1, .long v.2.2.1, .long v.2.2.2.1, .long v.2.2.2.2])), (h1, .inr (3, [.ref h2, .ref h3, .ref h4, .int u_1.2.2.2])), (h2, .inl ((cA 0), 8, .inr (.inl u_1.1))), (h3, .inl ((cA 0), 8, .inr (.inl u_1.2.1))), (h4, .inl ((cA 0), 8, .inr (.inl u_1.2.2.1))), (h5, .inr (5, [.ref h6, .long o.2.1, .long o.2.2.1, .long o.2.2.2.1, .long o.2.2.2.2])), (h6, .inr (3, [.ref h7, .ref h8, .ref h9, .int o.1.2.2.2])), (h7, .inl ((cA 0), 8, .inr (.inl o.1.1))), (h8, .inl ((cA 0), 8, .inr (.inl o.1.2.1))), (h9, .inl ((cA 0), 8, .inr (.inl o.1.2.2.1)))] H := hP
  have hD : va_D A [(h0, .inr (5, [.ref h1, .long o.2.1, .long v.2.2.1, .long v.2.2.2.1, .long v.2.2.2.2])), (h1, .inr (3, [.ref h2, .ref h3, .ref h4, .int u_1.2.2.2])), (h2, .inl ((cA 0), 8, .inr (.inl u_1.1))), (h3, .inl ((cA 0), 8, .inr (.inl u_1.2.1))), (h4, .inl ((cA 0), 8, .inr (.inl u_1.2.2.1))), (h5, .inr (5, [.ref h6, .long o.2.1, .long o.2.2.1, .long o.2.2.2.1, .long o.2.2.2.2])), (h6, .inr (3, [.ref h7, .ref h8, .ref h9, .int o.1.2.2.2])), (h7, .inl ((cA 0), 8, .inr (.inl o.1.1))), (h8, .inl ((cA 0), 8, .inr (.inl o.1.2.1))), (h9, .inl ((cA 0), 8, .inr (.inl o.1.2.2.1)))] := hD
  refine lv_aload_n hx hb dX5_copyFrom_19 rfl (lv_at hl 0 rfl) ?_
  refine lv_aload_n hx hb dX5_copyFrom_20 rfl (lv_at hl 1 rfl) ?_
  refine va_get (D := D) (ci := 5) (v := .long o.2.2.1) (C := RX5) (T := TX5) (N := 5) hx hb hts hinX5 hown hK hP 5 rfl rfl 2 (by decide) (hts (.fieldLink RX5 28 "GyroTrainer$Ship" "course" "J") (List.mem_of_getElem? (i := 3) rfl)) (fun _ h9 => h9) rfl dX5_copyFrom_21 ?_
  refine va_put (D := D) (ci := 5) (v := .long o.2.2.1) (ty := .long) (C := RX5) (T := TX5) (N := 5) hx hb hts hinX5 tyX5 tyX5_ok nmX5 hown hK hP hD hS 0 rfl rfl 2 (by decide) (hts (.fieldLink RX5 28 "GyroTrainer$Ship" "course" "J") (List.mem_of_getElem? (i := 3) rfl)) (fun _ h9 => h9) rfl (by decide +kernel) rfl rfl (Nat.le_of_ble_eq_true rfl) dX5_copyFrom_24 (fun H locs hP hD hS => ?_)
  have hP : va_P D vwCl [(h0, .inr (5, [.ref h1, .long o.2.1, .long o.2.2.1, .long v.2.2.2.1, .long v.2.2.2.2])), (h1, .inr (3, [.ref h2, .ref h3, .ref h4, .int u_1.2.2.2])), (h2, .inl ((cA 0), 8, .inr (.inl u_1.1))), (h3, .inl ((cA 0), 8, .inr (.inl u_1.2.1))), (h4, .inl ((cA 0), 8, .inr (.inl u_1.2.2.1))), (h5, .inr (5, [.ref h6, .long o.2.1, .long o.2.2.1, .long o.2.2.2.1, .long o.2.2.2.2])), (h6, .inr (3, [.ref h7, .ref h8, .ref h9, .int o.1.2.2.2])), (h7, .inl ((cA 0), 8, .inr (.inl o.1.1))), (h8, .inl ((cA 0), 8, .inr (.inl o.1.2.1))), (h9, .inl ((cA 0), 8, .inr (.inl o.1.2.2.1)))] H := hP
  have hD : va_D A [(h0, .inr (5, [.ref h1, .long o.2.1, .long o.2.2.1, .long v.2.2.2.1, .long v.2.2.2.2])), (h1, .inr (3, [.ref h2, .ref h3, .ref h4, .int u_1.2.2.2])), (h2, .inl ((cA 0), 8, .inr (.inl u_1.1))), (h3, .inl ((cA 0), 8, .inr (.inl u_1.2.1))), (h4, .inl ((cA 0), 8, .inr (.inl u_1.2.2.1))), (h5, .inr (5, [.ref h6, .long o.2.1, .long o.2.2.1, .long o.2.2.2.1, .long o.2.2.2.2])), (h6, .inr (3, [.ref h7, .ref h8, .ref h9, .int o.1.2.2.2])), (h7, .inl ((cA 0), 8, .inr (.inl o.1.1))), (h8, .inl ((cA 0), 8, .inr (.inl o.1.2.1))), (h9, .inl ((cA 0), 8, .inr (.inl o.1.2.2.1)))] := hD
  refine lv_aload_n hx hb dX5_copyFrom_27 rfl (lv_at hl 0 rfl) ?_
  refine lv_aload_n hx hb dX5_copyFrom_28 rfl (lv_at hl 1 rfl) ?_
  refine va_get (D := D) (ci := 5) (v := .long o.2.2.2.1) (C := RX5) (T := TX5) (N := 5) hx hb hts hinX5 hown hK hP 5 rfl rfl 3 (by decide) (hts (.fieldLink RX5 31 "GyroTrainer$Ship" "speed" "J") (List.mem_of_getElem? (i := 4) rfl)) (fun _ h9 => h9) rfl dX5_copyFrom_29 ?_
  refine va_put (D := D) (ci := 5) (v := .long o.2.2.2.1) (ty := .long) (C := RX5) (T := TX5) (N := 5) hx hb hts hinX5 tyX5 tyX5_ok nmX5 hown hK hP hD hS 0 rfl rfl 3 (by decide) (hts (.fieldLink RX5 31 "GyroTrainer$Ship" "speed" "J") (List.mem_of_getElem? (i := 4) rfl)) (fun _ h9 => h9) rfl (by decide +kernel) rfl rfl (Nat.le_of_ble_eq_true rfl) dX5_copyFrom_32 (fun H locs hP hD hS => ?_)
  have hP : va_P D vwCl [(h0, .inr (5, [.ref h1, .long o.2.1, .long o.2.2.1, .long o.2.2.2.1, .long v.2.2.2.2])), (h1, .inr (3, [.ref h2, .ref h3, .ref h4, .int u_1.2.2.2])), (h2, .inl ((cA 0), 8, .inr (.inl u_1.1))), (h3, .inl ((cA 0), 8, .inr (.inl u_1.2.1))), (h4, .inl ((cA 0), 8, .inr (.inl u_1.2.2.1))), (h5, .inr (5, [.ref h6, .long o.2.1, .long o.2.2.1, .long o.2.2.2.1, .long o.2.2.2.2])), (h6, .inr (3, [.ref h7, .ref h8, .ref h9, .int o.1.2.2.2])), (h7, .inl ((cA 0), 8, .inr (.inl o.1.1))), (h8, .inl ((cA 0), 8, .inr (.inl o.1.2.1))), (h9, .inl ((cA 0), 8, .inr (.inl o.1.2.2.1)))] H := hP
  have hD : va_D A [(h0, .inr (5, [.ref h1, .long o.2.1, .long o.2.2.1, .long o.2.2.2.1, .long v.2.2.2.2])), (h1, .inr (3, [.ref h2, .ref h3, .ref h4, .int u_1.2.2.2])), (h2, .inl ((cA 0), 8, .inr (.inl u_1.1))), (h3, .inl ((cA 0), 8, .inr (.inl u_1.2.1))), (h4, .inl ((cA 0), 8, .inr (.inl u_1.2.2.1))), (h5, .inr (5, [.ref h6, .long o.2.1, .long o.2.2.1, .long o.2.2.2.1, .long o.2.2.2.2])), (h6, .inr (3, [.ref h7, .ref h8, .ref h9, .int o.1.2.2.2])), (h7, .inl ((cA 0), 8, .inr (.inl o.1.1))), (h8, .inl ((cA 0), 8, .inr (.inl o.1.2.1))), (h9, .inl ((cA 0), 8, .inr (.inl o.1.2.2.1)))] := hD
  refine lv_aload_n hx hb dX5_copyFrom_35 rfl (lv_at hl 0 rfl) ?_
  refine lv_aload_n hx hb dX5_copyFrom_36 rfl (lv_at hl 1 rfl) ?_
  refine va_get (D := D) (ci := 5) (v := .long o.2.2.2.2) (C := RX5) (T := TX5) (N := 5) hx hb hts hinX5 hown hK hP 5 rfl rfl 4 (by decide) (hts (.fieldLink RX5 34 "GyroTrainer$Ship" "way" "J") (List.mem_of_getElem? (i := 5) rfl)) (fun _ h9 => h9) rfl dX5_copyFrom_37 ?_
  refine va_put (D := D) (ci := 5) (v := .long o.2.2.2.2) (ty := .long) (C := RX5) (T := TX5) (N := 5) hx hb hts hinX5 tyX5 tyX5_ok nmX5 hown hK hP hD hS 0 rfl rfl 4 (by decide) (hts (.fieldLink RX5 34 "GyroTrainer$Ship" "way" "J") (List.mem_of_getElem? (i := 5) rfl)) (fun _ h9 => h9) rfl (by decide +kernel) rfl rfl (Nat.le_of_ble_eq_true rfl) dX5_copyFrom_40 (fun H locs hP hD hS => ?_)
  have hP : va_P D vwCl [(h0, .inr (5, [.ref h1, .long o.2.1, .long o.2.2.1, .long o.2.2.2.1, .long o.2.2.2.2])), (h1, .inr (3, [.ref h2, .ref h3, .ref h4, .int u_1.2.2.2])), (h2, .inl ((cA 0), 8, .inr (.inl u_1.1))), (h3, .inl ((cA 0), 8, .inr (.inl u_1.2.1))), (h4, .inl ((cA 0), 8, .inr (.inl u_1.2.2.1))), (h5, .inr (5, [.ref h6, .long o.2.1, .long o.2.2.1, .long o.2.2.2.1, .long o.2.2.2.2])), (h6, .inr (3, [.ref h7, .ref h8, .ref h9, .int o.1.2.2.2])), (h7, .inl ((cA 0), 8, .inr (.inl o.1.1))), (h8, .inl ((cA 0), 8, .inr (.inl o.1.2.1))), (h9, .inl ((cA 0), 8, .inr (.inl o.1.2.2.1)))] H := hP
  have hD : va_D A [(h0, .inr (5, [.ref h1, .long o.2.1, .long o.2.2.1, .long o.2.2.2.1, .long o.2.2.2.2])), (h1, .inr (3, [.ref h2, .ref h3, .ref h4, .int u_1.2.2.2])), (h2, .inl ((cA 0), 8, .inr (.inl u_1.1))), (h3, .inl ((cA 0), 8, .inr (.inl u_1.2.1))), (h4, .inl ((cA 0), 8, .inr (.inl u_1.2.2.1))), (h5, .inr (5, [.ref h6, .long o.2.1, .long o.2.2.1, .long o.2.2.2.1, .long o.2.2.2.2])), (h6, .inr (3, [.ref h7, .ref h8, .ref h9, .int o.1.2.2.2])), (h7, .inl ((cA 0), 8, .inr (.inl o.1.1))), (h8, .inl ((cA 0), 8, .inr (.inl o.1.2.1))), (h9, .inl ((cA 0), 8, .inr (.inl o.1.2.2.1)))] := hD
  have e9 : o = (u_1, o.2.1, o.2.2.1, o.2.2.2.1, o.2.2.2.2) := by subst eu_1; rfl
  have hP9 : va_P D vwCl (wX5 cA h0 h1 h2 h3 h4 ((u_1, o.2.1, o.2.2.1, o.2.2.2.1, o.2.2.2.2) : vX5) ++ wX5 cA h5 h6 h7 h8 h9 o) H := hP
  have hD9 : va_D A (wX5 cA h0 h1 h2 h3 h4 ((u_1, o.2.1, o.2.2.1, o.2.2.2.1, o.2.2.2.2) : vX5) ++ wX5 cA h5 h6 h7 h8 h9 o) := hD
  subst hQ
  exact W.vret hx hb hr (fun t ht hW => ⟨⟨(u_1, o.2.1, o.2.2.1, o.2.2.2.1, o.2.2.2.2), rfl, e9.symm, ⟨by rw [ht]; exact hP9, va_K.moved hW.alike hK, hD9⟩⟩, hS.F ht⟩) hS.2.2 dX5_copyFrom_43
set_option maxHeartbeats 4000000 in
set_option maxRecDepth 100000 in
theorem c_X5_addLeg (l : Launch) (D : va_G) (cA : Nat → ClassId) (h0 h1 h2 h3 h4 : Nat) (sz : Nat) (v : vX5) (y0 : Int64) (y1 : Int64) (y2 : Int64)  : Met l yX5_addLeg wsX5_addLeg ({ frames := 2, cells := 0, slots := 0, locals := 49 }) (va_Pc [.ref h0, .long y0, .long y1, .long y2] (zPre D (zty cA) (wX5 cA h0 h1 h2 h3 h4 v) sz)) (va_Qv (fun (u : vX5) => u = (zf_shadd v y0 y1 y2)) (fun u => zPost D (zty cA) (va_A (wX5 cA h0 h1 h2 h3 h4 v) sz) (wX5 cA h0 h1 h2 h3 h4 u)) (va_A (wX5 cA h0 h1 h2 h3 h4 v) sz)) 0 0 (va_A (wX5 cA h0 h1 h2 h3 h4 v) sz) := by
  refine Met.ofW (cc := cX5_addLeg) (maxL := 7) (ret := none) (by decide) rfl ?_
  intro p e s m args below meth c s₁ B hml hv
  obtain ⟨rfl, hsz, hP, hK, hD0, hE⟩ := hv
  have hx := B.exec
  have hb := B.bytes
  have hr := B.returns
  have hts := atoms_spec (ws := wsX5_addLeg) B.pre
  have hown : s.vm.findClass RX5 = some m.cls := findClass_of_methodNamed B.named
  have hlocks := B.notSynchronized
  have hinX5 : ∀ w ∈ u_ws RX5 TX5 5, w ∈ wsX5_addLeg := fun w h => List.mem_cons_of_mem _ (List.mem_append_left _ (List.mem_append_right _ h))
  have hinX3 : ∀ w ∈ u_ws RX3 TX3 4, w ∈ wsX5_addLeg := fun w h => List.mem_cons_of_mem _ (List.mem_append_right _ h)
  subst hsz
  have hD := hD0.self (sz := s.heap.size)
  generalize hAe : va_A (wX5 cA h0 h1 h2 h3 h4 v) s.heap.size = A at hD hE ⊢
  have hA : ∀ q : Nat, s.heap.size ≤ q → A q := fun q h => by rw [← hAe]; exact Or.inr h
  have hS : va_S A s.heap s.heap [] := va_S.rf
  have hN : zN s := hE.1
  have hP : va_P D vwCl [(h0, .inr (5, [.ref h1, .long v.2.1, .long v.2.2.1, .long v.2.2.2.1, .long v.2.2.2.2])), (h1, .inr (3, [.ref h2, .ref h3, .ref h4, .int v.1.2.2.2])), (h2, .inl ((cA 0), 8, .inr (.inl v.1.1))), (h3, .inl ((cA 0), 8, .inr (.inl v.1.2.1))), (h4, .inl ((cA 0), 8, .inr (.inl v.1.2.2.1)))] s.heap := hP
  have hD : va_D A [(h0, .inr (5, [.ref h1, .long v.2.1, .long v.2.2.1, .long v.2.2.2.1, .long v.2.2.2.2])), (h1, .inr (3, [.ref h2, .ref h3, .ref h4, .int v.1.2.2.2])), (h2, .inl ((cA 0), 8, .inr (.inl v.1.1))), (h3, .inl ((cA 0), 8, .inr (.inl v.1.2.1))), (h4, .inl ((cA 0), 8, .inr (.inl v.1.2.2.1)))] := hD
  have hl := lv_entry ([.ref h0, .long y0, .long y1, .long y2]) (n := 7) (Nat.le_of_ble_eq_true rfl)
  rw [lg_entry_eq]
  generalize (lg_sl ([.ref h0, .long y0, .long y1, .long y2]) ++ List.replicate (7 - (lg_sl ([.ref h0, .long y0, .long y1, .long y2])).length) Slot.unset).toArray = ls at hl ⊢
  have hl : lv_has ls 7 [(0, .ref h0), (1, .long y0), (3, .long y1), (5, .long y2)] := hl
  refine z_genQ (fun Q hQ => ?_)
  refine lv_aload_n hx hb dX5_addLeg_0 rfl (lv_at hl 0 rfl) ?_
  refine va_get (D := D) (ci := 5) (v := .ref h1) (C := RX5) (T := TX5) (N := 5) hx hb hts hinX5 hown hK hP 0 rfl rfl 0 (by decide) (hts (.fieldLink RX5 14 "GyroTrainer$Ship" "legs" "LGyroTrainer$Legs;") (List.mem_of_getElem? (i := 1) rfl)) (fun _ h9 => h9) rfl dX5_addLeg_1 ?_
  refine lv_lload_n hx hb dX5_addLeg_4 rfl (lv_at hl 1 rfl) ?_
  refine lv_lload_n hx hb dX5_addLeg_5 rfl (lv_at hl 2 rfl) ?_
  refine lv_lload hx hb dX5_addLeg_6 (lv_at hl 3 rfl) ?_
  refine z_Gv (wr := [(h0, .inr (5, [.ref h1, .long v.2.1, .long v.2.2.1, .long v.2.2.2.1, .long v.2.2.2.2]))]) (wt := (fun (u_1 : vX3) => [(h0, .inr (5, [.ref h1, .long v.2.1, .long v.2.2.1, .long v.2.2.2.1, .long v.2.2.2.2])), (h1, .inr (3, [.ref h2, .ref h3, .ref h4, .int u_1.2.2.2])), (h2, .inl ((cA 0), 8, .inr (.inl u_1.1))), (h3, .inl ((cA 0), 8, .inr (.inl u_1.2.1))), (h4, .inl ((cA 0), 8, .inr (.inl u_1.2.2.1)))])) (va_runV (As := [.long y0, .long y1, .long y2]) (rest := []) ⟨hx, hb, hml, hown, hts⟩ (c_X3_add l D cA h1 h2 h3 h4 s.heap.size 8 v.1 y0 y1 y2 (by decide)) (cwV 3 hts gX5_addLeg_X3_add rfl rfl rfl (by decide +kernel) ⟨Nat.le_of_ble_eq_true rfl, Nat.le_of_ble_eq_true rfl⟩) (zpV hK hP hD hS hA hE [1, 2, 3, 4] [0, 1, 2, 3, 4] rfl (by decide) rfl 0 rfl rfl) rfl rfl hl.1 rfl (lv_room (Nat.le_of_ble_eq_true rfl)) dX5_addLeg_8 ⟨Nat.le_of_ble_eq_true rfl, Nat.le_of_ble_eq_true rfl⟩) hP hD hS hA [1, 2, 3, 4] [0] [0, 1, 2, 3, 4] rfl rfl (by decide) (fun _ => rfl) (fun u_1 H locs eu_1 hP hD hS => ?_)
  have hP : va_P D vwCl [(h0, .inr (5, [.ref h1, .long v.2.1, .long v.2.2.1, .long v.2.2.2.1, .long v.2.2.2.2])), (h1, .inr (3, [.ref h2, .ref h3, .ref h4, .int u_1.2.2.2])), (h2, .inl ((cA 0), 8, .inr (.inl u_1.1))), (h3, .inl ((cA 0), 8, .inr (.inl u_1.2.1))), (h4, .inl ((cA 0), 8, .inr (.inl u_1.2.2.1)))] H := hP
  have hD : va_D A [(h0, .inr (5, [.ref h1, .long v.2.1, .long v.2.2.1, .long v.2.2.2.1, .long v.2.2.2.2])), (h1, .inr (3, [.ref h2, .ref h3, .ref h4, .int u_1.2.2.2])), (h2, .inl ((cA 0), 8, .inr (.inl u_1.1))), (h3, .inl ((cA 0), 8, .inr (.inl u_1.2.1))), (h4, .inl ((cA 0), 8, .inr (.inl u_1.2.2.1)))] := hD
  refine lv_aload_n hx hb dX5_addLeg_11 rfl (lv_at hl 0 rfl) ?_
  refine z_Gv (wr := []) (wt := (fun (u_3 : vX5) => [(h0, .inr (5, [.ref h1, .long u_3.2.1, .long u_3.2.2.1, .long u_3.2.2.2.1, .long u_3.2.2.2.2])), (h1, .inr (3, [.ref h2, .ref h3, .ref h4, .int u_3.1.2.2.2])), (h2, .inl ((cA 0), 8, .inr (.inl u_3.1.1))), (h3, .inl ((cA 0), 8, .inr (.inl u_3.1.2.1))), (h4, .inl ((cA 0), 8, .inr (.inl u_3.1.2.2.1)))])) (va_runV (As := []) (rest := []) ⟨hx, hb, hml, hown, hts⟩ (c_X5_takeFirstLeg l D cA h0 h1 h2 h3 h4 H.size (u_1, v.2.1, v.2.2.1, v.2.2.2.1, v.2.2.2.2)) (cwV 0 hts gX5_addLeg_X5_takeFirstLeg rfl rfl rfl (by decide +kernel) ⟨Nat.le_of_ble_eq_true rfl, Nat.le_of_ble_eq_true rfl⟩) (zpV hK hP hD hS hA hE [0, 1, 2, 3, 4] [0, 1, 2, 3, 4] rfl (by decide) rfl 0 rfl rfl) rfl rfl hl.1 rfl (lv_room (Nat.le_of_ble_eq_true rfl)) dX5_addLeg_12 ⟨Nat.le_of_ble_eq_true rfl, Nat.le_of_ble_eq_true rfl⟩) hP hD hS hA [0, 1, 2, 3, 4] [] [0, 1, 2, 3, 4] rfl rfl (by decide) (fun _ => rfl) (fun u_3 H locs eu_3 hP hD hS => ?_)
  have hP : va_P D vwCl [(h0, .inr (5, [.ref h1, .long u_3.2.1, .long u_3.2.2.1, .long u_3.2.2.2.1, .long u_3.2.2.2.2])), (h1, .inr (3, [.ref h2, .ref h3, .ref h4, .int u_3.1.2.2.2])), (h2, .inl ((cA 0), 8, .inr (.inl u_3.1.1))), (h3, .inl ((cA 0), 8, .inr (.inl u_3.1.2.1))), (h4, .inl ((cA 0), 8, .inr (.inl u_3.1.2.2.1)))] H := hP
  have hD : va_D A [(h0, .inr (5, [.ref h1, .long u_3.2.1, .long u_3.2.2.1, .long u_3.2.2.2.1, .long u_3.2.2.2.2])), (h1, .inr (3, [.ref h2, .ref h3, .ref h4, .int u_3.1.2.2.2])), (h2, .inl ((cA 0), 8, .inr (.inl u_3.1.1))), (h3, .inl ((cA 0), 8, .inr (.inl u_3.1.2.1))), (h4, .inl ((cA 0), 8, .inr (.inl u_3.1.2.2.1)))] := hD
  have e9 : (zf_shadd v y0 y1 y2) = u_3 := by subst eu_1; subst eu_3; rfl
  have hP9 : va_P D vwCl (wX5 cA h0 h1 h2 h3 h4 (u_3 : vX5)) H := hP
  have hD9 : va_D A (wX5 cA h0 h1 h2 h3 h4 (u_3 : vX5)) := hD
  subst hQ
  exact W.vret hx hb hr (fun t ht hW => ⟨⟨u_3, rfl, e9.symm, ⟨by rw [ht]; exact hP9, va_K.moved hW.alike hK, hD9⟩⟩, hS.F ht⟩) hS.2.2 dX5_addLeg_15
set_option maxHeartbeats 4000000 in
set_option maxRecDepth 100000 in
theorem c_X5_minutesLeft (l : Launch) (D : va_G) (cA : Nat → ClassId) (h0 h1 h2 h3 h4 : Nat) (v : vX5)  : Met l yX5_minutesLeft wsX5_minutesLeft ({ frames := 1, cells := 0, slots := 0, locals := 21 }) (va_Pc [.ref h0] (zPreR D (zty cA) (wX5 cA h0 h1 h2 h3 h4 v))) (vp_Sl (fun x => x = (zf_left v))) 0 0 (fun _ => False) := by
  refine Met.ofW (cc := cX5_minutesLeft) (maxL := 1) (ret := (some .long)) (by decide) rfl ?_
  intro p e s m args below meth c s₁ B hml hv
  obtain ⟨rfl, hP, hK, hN⟩ := hv
  have hx := B.exec
  have hb := B.bytes
  have hr := B.returns
  have hts := atoms_spec (ws := wsX5_minutesLeft) B.pre
  have hown : s.vm.findClass RX5 = some m.cls := findClass_of_methodNamed B.named
  have hlocks := B.notSynchronized
  have hinX5 : ∀ w ∈ u_ws RX5 TX5 5, w ∈ wsX5_minutesLeft := fun w h => List.mem_cons_of_mem _ (List.mem_append_left _ (List.mem_append_right _ h))
  have hinX3 : ∀ w ∈ u_ws RX3 TX3 4, w ∈ wsX5_minutesLeft := fun w h => List.mem_cons_of_mem _ (List.mem_append_right _ h)
  have hP : va_P D vwCl [(h0, .inr (5, [.ref h1, .long v.2.1, .long v.2.2.1, .long v.2.2.2.1, .long v.2.2.2.2])), (h1, .inr (3, [.ref h2, .ref h3, .ref h4, .int v.1.2.2.2])), (h2, .inl ((cA 0), 8, .inr (.inl v.1.1))), (h3, .inl ((cA 0), 8, .inr (.inl v.1.2.1))), (h4, .inl ((cA 0), 8, .inr (.inl v.1.2.2.1)))] s.heap := hP
  have hl := lv_entry ([.ref h0]) (n := 1) (Nat.le_of_ble_eq_true rfl)
  rw [lg_entry_eq]
  generalize (lg_sl ([.ref h0]) ++ List.replicate (1 - (lg_sl ([.ref h0])).length) Slot.unset).toArray = ls at hl ⊢
  have hl : lv_has ls 1 [(0, .ref h0)] := hl
  refine z_genQ (fun Q hQ => ?_)
  refine lv_aload_n hx hb dX5_minutesLeft_0 rfl (lv_at hl 0 rfl) ?_
  refine va_get (D := D) (ci := 5) (v := .ref h1) (C := RX5) (T := TX5) (N := 5) hx hb hts hinX5 hown hK hP 0 rfl rfl 0 (by decide) (hts (.fieldLink RX5 14 "GyroTrainer$Ship" "legs" "LGyroTrainer$Legs;") (List.mem_of_getElem? (i := 1) rfl)) (fun _ h9 => h9) rfl dX5_minutesLeft_1 ?_
  refine va_get (D := D) (ci := 3) (v := .int v.1.2.2.2) (C := RX3) (T := TX3) (N := 4) hx hb hts hinX3 hown hK hP 1 rfl rfl 3 (by decide) (hts (.fieldLink RX5 44 "GyroTrainer$Legs" "count" "I") (List.mem_of_getElem? (i := 2) rfl)) (fun _ h9 => h9) rfl dX5_minutesLeft_4 ?_
  refine lv_if_le (tgt := 24) hx hb dX5_minutesLeft_7 (by decide) (fun c_1 => ?_) (fun c_1 => ?_)
  · skip
    refine lv_lconst (v := 0) hx hb dX5_minutesLeft_24 (by decide) ?_
    have e9 : (zf_left v) = (0 : Int64) := by unfold zf_left; simp only [if_pos c_1] <;> rfl
    subst hQ
    exact W.lret (v := (0 : Int64)) hx hb hr (fun t ht hW => ⟨_, rfl, e9.symm, ht⟩) (fun q h => by cases h) dX5_minutesLeft_25
  · skip
    refine lv_aload_n hx hb dX5_minutesLeft_10 rfl (lv_at hl 0 rfl) ?_
    refine va_get (D := D) (ci := 5) (v := .ref h1) (C := RX5) (T := TX5) (N := 5) hx hb hts hinX5 hown hK hP 0 rfl rfl 0 (by decide) (hts (.fieldLink RX5 14 "GyroTrainer$Ship" "legs" "LGyroTrainer$Legs;") (List.mem_of_getElem? (i := 1) rfl)) (fun _ h9 => h9) rfl dX5_minutesLeft_11 ?_
    refine va_get (D := D) (ci := 3) (v := .ref h4) (C := RX3) (T := TX3) (N := 4) hx hb hts hinX3 hown hK hP 1 rfl rfl 2 (by decide) (hts (.fieldLink RX5 48 "GyroTrainer$Legs" "minutes" "[J") (List.mem_of_getElem? (i := 3) rfl)) (fun _ h9 => h9) rfl dX5_minutesLeft_14 ?_
    refine lv_iconst (v := 0) hx hb dX5_minutesLeft_17 (by decide) ?_
    refine z_Rl (va_runSN (As := [.ref h4, .int (0 : Int32)]) (rest := []) ⟨hx, hb, hml, hown, hts⟩ (c_X9_at l D cA h4 8 v.1.2.2.1 (0 : Int32) (by decide)) (⟨va_cnB (host := "GyroTrainer") 2 hts gX5_minutesLeft_X9_at_n52 rfl rfl rfl (hN.get 14 rfl) (hts (.initialized RX9) (List.mem_of_getElem? (i := 5) rfl)) (by decide +kernel) ⟨Nat.le_of_ble_eq_true rfl, Nat.le_of_ble_eq_true rfl⟩, (hts (.static yX9_at) (List.mem_of_getElem? (i := 4) rfl)), trivial⟩) (zpSR hK hP hN [4] [0, 1, 2, 3, 4] rfl rfl) rfl rfl hl.1 rfl (lv_room (Nat.le_of_ble_eq_true rfl)) dX5_minutesLeft_18 ⟨Nat.le_of_ble_eq_true rfl, Nat.le_of_ble_eq_true rfl⟩) ?_
    refine lv_goto (tgt := 25) hx hb dX5_minutesLeft_21 (by decide) ?_
    have e9 : (zf_left v) = (zf_at 8 v.1.2.2.1 (0 : Int32)) := by unfold zf_left; simp only [if_neg c_1] <;> rfl
    subst hQ
    exact W.lret (v := (zf_at 8 v.1.2.2.1 (0 : Int32))) hx hb hr (fun t ht hW => ⟨_, rfl, e9.symm, ht⟩) (fun q h => by cases h) dX5_minutesLeft_25
set_option maxHeartbeats 4000000 in
set_option maxRecDepth 100000 in
theorem c_X5_sailMinuteOfLeg (l : Launch) (D : va_G) (cA : Nat → ClassId) (h0 h1 h2 h3 h4 : Nat) (sz : Nat) (k0 : Nat) (v : vX5) (hc : v.1.2.2.2 = nI k0) (hk8 : k0 ≤ 8) : Met l yX5_sailMinuteOfLeg wsX5_sailMinuteOfLeg ({ frames := 2, cells := 0, slots := 0, locals := 44 }) (va_Pc [.ref h0] (zPre D (zty cA) (wX5 cA h0 h1 h2 h3 h4 v) sz)) (va_Qv (fun (u : vX5) => u = (zf_sailLeg k0 v)) (fun u => zPost D (zty cA) (va_A (wX5 cA h0 h1 h2 h3 h4 v) sz) (wX5 cA h0 h1 h2 h3 h4 u)) (va_A (wX5 cA h0 h1 h2 h3 h4 v) sz)) 0 0 (va_A (wX5 cA h0 h1 h2 h3 h4 v) sz) := by
  refine Met.ofW (cc := cX5_sailMinuteOfLeg) (maxL := 3) (ret := none) (by decide) rfl ?_
  intro p e s m args below meth c s₁ B hml hv
  obtain ⟨rfl, hsz, hP, hK, hD0, hE⟩ := hv
  have hx := B.exec
  have hb := B.bytes
  have hr := B.returns
  have hts := atoms_spec (ws := wsX5_sailMinuteOfLeg) B.pre
  have hown : s.vm.findClass RX5 = some m.cls := findClass_of_methodNamed B.named
  have hlocks := B.notSynchronized
  have hinX5 : ∀ w ∈ u_ws RX5 TX5 5, w ∈ wsX5_sailMinuteOfLeg := fun w h => List.mem_cons_of_mem _ (List.mem_append_left _ (List.mem_append_right _ h))
  have hinX3 : ∀ w ∈ u_ws RX3 TX3 4, w ∈ wsX5_sailMinuteOfLeg := fun w h => List.mem_cons_of_mem _ (List.mem_append_right _ h)
  subst hsz
  have hD := hD0.self (sz := s.heap.size)
  generalize hAe : va_A (wX5 cA h0 h1 h2 h3 h4 v) s.heap.size = A at hD hE ⊢
  have hA : ∀ q : Nat, s.heap.size ≤ q → A q := fun q h => by rw [← hAe]; exact Or.inr h
  have hS : va_S A s.heap s.heap [] := va_S.rf
  have hN : zN s := hE.1
  have hP : va_P D vwCl [(h0, .inr (5, [.ref h1, .long v.2.1, .long v.2.2.1, .long v.2.2.2.1, .long v.2.2.2.2])), (h1, .inr (3, [.ref h2, .ref h3, .ref h4, .int v.1.2.2.2])), (h2, .inl ((cA 0), 8, .inr (.inl v.1.1))), (h3, .inl ((cA 0), 8, .inr (.inl v.1.2.1))), (h4, .inl ((cA 0), 8, .inr (.inl v.1.2.2.1)))] s.heap := hP
  have hD : va_D A [(h0, .inr (5, [.ref h1, .long v.2.1, .long v.2.2.1, .long v.2.2.2.1, .long v.2.2.2.2])), (h1, .inr (3, [.ref h2, .ref h3, .ref h4, .int v.1.2.2.2])), (h2, .inl ((cA 0), 8, .inr (.inl v.1.1))), (h3, .inl ((cA 0), 8, .inr (.inl v.1.2.1))), (h4, .inl ((cA 0), 8, .inr (.inl v.1.2.2.1)))] := hD
  have hl := lv_entry ([.ref h0]) (n := 3) (Nat.le_of_ble_eq_true rfl)
  rw [lg_entry_eq]
  generalize (lg_sl ([.ref h0]) ++ List.replicate (3 - (lg_sl ([.ref h0])).length) Slot.unset).toArray = ls at hl ⊢
  have hl : lv_has ls 3 [(0, .ref h0)] := hl
  refine z_genQ (fun Q hQ => ?_)
  refine lv_aload_n hx hb dX5_sailMinuteOfLeg_0 rfl (lv_at hl 0 rfl) ?_
  refine va_get (D := D) (ci := 5) (v := .ref h1) (C := RX5) (T := TX5) (N := 5) hx hb hts hinX5 hown hK hP 0 rfl rfl 0 (by decide) (hts (.fieldLink RX5 14 "GyroTrainer$Ship" "legs" "LGyroTrainer$Legs;") (List.mem_of_getElem? (i := 1) rfl)) (fun _ h9 => h9) rfl dX5_sailMinuteOfLeg_1 ?_
  refine va_get (D := D) (ci := 3) (v := .ref h4) (C := RX3) (T := TX3) (N := 4) hx hb hts hinX3 hown hK hP 1 rfl rfl 2 (by decide) (hts (.fieldLink RX5 48 "GyroTrainer$Legs" "minutes" "[J") (List.mem_of_getElem? (i := 2) rfl)) (fun _ h9 => h9) rfl dX5_sailMinuteOfLeg_4 ?_
  refine lv_iconst (v := 0) hx hb dX5_sailMinuteOfLeg_7 (by decide) ?_
  refine z_Rl (va_runSN (As := [.ref h4, .int (0 : Int32)]) (rest := []) ⟨hx, hb, hml, hown, hts⟩ (c_X9_at l D cA h4 8 v.1.2.2.1 (0 : Int32) (by decide)) (⟨va_cnB (host := "GyroTrainer") 2 hts gX5_sailMinuteOfLeg_X9_at_n52 rfl rfl rfl (hN.get 14 rfl) (hts (.initialized RX9) (List.mem_of_getElem? (i := 6) rfl)) (by decide +kernel) ⟨Nat.le_of_ble_eq_true rfl, Nat.le_of_ble_eq_true rfl⟩, (hts (.static yX9_at) (List.mem_of_getElem? (i := 5) rfl)), trivial⟩) (zpSR hK hP hN [4] [0, 1, 2, 3, 4] rfl rfl) rfl rfl hl.1 rfl (lv_room (Nat.le_of_ble_eq_true rfl)) dX5_sailMinuteOfLeg_8 ⟨Nat.le_of_ble_eq_true rfl, Nat.le_of_ble_eq_true rfl⟩) ?_
  refine lv_lconst (v := 1) hx hb dX5_sailMinuteOfLeg_11 (by decide) ?_
  refine lv_lsub hx hb dX5_sailMinuteOfLeg_12 ?_
  refine lv_lstore_n (lv' := [(1, .long ((zf_at 8 v.1.2.2.1 (0 : Int32)) - (1 : Int64))), (0, .ref h0)]) hx hb dX5_sailMinuteOfLeg_13 rfl hl (by decide) rfl (fun ls hl => ?_)
  refine lv_aload_n hx hb dX5_sailMinuteOfLeg_14 rfl (lv_at hl 1 rfl) ?_
  refine va_get (D := D) (ci := 5) (v := .ref h1) (C := RX5) (T := TX5) (N := 5) hx hb hts hinX5 hown hK hP 0 rfl rfl 0 (by decide) (hts (.fieldLink RX5 14 "GyroTrainer$Ship" "legs" "LGyroTrainer$Legs;") (List.mem_of_getElem? (i := 1) rfl)) (fun _ h9 => h9) rfl dX5_sailMinuteOfLeg_15 ?_
  refine va_get (D := D) (ci := 3) (v := .ref h4) (C := RX3) (T := TX3) (N := 4) hx hb hts hinX3 hown hK hP 1 rfl rfl 2 (by decide) (hts (.fieldLink RX5 48 "GyroTrainer$Legs" "minutes" "[J") (List.mem_of_getElem? (i := 2) rfl)) (fun _ h9 => h9) rfl dX5_sailMinuteOfLeg_18 ?_
  refine lv_iconst (v := 0) hx hb dX5_sailMinuteOfLeg_21 (by decide) ?_
  refine lv_lload_n hx hb dX5_sailMinuteOfLeg_22 rfl (lv_at hl 0 rfl) ?_
  refine z_Gv (wr := [(h0, .inr (5, [.ref h1, .long v.2.1, .long v.2.2.1, .long v.2.2.2.1, .long v.2.2.2.2])), (h1, .inr (3, [.ref h2, .ref h3, .ref h4, .int v.1.2.2.2])), (h2, .inl ((cA 0), 8, .inr (.inl v.1.1))), (h3, .inl ((cA 0), 8, .inr (.inl v.1.2.1)))]) (wt := (fun (u_1 : (Nat → Int64)) => [(h0, .inr (5, [.ref h1, .long v.2.1, .long v.2.2.1, .long v.2.2.2.1, .long v.2.2.2.2])), (h1, .inr (3, [.ref h2, .ref h3, .ref h4, .int v.1.2.2.2])), (h2, .inl ((cA 0), 8, .inr (.inl v.1.1))), (h3, .inl ((cA 0), 8, .inr (.inl v.1.2.1))), (h4, .inl ((cA 0), 8, .inr (.inl u_1)))])) (va_runSN (As := [.ref h4, .int (0 : Int32), .long ((zf_at 8 v.1.2.2.1 (0 : Int32)) - (1 : Int64))]) (rest := []) ⟨hx, hb, hml, hown, hts⟩ (c_X9_write l D cA h4 s.heap.size 8 v.1.2.2.1 (0 : Int32) ((zf_at 8 v.1.2.2.1 (0 : Int32)) - (1 : Int64)) (by decide)) (⟨va_cnB (host := "GyroTrainer") 3 hts gX5_sailMinuteOfLeg_X9_write_n73 rfl rfl rfl (hN.get 24 rfl) (hts (.initialized RX9) (List.mem_of_getElem? (i := 6) rfl)) (by decide +kernel) ⟨Nat.le_of_ble_eq_true rfl, Nat.le_of_ble_eq_true rfl⟩, (hts (.static yX9_write) (List.mem_of_getElem? (i := 8) rfl)), trivial⟩) (zpS hK hP hD hS hA hE [4] [0, 1, 2, 3, 4] rfl (by decide) rfl) rfl rfl hl.1 rfl (lv_room (Nat.le_of_ble_eq_true rfl)) dX5_sailMinuteOfLeg_23 ⟨Nat.le_of_ble_eq_true rfl, Nat.le_of_ble_eq_true rfl⟩) hP hD hS hA [4] [0, 1, 2, 3] [0, 1, 2, 3, 4] rfl rfl (by decide) (fun _ => rfl) (fun u_1 H locs eu_1 hP hD hS => ?_)
  have hP : va_P D vwCl [(h0, .inr (5, [.ref h1, .long v.2.1, .long v.2.2.1, .long v.2.2.2.1, .long v.2.2.2.2])), (h1, .inr (3, [.ref h2, .ref h3, .ref h4, .int v.1.2.2.2])), (h2, .inl ((cA 0), 8, .inr (.inl v.1.1))), (h3, .inl ((cA 0), 8, .inr (.inl v.1.2.1))), (h4, .inl ((cA 0), 8, .inr (.inl u_1)))] H := hP
  have hD : va_D A [(h0, .inr (5, [.ref h1, .long v.2.1, .long v.2.2.1, .long v.2.2.2.1, .long v.2.2.2.2])), (h1, .inr (3, [.ref h2, .ref h3, .ref h4, .int v.1.2.2.2])), (h2, .inl ((cA 0), 8, .inr (.inl v.1.1))), (h3, .inl ((cA 0), 8, .inr (.inl v.1.2.1))), (h4, .inl ((cA 0), 8, .inr (.inl u_1)))] := hD
  refine lv_lload_n hx hb dX5_sailMinuteOfLeg_26 rfl (lv_at hl 0 rfl) ?_
  refine lv_lconst (v := 0) hx hb dX5_sailMinuteOfLeg_27 (by decide) ?_
  refine W.lcmp hx hb dX5_sailMinuteOfLeg_28 ?_
  refine lv_if_le (tgt := 33) hx hb dX5_sailMinuteOfLeg_29 (by decide) (fun kc_3 => ?_) (fun kc_3 => ?_)
  · skip
    have c_3 : ((zf_at 8 v.1.2.2.1 (0 : Int32)) - (1 : Int64)) ≤ (0 : Int64) := (lg_cmp_le _ _).mp kc_3
    refine lv_aload_n hx hb dX5_sailMinuteOfLeg_33 rfl (lv_at hl 1 rfl) ?_
    refine va_get (D := D) (ci := 5) (v := .ref h1) (C := RX5) (T := TX5) (N := 5) hx hb hts hinX5 hown hK hP 0 rfl rfl 0 (by decide) (hts (.fieldLink RX5 14 "GyroTrainer$Ship" "legs" "LGyroTrainer$Legs;") (List.mem_of_getElem? (i := 1) rfl)) (fun _ h9 => h9) rfl dX5_sailMinuteOfLeg_34 ?_
    refine z_Gv (wr := [(h0, .inr (5, [.ref h1, .long v.2.1, .long v.2.2.1, .long v.2.2.2.1, .long v.2.2.2.2]))]) (wt := (fun (u_4 : vX3) => [(h0, .inr (5, [.ref h1, .long v.2.1, .long v.2.2.1, .long v.2.2.2.1, .long v.2.2.2.2])), (h1, .inr (3, [.ref h2, .ref h3, .ref h4, .int u_4.2.2.2])), (h2, .inl ((cA 0), 8, .inr (.inl u_4.1))), (h3, .inl ((cA 0), 8, .inr (.inl u_4.2.1))), (h4, .inl ((cA 0), 8, .inr (.inl u_4.2.2.1)))])) (va_runV (As := []) (rest := []) ⟨hx, hb, hml, hown, hts⟩ (c_X3_dropFirst l D cA h1 h2 h3 h4 H.size 8 k0 (v.1.1, v.1.2.1, u_1, v.1.2.2.2) (by decide) hc hk8) (cwV 0 hts gX5_sailMinuteOfLeg_X3_dropFirst rfl rfl rfl (by decide +kernel) ⟨Nat.le_of_ble_eq_true rfl, Nat.le_of_ble_eq_true rfl⟩) (zpV hK hP hD hS hA hE [1, 2, 3, 4] [0, 1, 2, 3, 4] rfl (by decide) rfl 0 rfl rfl) rfl rfl hl.1 rfl (lv_room (Nat.le_of_ble_eq_true rfl)) dX5_sailMinuteOfLeg_37 ⟨Nat.le_of_ble_eq_true rfl, Nat.le_of_ble_eq_true rfl⟩) hP hD hS hA [1, 2, 3, 4] [0] [0, 1, 2, 3, 4] rfl rfl (by decide) (fun _ => rfl) (fun u_4 H locs eu_4 hP hD hS => ?_)
    have hP : va_P D vwCl [(h0, .inr (5, [.ref h1, .long v.2.1, .long v.2.2.1, .long v.2.2.2.1, .long v.2.2.2.2])), (h1, .inr (3, [.ref h2, .ref h3, .ref h4, .int u_4.2.2.2])), (h2, .inl ((cA 0), 8, .inr (.inl u_4.1))), (h3, .inl ((cA 0), 8, .inr (.inl u_4.2.1))), (h4, .inl ((cA 0), 8, .inr (.inl u_4.2.2.1)))] H := hP
    have hD : va_D A [(h0, .inr (5, [.ref h1, .long v.2.1, .long v.2.2.1, .long v.2.2.2.1, .long v.2.2.2.2])), (h1, .inr (3, [.ref h2, .ref h3, .ref h4, .int u_4.2.2.2])), (h2, .inl ((cA 0), 8, .inr (.inl u_4.1))), (h3, .inl ((cA 0), 8, .inr (.inl u_4.2.1))), (h4, .inl ((cA 0), 8, .inr (.inl u_4.2.2.1)))] := hD
    refine lv_aload_n hx hb dX5_sailMinuteOfLeg_40 rfl (lv_at hl 1 rfl) ?_
    refine va_get (D := D) (ci := 5) (v := .ref h1) (C := RX5) (T := TX5) (N := 5) hx hb hts hinX5 hown hK hP 0 rfl rfl 0 (by decide) (hts (.fieldLink RX5 14 "GyroTrainer$Ship" "legs" "LGyroTrainer$Legs;") (List.mem_of_getElem? (i := 1) rfl)) (fun _ h9 => h9) rfl dX5_sailMinuteOfLeg_41 ?_
    refine va_get (D := D) (ci := 3) (v := .int u_4.2.2.2) (C := RX3) (T := TX3) (N := 4) hx hb hts hinX3 hown hK hP 1 rfl rfl 3 (by decide) (hts (.fieldLink RX5 44 "GyroTrainer$Legs" "count" "I") (List.mem_of_getElem? (i := 3) rfl)) (fun _ h9 => h9) rfl dX5_sailMinuteOfLeg_44 ?_
    refine lv_if_ne (tgt := 55) hx hb dX5_sailMinuteOfLeg_47 (by decide) (fun c_6 => ?_) (fun c_6 => ?_)
    · skip
      refine lv_aload_n hx hb dX5_sailMinuteOfLeg_55 rfl (lv_at hl 1 rfl) ?_
      refine z_Gv (wr := []) (wt := (fun (u_7 : vX5) => [(h0, .inr (5, [.ref h1, .long u_7.2.1, .long u_7.2.2.1, .long u_7.2.2.2.1, .long u_7.2.2.2.2])), (h1, .inr (3, [.ref h2, .ref h3, .ref h4, .int u_7.1.2.2.2])), (h2, .inl ((cA 0), 8, .inr (.inl u_7.1.1))), (h3, .inl ((cA 0), 8, .inr (.inl u_7.1.2.1))), (h4, .inl ((cA 0), 8, .inr (.inl u_7.1.2.2.1)))])) (va_runV (As := []) (rest := []) ⟨hx, hb, hml, hown, hts⟩ (c_X5_takeFirstLeg l D cA h0 h1 h2 h3 h4 H.size (u_4, v.2.1, v.2.2.1, v.2.2.2.1, v.2.2.2.2)) (cwV 0 hts gX5_sailMinuteOfLeg_X5_takeFirstLeg rfl rfl rfl (by decide +kernel) ⟨Nat.le_of_ble_eq_true rfl, Nat.le_of_ble_eq_true rfl⟩) (zpV hK hP hD hS hA hE [0, 1, 2, 3, 4] [0, 1, 2, 3, 4] rfl (by decide) rfl 0 rfl rfl) rfl rfl hl.1 rfl (lv_room (Nat.le_of_ble_eq_true rfl)) dX5_sailMinuteOfLeg_56 ⟨Nat.le_of_ble_eq_true rfl, Nat.le_of_ble_eq_true rfl⟩) hP hD hS hA [0, 1, 2, 3, 4] [] [0, 1, 2, 3, 4] rfl rfl (by decide) (fun _ => rfl) (fun u_7 H locs eu_7 hP hD hS => ?_)
      have hP : va_P D vwCl [(h0, .inr (5, [.ref h1, .long u_7.2.1, .long u_7.2.2.1, .long u_7.2.2.2.1, .long u_7.2.2.2.2])), (h1, .inr (3, [.ref h2, .ref h3, .ref h4, .int u_7.1.2.2.2])), (h2, .inl ((cA 0), 8, .inr (.inl u_7.1.1))), (h3, .inl ((cA 0), 8, .inr (.inl u_7.1.2.1))), (h4, .inl ((cA 0), 8, .inr (.inl u_7.1.2.2.1)))] H := hP
      have hD : va_D A [(h0, .inr (5, [.ref h1, .long u_7.2.1, .long u_7.2.2.1, .long u_7.2.2.2.1, .long u_7.2.2.2.2])), (h1, .inr (3, [.ref h2, .ref h3, .ref h4, .int u_7.1.2.2.2])), (h2, .inl ((cA 0), 8, .inr (.inl u_7.1.1))), (h3, .inl ((cA 0), 8, .inr (.inl u_7.1.2.1))), (h4, .inl ((cA 0), 8, .inr (.inl u_7.1.2.2.1)))] := hD
      have e9 : (zf_sailLeg k0 v) = u_7 := by subst eu_1; subst eu_4; subst eu_7; unfold zf_sailLeg zf_legMin; simp only [if_pos c_3, if_neg c_6] <;> rfl
      have hP9 : va_P D vwCl (wX5 cA h0 h1 h2 h3 h4 (u_7 : vX5)) H := hP
      have hD9 : va_D A (wX5 cA h0 h1 h2 h3 h4 (u_7 : vX5)) := hD
      subst hQ
      exact W.vret hx hb hr (fun t ht hW => ⟨⟨u_7, rfl, e9.symm, ⟨by rw [ht]; exact hP9, va_K.moved hW.alike hK, hD9⟩⟩, hS.F ht⟩) hS.2.2 dX5_sailMinuteOfLeg_59
    · skip
      refine lv_aload_n hx hb dX5_sailMinuteOfLeg_50 rfl (lv_at hl 1 rfl) ?_
      refine lv_lconst (v := 0) hx hb dX5_sailMinuteOfLeg_51 (by decide) ?_
      refine va_put (D := D) (ci := 5) (v := .long (0 : Int64)) (ty := .long) (C := RX5) (T := TX5) (N := 5) hx hb hts hinX5 tyX5 tyX5_ok nmX5 hown hK hP hD hS 0 rfl rfl 3 (by decide) (hts (.fieldLink RX5 31 "GyroTrainer$Ship" "speed" "J") (List.mem_of_getElem? (i := 4) rfl)) (fun _ h9 => h9) rfl (by decide +kernel) rfl rfl (Nat.le_of_ble_eq_true rfl) dX5_sailMinuteOfLeg_52 (fun H locs hP hD hS => ?_)
      have hP : va_P D vwCl [(h0, .inr (5, [.ref h1, .long v.2.1, .long v.2.2.1, .long (0 : Int64), .long v.2.2.2.2])), (h1, .inr (3, [.ref h2, .ref h3, .ref h4, .int u_4.2.2.2])), (h2, .inl ((cA 0), 8, .inr (.inl u_4.1))), (h3, .inl ((cA 0), 8, .inr (.inl u_4.2.1))), (h4, .inl ((cA 0), 8, .inr (.inl u_4.2.2.1)))] H := hP
      have hD : va_D A [(h0, .inr (5, [.ref h1, .long v.2.1, .long v.2.2.1, .long (0 : Int64), .long v.2.2.2.2])), (h1, .inr (3, [.ref h2, .ref h3, .ref h4, .int u_4.2.2.2])), (h2, .inl ((cA 0), 8, .inr (.inl u_4.1))), (h3, .inl ((cA 0), 8, .inr (.inl u_4.2.1))), (h4, .inl ((cA 0), 8, .inr (.inl u_4.2.2.1)))] := hD
      refine lv_aload_n hx hb dX5_sailMinuteOfLeg_55 rfl (lv_at hl 1 rfl) ?_
      refine z_Gv (wr := []) (wt := (fun (u_9 : vX5) => [(h0, .inr (5, [.ref h1, .long u_9.2.1, .long u_9.2.2.1, .long u_9.2.2.2.1, .long u_9.2.2.2.2])), (h1, .inr (3, [.ref h2, .ref h3, .ref h4, .int u_9.1.2.2.2])), (h2, .inl ((cA 0), 8, .inr (.inl u_9.1.1))), (h3, .inl ((cA 0), 8, .inr (.inl u_9.1.2.1))), (h4, .inl ((cA 0), 8, .inr (.inl u_9.1.2.2.1)))])) (va_runV (As := []) (rest := []) ⟨hx, hb, hml, hown, hts⟩ (c_X5_takeFirstLeg l D cA h0 h1 h2 h3 h4 H.size (u_4, v.2.1, v.2.2.1, (0 : Int64), v.2.2.2.2)) (cwV 0 hts gX5_sailMinuteOfLeg_X5_takeFirstLeg rfl rfl rfl (by decide +kernel) ⟨Nat.le_of_ble_eq_true rfl, Nat.le_of_ble_eq_true rfl⟩) (zpV hK hP hD hS hA hE [0, 1, 2, 3, 4] [0, 1, 2, 3, 4] rfl (by decide) rfl 0 rfl rfl) rfl rfl hl.1 rfl (lv_room (Nat.le_of_ble_eq_true rfl)) dX5_sailMinuteOfLeg_56 ⟨Nat.le_of_ble_eq_true rfl, Nat.le_of_ble_eq_true rfl⟩) hP hD hS hA [0, 1, 2, 3, 4] [] [0, 1, 2, 3, 4] rfl rfl (by decide) (fun _ => rfl) (fun u_9 H locs eu_9 hP hD hS => ?_)
      have hP : va_P D vwCl [(h0, .inr (5, [.ref h1, .long u_9.2.1, .long u_9.2.2.1, .long u_9.2.2.2.1, .long u_9.2.2.2.2])), (h1, .inr (3, [.ref h2, .ref h3, .ref h4, .int u_9.1.2.2.2])), (h2, .inl ((cA 0), 8, .inr (.inl u_9.1.1))), (h3, .inl ((cA 0), 8, .inr (.inl u_9.1.2.1))), (h4, .inl ((cA 0), 8, .inr (.inl u_9.1.2.2.1)))] H := hP
      have hD : va_D A [(h0, .inr (5, [.ref h1, .long u_9.2.1, .long u_9.2.2.1, .long u_9.2.2.2.1, .long u_9.2.2.2.2])), (h1, .inr (3, [.ref h2, .ref h3, .ref h4, .int u_9.1.2.2.2])), (h2, .inl ((cA 0), 8, .inr (.inl u_9.1.1))), (h3, .inl ((cA 0), 8, .inr (.inl u_9.1.2.1))), (h4, .inl ((cA 0), 8, .inr (.inl u_9.1.2.2.1)))] := hD
      have e9 : (zf_sailLeg k0 v) = u_9 := by subst eu_1; subst eu_4; subst eu_9; unfold zf_sailLeg zf_legMin; simp only [if_pos c_3, if_pos c_6] <;> rfl
      have hP9 : va_P D vwCl (wX5 cA h0 h1 h2 h3 h4 (u_9 : vX5)) H := hP
      have hD9 : va_D A (wX5 cA h0 h1 h2 h3 h4 (u_9 : vX5)) := hD
      subst hQ
      exact W.vret hx hb hr (fun t ht hW => ⟨⟨u_9, rfl, e9.symm, ⟨by rw [ht]; exact hP9, va_K.moved hW.alike hK, hD9⟩⟩, hS.F ht⟩) hS.2.2 dX5_sailMinuteOfLeg_59
  · skip
    have c_3 : ¬ (((zf_at 8 v.1.2.2.1 (0 : Int32)) - (1 : Int64)) ≤ (0 : Int64)) := fun h => kc_3 ((lg_cmp_le _ _).mpr h)
    have e9 : (zf_sailLeg k0 v) = ((v.1.1, v.1.2.1, u_1, v.1.2.2.2), v.2.1, v.2.2.1, v.2.2.2.1, v.2.2.2.2) := by subst eu_1; unfold zf_sailLeg zf_legMin; simp only [if_neg c_3] <;> rfl
    have hP9 : va_P D vwCl (wX5 cA h0 h1 h2 h3 h4 (((v.1.1, v.1.2.1, u_1, v.1.2.2.2), v.2.1, v.2.2.1, v.2.2.2.1, v.2.2.2.2) : vX5)) H := hP
    have hD9 : va_D A (wX5 cA h0 h1 h2 h3 h4 (((v.1.1, v.1.2.1, u_1, v.1.2.2.2), v.2.1, v.2.2.1, v.2.2.2.1, v.2.2.2.2) : vX5)) := hD
    subst hQ
    exact W.vret hx hb hr (fun t ht hW => ⟨⟨((v.1.1, v.1.2.1, u_1, v.1.2.2.2), v.2.1, v.2.2.1, v.2.2.2.1, v.2.2.2.2), rfl, e9.symm, ⟨by rw [ht]; exact hP9, va_K.moved hW.alike hK, hD9⟩⟩, hS.F ht⟩) hS.2.2 dX5_sailMinuteOfLeg_32
set_option maxHeartbeats 4000000 in
set_option maxRecDepth 100000 in
theorem c_X5_sailMinute (l : Launch) (D : va_G) (cA : Nat → ClassId) (h0 h1 h2 h3 h4 : Nat) (sz : Nat) (k0 : Nat) (v : vX5) (hc : v.1.2.2.2 = nI k0) (hk8 : k0 ≤ 8) : Met l yX5_sailMinute wsX5_sailMinute ({ frames := 3, cells := 0, slots := 0, locals := 66 }) (va_Pc [.ref h0] (zPre D (zty cA) (wX5 cA h0 h1 h2 h3 h4 v) sz)) (va_Qv (fun (u : vX5) => u = (zf_sail k0 v)) (fun u => zPost D (zty cA) (va_A (wX5 cA h0 h1 h2 h3 h4 v) sz) (wX5 cA h0 h1 h2 h3 h4 u)) (va_A (wX5 cA h0 h1 h2 h3 h4 v) sz)) 0 0 (va_A (wX5 cA h0 h1 h2 h3 h4 v) sz) := by
  refine Met.ofW (cc := cX5_sailMinute) (maxL := 1) (ret := none) (by decide) rfl ?_
  intro p e s m args below meth c s₁ B hml hv
  obtain ⟨rfl, hsz, hP, hK, hD0, hE⟩ := hv
  have hx := B.exec
  have hb := B.bytes
  have hr := B.returns
  have hts := atoms_spec (ws := wsX5_sailMinute) B.pre
  have hown : s.vm.findClass RX5 = some m.cls := findClass_of_methodNamed B.named
  have hlocks := B.notSynchronized
  have hinX5 : ∀ w ∈ u_ws RX5 TX5 5, w ∈ wsX5_sailMinute := fun w h => List.mem_cons_of_mem _ (List.mem_append_left _ (List.mem_append_right _ h))
  have hinX3 : ∀ w ∈ u_ws RX3 TX3 4, w ∈ wsX5_sailMinute := fun w h => List.mem_cons_of_mem _ (List.mem_append_right _ h)
  subst hsz
  have hD := hD0.self (sz := s.heap.size)
  generalize hAe : va_A (wX5 cA h0 h1 h2 h3 h4 v) s.heap.size = A at hD hE ⊢
  have hA : ∀ q : Nat, s.heap.size ≤ q → A q := fun q h => by rw [← hAe]; exact Or.inr h
  have hS : va_S A s.heap s.heap [] := va_S.rf
  have hN : zN s := hE.1
  have hP : va_P D vwCl [(h0, .inr (5, [.ref h1, .long v.2.1, .long v.2.2.1, .long v.2.2.2.1, .long v.2.2.2.2])), (h1, .inr (3, [.ref h2, .ref h3, .ref h4, .int v.1.2.2.2])), (h2, .inl ((cA 0), 8, .inr (.inl v.1.1))), (h3, .inl ((cA 0), 8, .inr (.inl v.1.2.1))), (h4, .inl ((cA 0), 8, .inr (.inl v.1.2.2.1)))] s.heap := hP
  have hD : va_D A [(h0, .inr (5, [.ref h1, .long v.2.1, .long v.2.2.1, .long v.2.2.2.1, .long v.2.2.2.2])), (h1, .inr (3, [.ref h2, .ref h3, .ref h4, .int v.1.2.2.2])), (h2, .inl ((cA 0), 8, .inr (.inl v.1.1))), (h3, .inl ((cA 0), 8, .inr (.inl v.1.2.1))), (h4, .inl ((cA 0), 8, .inr (.inl v.1.2.2.1)))] := hD
  have hl := lv_entry ([.ref h0]) (n := 1) (Nat.le_of_ble_eq_true rfl)
  rw [lg_entry_eq]
  generalize (lg_sl ([.ref h0]) ++ List.replicate (1 - (lg_sl ([.ref h0])).length) Slot.unset).toArray = ls at hl ⊢
  have hl : lv_has ls 1 [(0, .ref h0)] := hl
  refine z_genQ (fun Q hQ => ?_)
  refine lv_aload_n hx hb dX5_sailMinute_0 rfl (lv_at hl 0 rfl) ?_
  refine lv_aload_n hx hb dX5_sailMinute_1 rfl (lv_at hl 0 rfl) ?_
  refine va_get (D := D) (ci := 5) (v := .long v.2.1) (C := RX5) (T := TX5) (N := 5) hx hb hts hinX5 hown hK hP 0 rfl rfl 1 (by decide) (hts (.fieldLink RX5 24 "GyroTrainer$Ship" "latitude" "J") (List.mem_of_getElem? (i := 1) rfl)) (fun _ h9 => h9) rfl dX5_sailMinute_2 ?_
  refine lv_aload_n hx hb dX5_sailMinute_5 rfl (lv_at hl 0 rfl) ?_
  refine va_get (D := D) (ci := 5) (v := .long v.2.2.2.1) (C := RX5) (T := TX5) (N := 5) hx hb hts hinX5 hown hK hP 0 rfl rfl 3 (by decide) (hts (.fieldLink RX5 31 "GyroTrainer$Ship" "speed" "J") (List.mem_of_getElem? (i := 2) rfl)) (fun _ h9 => h9) rfl dX5_sailMinute_6 ?_
  refine lv_ldc2 hx hb hown (hts (.constantLong RX5 56 (28)) (List.mem_of_getElem? (i := 3) rfl)) dX5_sailMinute_9 ?_
  refine lv_lmul hx hb dX5_sailMinute_12 ?_
  refine lv_aload_n hx hb dX5_sailMinute_13 rfl (lv_at hl 0 rfl) ?_
  refine va_get (D := D) (ci := 5) (v := .long v.2.2.1) (C := RX5) (T := TX5) (N := 5) hx hb hts hinX5 hown hK hP 0 rfl rfl 2 (by decide) (hts (.fieldLink RX5 28 "GyroTrainer$Ship" "course" "J") (List.mem_of_getElem? (i := 4) rfl)) (fun _ h9 => h9) rfl dX5_sailMinute_14 ?_
  refine z_Rl (va_runSN (As := [.long v.2.2.1]) (rest := [.long (v.2.2.2.1 * (28 : Int64)), .long v.2.1, .ref h0]) ⟨hx, hb, hml, hown, hts⟩ (c_X9_cosine l D cA  v.2.2.1) (⟨va_cnB (host := "GyroTrainer") 1 hts gX5_sailMinute_X9_cosine_n58 rfl rfl rfl (hN.get 22 rfl) (hts (.initialized RX9) (List.mem_of_getElem? (i := 11) rfl)) (by decide +kernel) ⟨Nat.le_of_ble_eq_true rfl, Nat.le_of_ble_eq_true rfl⟩, (hts (.static yX9_cosine) (List.mem_of_getElem? (i := 10) rfl)), trivial⟩) (zpSR hK hP hN [] [0, 1, 2, 3, 4] rfl rfl) rfl rfl hl.1 rfl (lv_room (Nat.le_of_ble_eq_true rfl)) dX5_sailMinute_17 ⟨Nat.le_of_ble_eq_true rfl, Nat.le_of_ble_eq_true rfl⟩) ?_
  refine lv_lmul hx hb dX5_sailMinute_20 ?_
  refine lv_ldc2 hx hb hown (hts (.constantLong RX5 62 (1000000)) (List.mem_of_getElem? (i := 5) rfl)) dX5_sailMinute_21 ?_
  refine lv_ldiv hx hb dX5_sailMinute_24 (by decide) ?_
  refine lv_ladd hx hb dX5_sailMinute_25 ?_
  refine lv_ldc2 hx hb hown (hts (.constantLong RX5 64 (70000000)) (List.mem_of_getElem? (i := 6) rfl)) dX5_sailMinute_26 ?_
  refine z_Rl (va_runSN (As := [.long (v.2.1 + (((v.2.2.2.1 * (28 : Int64)) * (zf_cosine v.2.2.1)) / (1000000 : Int64))), .long (70000000 : Int64)]) (rest := [.ref h0]) ⟨hx, hb, hml, hown, hts⟩ (c_X9_limited l D cA  (v.2.1 + (((v.2.2.2.1 * (28 : Int64)) * (zf_cosine v.2.2.1)) / (1000000 : Int64))) (70000000 : Int64)) (⟨va_cnB (host := "GyroTrainer") 2 hts gX5_sailMinute_X9_limited_n66 rfl rfl rfl (hN.get 23 rfl) (hts (.initialized RX9) (List.mem_of_getElem? (i := 11) rfl)) (by decide +kernel) ⟨Nat.le_of_ble_eq_true rfl, Nat.le_of_ble_eq_true rfl⟩, (hts (.static yX9_limited) (List.mem_of_getElem? (i := 21) rfl)), trivial⟩) (zpSR hK hP hN [] [0, 1, 2, 3, 4] rfl rfl) rfl rfl hl.1 rfl (lv_room (Nat.le_of_ble_eq_true rfl)) dX5_sailMinute_29 ⟨Nat.le_of_ble_eq_true rfl, Nat.le_of_ble_eq_true rfl⟩) ?_
  refine lv_topl (fun g_1 eg_1 => ?_)
  refine va_put (D := D) (ci := 5) (v := .long g_1) (ty := .long) (C := RX5) (T := TX5) (N := 5) hx hb hts hinX5 tyX5 tyX5_ok nmX5 hown hK hP hD hS 0 rfl rfl 1 (by decide) (hts (.fieldLink RX5 24 "GyroTrainer$Ship" "latitude" "J") (List.mem_of_getElem? (i := 1) rfl)) (fun _ h9 => h9) rfl (by decide +kernel) rfl rfl (Nat.le_of_ble_eq_true rfl) dX5_sailMinute_32 (fun H locs hP hD hS => ?_)
  have hP : va_P D vwCl [(h0, .inr (5, [.ref h1, .long g_1, .long v.2.2.1, .long v.2.2.2.1, .long v.2.2.2.2])), (h1, .inr (3, [.ref h2, .ref h3, .ref h4, .int v.1.2.2.2])), (h2, .inl ((cA 0), 8, .inr (.inl v.1.1))), (h3, .inl ((cA 0), 8, .inr (.inl v.1.2.1))), (h4, .inl ((cA 0), 8, .inr (.inl v.1.2.2.1)))] H := hP
  have hD : va_D A [(h0, .inr (5, [.ref h1, .long g_1, .long v.2.2.1, .long v.2.2.2.1, .long v.2.2.2.2])), (h1, .inr (3, [.ref h2, .ref h3, .ref h4, .int v.1.2.2.2])), (h2, .inl ((cA 0), 8, .inr (.inl v.1.1))), (h3, .inl ((cA 0), 8, .inr (.inl v.1.2.1))), (h4, .inl ((cA 0), 8, .inr (.inl v.1.2.2.1)))] := hD
  refine lv_aload_n hx hb dX5_sailMinute_35 rfl (lv_at hl 0 rfl) ?_
  refine lv_dup hx hb dX5_sailMinute_36 rfl ?_
  refine va_get (D := D) (ci := 5) (v := .long v.2.2.2.2) (C := RX5) (T := TX5) (N := 5) hx hb hts hinX5 hown hK hP 0 rfl rfl 4 (by decide) (hts (.fieldLink RX5 34 "GyroTrainer$Ship" "way" "J") (List.mem_of_getElem? (i := 7) rfl)) (fun _ h9 => h9) rfl dX5_sailMinute_37 ?_
  refine lv_aload_n hx hb dX5_sailMinute_40 rfl (lv_at hl 0 rfl) ?_
  refine va_get (D := D) (ci := 5) (v := .long v.2.2.2.1) (C := RX5) (T := TX5) (N := 5) hx hb hts hinX5 hown hK hP 0 rfl rfl 3 (by decide) (hts (.fieldLink RX5 31 "GyroTrainer$Ship" "speed" "J") (List.mem_of_getElem? (i := 2) rfl)) (fun _ h9 => h9) rfl dX5_sailMinute_41 ?_
  refine lv_ladd hx hb dX5_sailMinute_44 ?_
  refine lv_topl (fun g_2 eg_2 => ?_)
  refine va_put (D := D) (ci := 5) (v := .long g_2) (ty := .long) (C := RX5) (T := TX5) (N := 5) hx hb hts hinX5 tyX5 tyX5_ok nmX5 hown hK hP hD hS 0 rfl rfl 4 (by decide) (hts (.fieldLink RX5 34 "GyroTrainer$Ship" "way" "J") (List.mem_of_getElem? (i := 7) rfl)) (fun _ h9 => h9) rfl (by decide +kernel) rfl rfl (Nat.le_of_ble_eq_true rfl) dX5_sailMinute_45 (fun H locs hP hD hS => ?_)
  have hP : va_P D vwCl [(h0, .inr (5, [.ref h1, .long g_1, .long v.2.2.1, .long v.2.2.2.1, .long g_2])), (h1, .inr (3, [.ref h2, .ref h3, .ref h4, .int v.1.2.2.2])), (h2, .inl ((cA 0), 8, .inr (.inl v.1.1))), (h3, .inl ((cA 0), 8, .inr (.inl v.1.2.1))), (h4, .inl ((cA 0), 8, .inr (.inl v.1.2.2.1)))] H := hP
  have hD : va_D A [(h0, .inr (5, [.ref h1, .long g_1, .long v.2.2.1, .long v.2.2.2.1, .long g_2])), (h1, .inr (3, [.ref h2, .ref h3, .ref h4, .int v.1.2.2.2])), (h2, .inl ((cA 0), 8, .inr (.inl v.1.1))), (h3, .inl ((cA 0), 8, .inr (.inl v.1.2.1))), (h4, .inl ((cA 0), 8, .inr (.inl v.1.2.2.1)))] := hD
  refine lv_aload_n hx hb dX5_sailMinute_48 rfl (lv_at hl 0 rfl) ?_
  refine va_get (D := D) (ci := 5) (v := .ref h1) (C := RX5) (T := TX5) (N := 5) hx hb hts hinX5 hown hK hP 0 rfl rfl 0 (by decide) (hts (.fieldLink RX5 14 "GyroTrainer$Ship" "legs" "LGyroTrainer$Legs;") (List.mem_of_getElem? (i := 8) rfl)) (fun _ h9 => h9) rfl dX5_sailMinute_49 ?_
  refine va_get (D := D) (ci := 3) (v := .int v.1.2.2.2) (C := RX3) (T := TX3) (N := 4) hx hb hts hinX3 hown hK hP 1 rfl rfl 3 (by decide) (hts (.fieldLink RX5 44 "GyroTrainer$Legs" "count" "I") (List.mem_of_getElem? (i := 9) rfl)) (fun _ h9 => h9) rfl dX5_sailMinute_52 ?_
  refine lv_if_le (tgt := 62) hx hb dX5_sailMinute_55 (by decide) (fun c_3 => ?_) (fun c_3 => ?_)
  · skip
    have e9 : (zf_sail k0 v) = (v.1, g_1, v.2.2.1, v.2.2.2.1, g_2) := by subst eg_1; subst eg_2; unfold zf_sail; simp only [if_pos c_3] <;> rfl
    have hP9 : va_P D vwCl (wX5 cA h0 h1 h2 h3 h4 ((v.1, g_1, v.2.2.1, v.2.2.2.1, g_2) : vX5)) H := hP
    have hD9 : va_D A (wX5 cA h0 h1 h2 h3 h4 ((v.1, g_1, v.2.2.1, v.2.2.2.1, g_2) : vX5)) := hD
    subst hQ
    exact W.vret hx hb hr (fun t ht hW => ⟨⟨(v.1, g_1, v.2.2.1, v.2.2.2.1, g_2), rfl, e9.symm, ⟨by rw [ht]; exact hP9, va_K.moved hW.alike hK, hD9⟩⟩, hS.F ht⟩) hS.2.2 dX5_sailMinute_62
  · skip
    refine lv_aload_n hx hb dX5_sailMinute_58 rfl (lv_at hl 0 rfl) ?_
    refine z_Gv (wr := []) (wt := (fun (u_4 : vX5) => [(h0, .inr (5, [.ref h1, .long u_4.2.1, .long u_4.2.2.1, .long u_4.2.2.2.1, .long u_4.2.2.2.2])), (h1, .inr (3, [.ref h2, .ref h3, .ref h4, .int u_4.1.2.2.2])), (h2, .inl ((cA 0), 8, .inr (.inl u_4.1.1))), (h3, .inl ((cA 0), 8, .inr (.inl u_4.1.2.1))), (h4, .inl ((cA 0), 8, .inr (.inl u_4.1.2.2.1)))])) (va_runV (As := []) (rest := []) ⟨hx, hb, hml, hown, hts⟩ (c_X5_sailMinuteOfLeg l D cA h0 h1 h2 h3 h4 H.size k0 (v.1, g_1, v.2.2.1, v.2.2.2.1, g_2) hc hk8) (cwV 0 hts gX5_sailMinute_X5_sailMinuteOfLeg rfl rfl rfl (by decide +kernel) ⟨Nat.le_of_ble_eq_true rfl, Nat.le_of_ble_eq_true rfl⟩) (zpV hK hP hD hS hA hE [0, 1, 2, 3, 4] [0, 1, 2, 3, 4] rfl (by decide) rfl 0 rfl rfl) rfl rfl hl.1 rfl (lv_room (Nat.le_of_ble_eq_true rfl)) dX5_sailMinute_59 ⟨Nat.le_of_ble_eq_true rfl, Nat.le_of_ble_eq_true rfl⟩) hP hD hS hA [0, 1, 2, 3, 4] [] [0, 1, 2, 3, 4] rfl rfl (by decide) (fun _ => rfl) (fun u_4 H locs eu_4 hP hD hS => ?_)
    have hP : va_P D vwCl [(h0, .inr (5, [.ref h1, .long u_4.2.1, .long u_4.2.2.1, .long u_4.2.2.2.1, .long u_4.2.2.2.2])), (h1, .inr (3, [.ref h2, .ref h3, .ref h4, .int u_4.1.2.2.2])), (h2, .inl ((cA 0), 8, .inr (.inl u_4.1.1))), (h3, .inl ((cA 0), 8, .inr (.inl u_4.1.2.1))), (h4, .inl ((cA 0), 8, .inr (.inl u_4.1.2.2.1)))] H := hP
    have hD : va_D A [(h0, .inr (5, [.ref h1, .long u_4.2.1, .long u_4.2.2.1, .long u_4.2.2.2.1, .long u_4.2.2.2.2])), (h1, .inr (3, [.ref h2, .ref h3, .ref h4, .int u_4.1.2.2.2])), (h2, .inl ((cA 0), 8, .inr (.inl u_4.1.1))), (h3, .inl ((cA 0), 8, .inr (.inl u_4.1.2.1))), (h4, .inl ((cA 0), 8, .inr (.inl u_4.1.2.2.1)))] := hD
    have e9 : (zf_sail k0 v) = u_4 := by subst eg_1; subst eg_2; subst eu_4; unfold zf_sail; simp only [if_neg c_3] <;> rfl
    have hP9 : va_P D vwCl (wX5 cA h0 h1 h2 h3 h4 (u_4 : vX5)) H := hP
    have hD9 : va_D A (wX5 cA h0 h1 h2 h3 h4 (u_4 : vX5)) := hD
    subst hQ
    exact W.vret hx hb hr (fun t ht hW => ⟨⟨u_4, rfl, e9.symm, ⟨by rw [ht]; exact hP9, va_K.moved hW.alike hK, hD9⟩⟩, hS.F ht⟩) hS.2.2 dX5_sailMinute_62
set_option maxHeartbeats 4000000 in
set_option maxRecDepth 100000 in
theorem c_X0_copyFrom (l : Launch) (D : va_G) (cA : Nat → ClassId) (h0 h1 h2 h3 : Nat) (sz : Nat) (v : vX0) (o : vX0)  : Met l yX0_copyFrom wsX0_copyFrom ({ frames := 1, cells := 0, slots := 0, locals := 22 }) (va_Pc [.ref h0, .ref h2] (zPre D (zty cA) (wX0 cA h0 h1 v ++ wX0 cA h2 h3 o) sz)) (va_Qv (fun (u : vX0) => u = o) (fun u => zPost D (zty cA) (va_A (wX0 cA h0 h1 v ++ wX0 cA h2 h3 o) sz) (wX0 cA h0 h1 u ++ wX0 cA h2 h3 o)) (va_A (wX0 cA h0 h1 v ++ wX0 cA h2 h3 o) sz)) 0 0 (va_A (wX0 cA h0 h1 v ++ wX0 cA h2 h3 o) sz) := by
  refine Met.ofW (cc := cX0_copyFrom) (maxL := 2) (ret := none) (by decide) rfl ?_
  intro p e s m args below meth c s₁ B hml hv
  obtain ⟨rfl, hsz, hP, hK, hD0, hE⟩ := hv
  have hx := B.exec
  have hb := B.bytes
  have hr := B.returns
  have hts := atoms_spec (ws := wsX0_copyFrom) B.pre
  have hown : s.vm.findClass RX0 = some m.cls := findClass_of_methodNamed B.named
  have hlocks := B.notSynchronized
  have hinX0 : ∀ w ∈ u_ws RX0 TX0 7, w ∈ wsX0_copyFrom := fun w h => List.mem_cons_of_mem _ (List.mem_append_right _ h)
  subst hsz
  have hD := hD0.self (sz := s.heap.size)
  generalize hAe : va_A (wX0 cA h0 h1 v ++ wX0 cA h2 h3 o) s.heap.size = A at hD hE ⊢
  have hA : ∀ q : Nat, s.heap.size ≤ q → A q := fun q h => by rw [← hAe]; exact Or.inr h
  have hS : va_S A s.heap s.heap [] := va_S.rf
  have hN : zN s := hE.1
  have hP : va_P D vwCl [(h0, .inr (0, [.ref h1, .long v.2.1, .long v.2.2.1, .int v.2.2.2.1, .int v.2.2.2.2.1, .int v.2.2.2.2.2.1, .long v.2.2.2.2.2.2])), (h1, .inl ((cA 0), 5, .inr (.inl v.1))), (h2, .inr (0, [.ref h3, .long o.2.1, .long o.2.2.1, .int o.2.2.2.1, .int o.2.2.2.2.1, .int o.2.2.2.2.2.1, .long o.2.2.2.2.2.2])), (h3, .inl ((cA 0), 5, .inr (.inl o.1)))] s.heap := hP
  have hD : va_D A [(h0, .inr (0, [.ref h1, .long v.2.1, .long v.2.2.1, .int v.2.2.2.1, .int v.2.2.2.2.1, .int v.2.2.2.2.2.1, .long v.2.2.2.2.2.2])), (h1, .inl ((cA 0), 5, .inr (.inl v.1))), (h2, .inr (0, [.ref h3, .long o.2.1, .long o.2.2.1, .int o.2.2.2.1, .int o.2.2.2.2.1, .int o.2.2.2.2.2.1, .long o.2.2.2.2.2.2])), (h3, .inl ((cA 0), 5, .inr (.inl o.1)))] := hD
  have hl := lv_entry ([.ref h0, .ref h2]) (n := 2) (Nat.le_of_ble_eq_true rfl)
  rw [lg_entry_eq]
  generalize (lg_sl ([.ref h0, .ref h2]) ++ List.replicate (2 - (lg_sl ([.ref h0, .ref h2])).length) Slot.unset).toArray = ls at hl ⊢
  have hl : lv_has ls 2 [(0, .ref h0), (1, .ref h2)] := hl
  refine z_genQ (fun Q hQ => ?_)
  refine lv_aload_n hx hb dX0_copyFrom_0 rfl (lv_at hl 1 rfl) ?_
  refine va_get (D := D) (ci := 0) (v := .ref h3) (C := RX0) (T := TX0) (N := 7) hx hb hts hinX0 hown hK hP 2 rfl rfl 0 (by decide) (hts (.fieldLink RX0 9 "GyroTrainer$Gyro" "minutesAt" "[J") (List.mem_of_getElem? (i := 1) rfl)) (fun _ h9 => h9) rfl dX0_copyFrom_1 ?_
  refine lv_aload_n hx hb dX0_copyFrom_4 rfl (lv_at hl 0 rfl) ?_
  refine va_get (D := D) (ci := 0) (v := .ref h1) (C := RX0) (T := TX0) (N := 7) hx hb hts hinX0 hown hK hP 0 rfl rfl 0 (by decide) (hts (.fieldLink RX0 9 "GyroTrainer$Gyro" "minutesAt" "[J") (List.mem_of_getElem? (i := 1) rfl)) (fun _ h9 => h9) rfl dX0_copyFrom_5 ?_
  refine z_Gv (wr := [(h0, .inr (0, [.ref h1, .long v.2.1, .long v.2.2.1, .int v.2.2.2.1, .int v.2.2.2.2.1, .int v.2.2.2.2.2.1, .long v.2.2.2.2.2.2])), (h2, .inr (0, [.ref h3, .long o.2.1, .long o.2.2.1, .int o.2.2.2.1, .int o.2.2.2.2.1, .int o.2.2.2.2.2.1, .long o.2.2.2.2.2.2]))]) (wt := (fun (u_1 : (Nat → Int64)) => [(h0, .inr (0, [.ref h1, .long v.2.1, .long v.2.2.1, .int v.2.2.2.1, .int v.2.2.2.2.1, .int v.2.2.2.2.2.1, .long v.2.2.2.2.2.2])), (h1, .inl ((cA 0), 5, .inr (.inl u_1))), (h2, .inr (0, [.ref h3, .long o.2.1, .long o.2.2.1, .int o.2.2.2.1, .int o.2.2.2.2.1, .int o.2.2.2.2.2.1, .long o.2.2.2.2.2.2])), (h3, .inl ((cA 0), 5, .inr (.inl o.1)))])) (va_runSN (As := [.ref h3, .ref h1]) (rest := []) ⟨hx, hb, hml, hown, hts⟩ (c_X9_copy l D cA h3 h1 s.heap.size 5 o.1 v.1 (by decide)) (⟨va_cnB (host := "GyroTrainer") 2 hts gX0_copyFrom_X9_copy_n25 rfl rfl rfl (hN.get 9 rfl) (hts (.initialized RX9) (List.mem_of_getElem? (i := 9) rfl)) (by decide +kernel) ⟨Nat.le_of_ble_eq_true rfl, Nat.le_of_ble_eq_true rfl⟩, (hts (.static yX9_copy) (List.mem_of_getElem? (i := 8) rfl)), trivial⟩) (zpS hK hP hD hS hA hE [3, 1] [0, 1, 2, 3, 4] rfl (by decide) rfl) rfl rfl hl.1 rfl (lv_room (Nat.le_of_ble_eq_true rfl)) dX0_copyFrom_8 ⟨Nat.le_of_ble_eq_true rfl, Nat.le_of_ble_eq_true rfl⟩) hP hD hS hA [3, 1] [0, 2] [0, 3, 1, 2] rfl rfl (by decide) (fun _ => rfl) (fun u_1 H locs eu_1 hP hD hS => ?_)
  have hP : va_P D vwCl [(h0, .inr (0, [.ref h1, .long v.2.1, .long v.2.2.1, .int v.2.2.2.1, .int v.2.2.2.2.1, .int v.2.2.2.2.2.1, .long v.2.2.2.2.2.2])), (h1, .inl ((cA 0), 5, .inr (.inl u_1))), (h2, .inr (0, [.ref h3, .long o.2.1, .long o.2.2.1, .int o.2.2.2.1, .int o.2.2.2.2.1, .int o.2.2.2.2.2.1, .long o.2.2.2.2.2.2])), (h3, .inl ((cA 0), 5, .inr (.inl o.1)))] H := hP
  have hD : va_D A [(h0, .inr (0, [.ref h1, .long v.2.1, .long v.2.2.1, .int v.2.2.2.1, .int v.2.2.2.2.1, .int v.2.2.2.2.2.1, .long v.2.2.2.2.2.2])), (h1, .inl ((cA 0), 5, .inr (.inl u_1))), (h2, .inr (0, [.ref h3, .long o.2.1, .long o.2.2.1, .int o.2.2.2.1, .int o.2.2.2.2.1, .int o.2.2.2.2.2.1, .long o.2.2.2.2.2.2])), (h3, .inl ((cA 0), 5, .inr (.inl o.1)))] := hD
  refine lv_aload_n hx hb dX0_copyFrom_11 rfl (lv_at hl 0 rfl) ?_
  refine lv_aload_n hx hb dX0_copyFrom_12 rfl (lv_at hl 1 rfl) ?_
  refine va_get (D := D) (ci := 0) (v := .long o.2.1) (C := RX0) (T := TX0) (N := 7) hx hb hts hinX0 hown hK hP 2 rfl rfl 1 (by decide) (hts (.fieldLink RX0 29 "GyroTrainer$Gyro" "error" "J") (List.mem_of_getElem? (i := 2) rfl)) (fun _ h9 => h9) rfl dX0_copyFrom_13 ?_
  refine va_put (D := D) (ci := 0) (v := .long o.2.1) (ty := .long) (C := RX0) (T := TX0) (N := 7) hx hb hts hinX0 tyX0 tyX0_ok nmX0 hown hK hP hD hS 0 rfl rfl 1 (by decide) (hts (.fieldLink RX0 29 "GyroTrainer$Gyro" "error" "J") (List.mem_of_getElem? (i := 2) rfl)) (fun _ h9 => h9) rfl (by decide +kernel) rfl rfl (Nat.le_of_ble_eq_true rfl) dX0_copyFrom_16 (fun H locs hP hD hS => ?_)
  have hP : va_P D vwCl [(h0, .inr (0, [.ref h1, .long o.2.1, .long v.2.2.1, .int v.2.2.2.1, .int v.2.2.2.2.1, .int v.2.2.2.2.2.1, .long v.2.2.2.2.2.2])), (h1, .inl ((cA 0), 5, .inr (.inl u_1))), (h2, .inr (0, [.ref h3, .long o.2.1, .long o.2.2.1, .int o.2.2.2.1, .int o.2.2.2.2.1, .int o.2.2.2.2.2.1, .long o.2.2.2.2.2.2])), (h3, .inl ((cA 0), 5, .inr (.inl o.1)))] H := hP
  have hD : va_D A [(h0, .inr (0, [.ref h1, .long o.2.1, .long v.2.2.1, .int v.2.2.2.1, .int v.2.2.2.2.1, .int v.2.2.2.2.2.1, .long v.2.2.2.2.2.2])), (h1, .inl ((cA 0), 5, .inr (.inl u_1))), (h2, .inr (0, [.ref h3, .long o.2.1, .long o.2.2.1, .int o.2.2.2.1, .int o.2.2.2.2.1, .int o.2.2.2.2.2.1, .long o.2.2.2.2.2.2])), (h3, .inl ((cA 0), 5, .inr (.inl o.1)))] := hD
  refine lv_aload_n hx hb dX0_copyFrom_19 rfl (lv_at hl 0 rfl) ?_
  refine lv_aload_n hx hb dX0_copyFrom_20 rfl (lv_at hl 1 rfl) ?_
  refine va_get (D := D) (ci := 0) (v := .long o.2.2.1) (C := RX0) (T := TX0) (N := 7) hx hb hts hinX0 hown hK hP 2 rfl rfl 2 (by decide) (hts (.fieldLink RX0 32 "GyroTrainer$Gyro" "tilt" "J") (List.mem_of_getElem? (i := 3) rfl)) (fun _ h9 => h9) rfl dX0_copyFrom_21 ?_
  refine va_put (D := D) (ci := 0) (v := .long o.2.2.1) (ty := .long) (C := RX0) (T := TX0) (N := 7) hx hb hts hinX0 tyX0 tyX0_ok nmX0 hown hK hP hD hS 0 rfl rfl 2 (by decide) (hts (.fieldLink RX0 32 "GyroTrainer$Gyro" "tilt" "J") (List.mem_of_getElem? (i := 3) rfl)) (fun _ h9 => h9) rfl (by decide +kernel) rfl rfl (Nat.le_of_ble_eq_true rfl) dX0_copyFrom_24 (fun H locs hP hD hS => ?_)
  have hP : va_P D vwCl [(h0, .inr (0, [.ref h1, .long o.2.1, .long o.2.2.1, .int v.2.2.2.1, .int v.2.2.2.2.1, .int v.2.2.2.2.2.1, .long v.2.2.2.2.2.2])), (h1, .inl ((cA 0), 5, .inr (.inl u_1))), (h2, .inr (0, [.ref h3, .long o.2.1, .long o.2.2.1, .int o.2.2.2.1, .int o.2.2.2.2.1, .int o.2.2.2.2.2.1, .long o.2.2.2.2.2.2])), (h3, .inl ((cA 0), 5, .inr (.inl o.1)))] H := hP
  have hD : va_D A [(h0, .inr (0, [.ref h1, .long o.2.1, .long o.2.2.1, .int v.2.2.2.1, .int v.2.2.2.2.1, .int v.2.2.2.2.2.1, .long v.2.2.2.2.2.2])), (h1, .inl ((cA 0), 5, .inr (.inl u_1))), (h2, .inr (0, [.ref h3, .long o.2.1, .long o.2.2.1, .int o.2.2.2.1, .int o.2.2.2.2.1, .int o.2.2.2.2.2.1, .long o.2.2.2.2.2.2])), (h3, .inl ((cA 0), 5, .inr (.inl o.1)))] := hD
  refine lv_aload_n hx hb dX0_copyFrom_27 rfl (lv_at hl 0 rfl) ?_
  refine lv_aload_n hx hb dX0_copyFrom_28 rfl (lv_at hl 1 rfl) ?_
  refine va_get (D := D) (ci := 0) (v := .int o.2.2.2.1) (C := RX0) (T := TX0) (N := 7) hx hb hts hinX0 hown hK hP 2 rfl rfl 3 (by decide) (hts (.fieldLink RX0 35 "GyroTrainer$Gyro" "setDegrees" "I") (List.mem_of_getElem? (i := 4) rfl)) (fun _ h9 => h9) rfl dX0_copyFrom_29 ?_
  refine va_put (D := D) (ci := 0) (v := .int o.2.2.2.1) (ty := .int) (C := RX0) (T := TX0) (N := 7) hx hb hts hinX0 tyX0 tyX0_ok nmX0 hown hK hP hD hS 0 rfl rfl 3 (by decide) (hts (.fieldLink RX0 35 "GyroTrainer$Gyro" "setDegrees" "I") (List.mem_of_getElem? (i := 4) rfl)) (fun _ h9 => h9) rfl (by decide +kernel) rfl rfl (Nat.le_of_ble_eq_true rfl) dX0_copyFrom_32 (fun H locs hP hD hS => ?_)
  have hP : va_P D vwCl [(h0, .inr (0, [.ref h1, .long o.2.1, .long o.2.2.1, .int o.2.2.2.1, .int v.2.2.2.2.1, .int v.2.2.2.2.2.1, .long v.2.2.2.2.2.2])), (h1, .inl ((cA 0), 5, .inr (.inl u_1))), (h2, .inr (0, [.ref h3, .long o.2.1, .long o.2.2.1, .int o.2.2.2.1, .int o.2.2.2.2.1, .int o.2.2.2.2.2.1, .long o.2.2.2.2.2.2])), (h3, .inl ((cA 0), 5, .inr (.inl o.1)))] H := hP
  have hD : va_D A [(h0, .inr (0, [.ref h1, .long o.2.1, .long o.2.2.1, .int o.2.2.2.1, .int v.2.2.2.2.1, .int v.2.2.2.2.2.1, .long v.2.2.2.2.2.2])), (h1, .inl ((cA 0), 5, .inr (.inl u_1))), (h2, .inr (0, [.ref h3, .long o.2.1, .long o.2.2.1, .int o.2.2.2.1, .int o.2.2.2.2.1, .int o.2.2.2.2.2.1, .long o.2.2.2.2.2.2])), (h3, .inl ((cA 0), 5, .inr (.inl o.1)))] := hD
  refine lv_aload_n hx hb dX0_copyFrom_35 rfl (lv_at hl 0 rfl) ?_
  refine lv_aload_n hx hb dX0_copyFrom_36 rfl (lv_at hl 1 rfl) ?_
  refine va_get (D := D) (ci := 0) (v := .int o.2.2.2.2.1) (C := RX0) (T := TX0) (N := 7) hx hb hts hinX0 hown hK hP 2 rfl rfl 4 (by decide) (hts (.fieldLink RX0 38 "GyroTrainer$Gyro" "setSpeed" "I") (List.mem_of_getElem? (i := 5) rfl)) (fun _ h9 => h9) rfl dX0_copyFrom_37 ?_
  refine va_put (D := D) (ci := 0) (v := .int o.2.2.2.2.1) (ty := .int) (C := RX0) (T := TX0) (N := 7) hx hb hts hinX0 tyX0 tyX0_ok nmX0 hown hK hP hD hS 0 rfl rfl 4 (by decide) (hts (.fieldLink RX0 38 "GyroTrainer$Gyro" "setSpeed" "I") (List.mem_of_getElem? (i := 5) rfl)) (fun _ h9 => h9) rfl (by decide +kernel) rfl rfl (Nat.le_of_ble_eq_true rfl) dX0_copyFrom_40 (fun H locs hP hD hS => ?_)
  have hP : va_P D vwCl [(h0, .inr (0, [.ref h1, .long o.2.1, .long o.2.2.1, .int o.2.2.2.1, .int o.2.2.2.2.1, .int v.2.2.2.2.2.1, .long v.2.2.2.2.2.2])), (h1, .inl ((cA 0), 5, .inr (.inl u_1))), (h2, .inr (0, [.ref h3, .long o.2.1, .long o.2.2.1, .int o.2.2.2.1, .int o.2.2.2.2.1, .int o.2.2.2.2.2.1, .long o.2.2.2.2.2.2])), (h3, .inl ((cA 0), 5, .inr (.inl o.1)))] H := hP
  have hD : va_D A [(h0, .inr (0, [.ref h1, .long o.2.1, .long o.2.2.1, .int o.2.2.2.1, .int o.2.2.2.2.1, .int v.2.2.2.2.2.1, .long v.2.2.2.2.2.2])), (h1, .inl ((cA 0), 5, .inr (.inl u_1))), (h2, .inr (0, [.ref h3, .long o.2.1, .long o.2.2.1, .int o.2.2.2.1, .int o.2.2.2.2.1, .int o.2.2.2.2.2.1, .long o.2.2.2.2.2.2])), (h3, .inl ((cA 0), 5, .inr (.inl o.1)))] := hD
  refine lv_aload_n hx hb dX0_copyFrom_43 rfl (lv_at hl 0 rfl) ?_
  refine lv_aload_n hx hb dX0_copyFrom_44 rfl (lv_at hl 1 rfl) ?_
  refine va_get (D := D) (ci := 0) (v := .int o.2.2.2.2.2.1) (C := RX0) (T := TX0) (N := 7) hx hb hts hinX0 hown hK hP 2 rfl rfl 5 (by decide) (hts (.fieldLink RX0 15 "GyroTrainer$Gyro" "level" "I") (List.mem_of_getElem? (i := 6) rfl)) (fun _ h9 => h9) rfl dX0_copyFrom_45 ?_
  refine va_put (D := D) (ci := 0) (v := .int o.2.2.2.2.2.1) (ty := .int) (C := RX0) (T := TX0) (N := 7) hx hb hts hinX0 tyX0 tyX0_ok nmX0 hown hK hP hD hS 0 rfl rfl 5 (by decide) (hts (.fieldLink RX0 15 "GyroTrainer$Gyro" "level" "I") (List.mem_of_getElem? (i := 6) rfl)) (fun _ h9 => h9) rfl (by decide +kernel) rfl rfl (Nat.le_of_ble_eq_true rfl) dX0_copyFrom_48 (fun H locs hP hD hS => ?_)
  have hP : va_P D vwCl [(h0, .inr (0, [.ref h1, .long o.2.1, .long o.2.2.1, .int o.2.2.2.1, .int o.2.2.2.2.1, .int o.2.2.2.2.2.1, .long v.2.2.2.2.2.2])), (h1, .inl ((cA 0), 5, .inr (.inl u_1))), (h2, .inr (0, [.ref h3, .long o.2.1, .long o.2.2.1, .int o.2.2.2.1, .int o.2.2.2.2.1, .int o.2.2.2.2.2.1, .long o.2.2.2.2.2.2])), (h3, .inl ((cA 0), 5, .inr (.inl o.1)))] H := hP
  have hD : va_D A [(h0, .inr (0, [.ref h1, .long o.2.1, .long o.2.2.1, .int o.2.2.2.1, .int o.2.2.2.2.1, .int o.2.2.2.2.2.1, .long v.2.2.2.2.2.2])), (h1, .inl ((cA 0), 5, .inr (.inl u_1))), (h2, .inr (0, [.ref h3, .long o.2.1, .long o.2.2.1, .int o.2.2.2.1, .int o.2.2.2.2.1, .int o.2.2.2.2.2.1, .long o.2.2.2.2.2.2])), (h3, .inl ((cA 0), 5, .inr (.inl o.1)))] := hD
  refine lv_aload_n hx hb dX0_copyFrom_51 rfl (lv_at hl 0 rfl) ?_
  refine lv_aload_n hx hb dX0_copyFrom_52 rfl (lv_at hl 1 rfl) ?_
  refine va_get (D := D) (ci := 0) (v := .long o.2.2.2.2.2.2) (C := RX0) (T := TX0) (N := 7) hx hb hts hinX0 hown hK hP 2 rfl rfl 6 (by decide) (hts (.fieldLink RX0 21 "GyroTrainer$Gyro" "dampedAt" "J") (List.mem_of_getElem? (i := 7) rfl)) (fun _ h9 => h9) rfl dX0_copyFrom_53 ?_
  refine va_put (D := D) (ci := 0) (v := .long o.2.2.2.2.2.2) (ty := .long) (C := RX0) (T := TX0) (N := 7) hx hb hts hinX0 tyX0 tyX0_ok nmX0 hown hK hP hD hS 0 rfl rfl 6 (by decide) (hts (.fieldLink RX0 21 "GyroTrainer$Gyro" "dampedAt" "J") (List.mem_of_getElem? (i := 7) rfl)) (fun _ h9 => h9) rfl (by decide +kernel) rfl rfl (Nat.le_of_ble_eq_true rfl) dX0_copyFrom_56 (fun H locs hP hD hS => ?_)
  have hP : va_P D vwCl [(h0, .inr (0, [.ref h1, .long o.2.1, .long o.2.2.1, .int o.2.2.2.1, .int o.2.2.2.2.1, .int o.2.2.2.2.2.1, .long o.2.2.2.2.2.2])), (h1, .inl ((cA 0), 5, .inr (.inl u_1))), (h2, .inr (0, [.ref h3, .long o.2.1, .long o.2.2.1, .int o.2.2.2.1, .int o.2.2.2.2.1, .int o.2.2.2.2.2.1, .long o.2.2.2.2.2.2])), (h3, .inl ((cA 0), 5, .inr (.inl o.1)))] H := hP
  have hD : va_D A [(h0, .inr (0, [.ref h1, .long o.2.1, .long o.2.2.1, .int o.2.2.2.1, .int o.2.2.2.2.1, .int o.2.2.2.2.2.1, .long o.2.2.2.2.2.2])), (h1, .inl ((cA 0), 5, .inr (.inl u_1))), (h2, .inr (0, [.ref h3, .long o.2.1, .long o.2.2.1, .int o.2.2.2.1, .int o.2.2.2.2.1, .int o.2.2.2.2.2.1, .long o.2.2.2.2.2.2])), (h3, .inl ((cA 0), 5, .inr (.inl o.1)))] := hD
  have e9 : o = (u_1, o.2.1, o.2.2.1, o.2.2.2.1, o.2.2.2.2.1, o.2.2.2.2.2.1, o.2.2.2.2.2.2) := by subst eu_1; rfl
  have hP9 : va_P D vwCl (wX0 cA h0 h1 ((u_1, o.2.1, o.2.2.1, o.2.2.2.1, o.2.2.2.2.1, o.2.2.2.2.2.1, o.2.2.2.2.2.2) : vX0) ++ wX0 cA h2 h3 o) H := hP
  have hD9 : va_D A (wX0 cA h0 h1 ((u_1, o.2.1, o.2.2.1, o.2.2.2.1, o.2.2.2.2.1, o.2.2.2.2.2.1, o.2.2.2.2.2.2) : vX0) ++ wX0 cA h2 h3 o) := hD
  subst hQ
  exact W.vret hx hb hr (fun t ht hW => ⟨⟨(u_1, o.2.1, o.2.2.1, o.2.2.2.1, o.2.2.2.2.1, o.2.2.2.2.2.1, o.2.2.2.2.2.2), rfl, e9.symm, ⟨by rw [ht]; exact hP9, va_K.moved hW.alike hK, hD9⟩⟩, hS.F ht⟩) hS.2.2 dX0_copyFrom_59
set_option maxHeartbeats 4000000 in
set_option maxRecDepth 100000 in
theorem c_X0_swing (l : Launch) (D : va_G) (cA : Nat → ClassId) (h0 h1 : Nat) (sz : Nat) (v : vX0) (y0 : Int64) (y1 : Int64) (y2 : Int64) (y3 : Int64)  : Met l yX0_swing wsX0_swing ({ frames := 2, cells := 0, slots := 0, locals := 42 }) (va_Pc [.ref h0, .long y0, .long y1, .long y2, .long y3] (zPre D (zty cA) (wX0 cA h0 h1 v) sz)) (va_Qv (fun (u : vX0) => u = (zf_swing v y0 y1 y2 y3)) (fun u => zPost D (zty cA) (va_A (wX0 cA h0 h1 v) sz) (wX0 cA h0 h1 u)) (va_A (wX0 cA h0 h1 v) sz)) 0 0 (va_A (wX0 cA h0 h1 v) sz) := by
  refine Met.ofW (cc := cX0_swing) (maxL := 9) (ret := none) (by decide) rfl ?_
  intro p e s m args below meth c s₁ B hml hv
  obtain ⟨rfl, hsz, hP, hK, hD0, hE⟩ := hv
  have hx := B.exec
  have hb := B.bytes
  have hr := B.returns
  have hts := atoms_spec (ws := wsX0_swing) B.pre
  have hown : s.vm.findClass RX0 = some m.cls := findClass_of_methodNamed B.named
  have hlocks := B.notSynchronized
  have hinX0 : ∀ w ∈ u_ws RX0 TX0 7, w ∈ wsX0_swing := fun w h => List.mem_cons_of_mem _ (List.mem_append_right _ h)
  subst hsz
  have hD := hD0.self (sz := s.heap.size)
  generalize hAe : va_A (wX0 cA h0 h1 v) s.heap.size = A at hD hE ⊢
  have hA : ∀ q : Nat, s.heap.size ≤ q → A q := fun q h => by rw [← hAe]; exact Or.inr h
  have hS : va_S A s.heap s.heap [] := va_S.rf
  have hN : zN s := hE.1
  have hP : va_P D vwCl [(h0, .inr (0, [.ref h1, .long v.2.1, .long v.2.2.1, .int v.2.2.2.1, .int v.2.2.2.2.1, .int v.2.2.2.2.2.1, .long v.2.2.2.2.2.2])), (h1, .inl ((cA 0), 5, .inr (.inl v.1)))] s.heap := hP
  have hD : va_D A [(h0, .inr (0, [.ref h1, .long v.2.1, .long v.2.2.1, .int v.2.2.2.1, .int v.2.2.2.2.1, .int v.2.2.2.2.2.1, .long v.2.2.2.2.2.2])), (h1, .inl ((cA 0), 5, .inr (.inl v.1)))] := hD
  have hl := lv_entry ([.ref h0, .long y0, .long y1, .long y2, .long y3]) (n := 9) (Nat.le_of_ble_eq_true rfl)
  rw [lg_entry_eq]
  generalize (lg_sl ([.ref h0, .long y0, .long y1, .long y2, .long y3]) ++ List.replicate (9 - (lg_sl ([.ref h0, .long y0, .long y1, .long y2, .long y3])).length) Slot.unset).toArray = ls at hl ⊢
  have hl : lv_has ls 9 [(0, .ref h0), (1, .long y0), (3, .long y1), (5, .long y2), (7, .long y3)] := hl
  refine z_genQ (fun Q hQ => ?_)
  refine lv_aload_n hx hb dX0_swing_0 rfl (lv_at hl 0 rfl) ?_
  refine lv_dup hx hb dX0_swing_1 rfl ?_
  refine va_get (D := D) (ci := 0) (v := .long v.2.2.1) (C := RX0) (T := TX0) (N := 7) hx hb hts hinX0 hown hK hP 0 rfl rfl 2 (by decide) (hts (.fieldLink RX0 32 "GyroTrainer$Gyro" "tilt" "J") (List.mem_of_getElem? (i := 1) rfl)) (fun _ h9 => h9) rfl dX0_swing_2 ?_
  refine lv_lload_n hx hb dX0_swing_5 rfl (lv_at hl 1 rfl) ?_
  refine lv_aload_n hx hb dX0_swing_6 rfl (lv_at hl 0 rfl) ?_
  refine va_get (D := D) (ci := 0) (v := .long v.2.1) (C := RX0) (T := TX0) (N := 7) hx hb hts hinX0 hown hK hP 0 rfl rfl 1 (by decide) (hts (.fieldLink RX0 29 "GyroTrainer$Gyro" "error" "J") (List.mem_of_getElem? (i := 2) rfl)) (fun _ h9 => h9) rfl dX0_swing_7 ?_
  refine lv_lload hx hb dX0_swing_10 (lv_at hl 3 rfl) ?_
  refine lv_lsub hx hb dX0_swing_12 ?_
  refine lv_lmul hx hb dX0_swing_13 ?_
  refine lv_ldc2 hx hb hown (hts (.constantLong RX0 41 (1000)) (List.mem_of_getElem? (i := 3) rfl)) dX0_swing_14 ?_
  refine lv_ldiv hx hb dX0_swing_17 (by decide) ?_
  refine lv_lload hx hb dX0_swing_18 (lv_at hl 4 rfl) ?_
  refine lv_lmul hx hb dX0_swing_20 ?_
  refine lv_ldc2 hx hb hown (hts (.constantLong RX0 43 (1000000)) (List.mem_of_getElem? (i := 4) rfl)) dX0_swing_21 ?_
  refine lv_ldiv hx hb dX0_swing_24 (by decide) ?_
  refine lv_lsub hx hb dX0_swing_25 ?_
  refine lv_topl (fun g_1 eg_1 => ?_)
  refine va_put (D := D) (ci := 0) (v := .long g_1) (ty := .long) (C := RX0) (T := TX0) (N := 7) hx hb hts hinX0 tyX0 tyX0_ok nmX0 hown hK hP hD hS 0 rfl rfl 2 (by decide) (hts (.fieldLink RX0 32 "GyroTrainer$Gyro" "tilt" "J") (List.mem_of_getElem? (i := 1) rfl)) (fun _ h9 => h9) rfl (by decide +kernel) rfl rfl (Nat.le_of_ble_eq_true rfl) dX0_swing_26 (fun H locs hP hD hS => ?_)
  have hP : va_P D vwCl [(h0, .inr (0, [.ref h1, .long v.2.1, .long g_1, .int v.2.2.2.1, .int v.2.2.2.2.1, .int v.2.2.2.2.2.1, .long v.2.2.2.2.2.2])), (h1, .inl ((cA 0), 5, .inr (.inl v.1)))] H := hP
  have hD : va_D A [(h0, .inr (0, [.ref h1, .long v.2.1, .long g_1, .int v.2.2.2.1, .int v.2.2.2.2.1, .int v.2.2.2.2.2.1, .long v.2.2.2.2.2.2])), (h1, .inl ((cA 0), 5, .inr (.inl v.1)))] := hD
  refine lv_aload_n hx hb dX0_swing_29 rfl (lv_at hl 0 rfl) ?_
  refine lv_dup hx hb dX0_swing_30 rfl ?_
  refine va_get (D := D) (ci := 0) (v := .long g_1) (C := RX0) (T := TX0) (N := 7) hx hb hts hinX0 hown hK hP 0 rfl rfl 2 (by decide) (hts (.fieldLink RX0 32 "GyroTrainer$Gyro" "tilt" "J") (List.mem_of_getElem? (i := 1) rfl)) (fun _ h9 => h9) rfl dX0_swing_31 ?_
  refine lv_aload_n hx hb dX0_swing_34 rfl (lv_at hl 0 rfl) ?_
  refine va_get (D := D) (ci := 0) (v := .long g_1) (C := RX0) (T := TX0) (N := 7) hx hb hts hinX0 hown hK hP 0 rfl rfl 2 (by decide) (hts (.fieldLink RX0 32 "GyroTrainer$Gyro" "tilt" "J") (List.mem_of_getElem? (i := 1) rfl)) (fun _ h9 => h9) rfl dX0_swing_35 ?_
  obtain ⟨t_2, hZt_2, hTt_2⟩ := hE.2.2.2.2.2
  refine va_getsN (C := "GyroTrainer") (n := "DAMPING") (d := "[J") (host := "GyroTrainer") hx hb hZt_2 hS hown (va_Nw.use rfl (hN.get 31 rfl)) (fun _ h9 => h9) dX0_swing_38 ?_
  refine lv_aload_n hx hb dX0_swing_41 rfl (lv_at hl 0 rfl) ?_
  refine va_get (D := D) (ci := 0) (v := .int v.2.2.2.2.2.1) (C := RX0) (T := TX0) (N := 7) hx hb hts hinX0 hown hK hP 0 rfl rfl 5 (by decide) (hts (.fieldLink RX0 15 "GyroTrainer$Gyro" "level" "I") (List.mem_of_getElem? (i := 5) rfl)) (fun _ h9 => h9) rfl dX0_swing_42 ?_
  refine z_Rl (va_runSN (As := [.ref t_2, .int v.2.2.2.2.2.1]) (rest := [.long g_1, .long g_1, .ref h0]) ⟨hx, hb, hml, hown, hts⟩ (c_X9_at_T l D cA  t_2 5 z_damp v.2.2.2.2.2.1 (by decide)) (⟨va_cnB (host := "GyroTrainer") 2 hts gX0_swing_X9_at_n48 rfl rfl rfl (hN.get 19 rfl) (hts (.initialized RX9) (List.mem_of_getElem? (i := 9) rfl)) (by decide +kernel) ⟨Nat.le_of_ble_eq_true rfl, Nat.le_of_ble_eq_true rfl⟩, (hts (.static yX9_at) (List.mem_of_getElem? (i := 8) rfl)), trivial⟩) (zpT hTt_2 hS) rfl rfl hl.1 rfl (lv_room (Nat.le_of_ble_eq_true rfl)) dX0_swing_45 ⟨Nat.le_of_ble_eq_true rfl, Nat.le_of_ble_eq_true rfl⟩) ?_
  refine lv_lmul hx hb dX0_swing_48 ?_
  refine lv_ldc2 hx hb hown (hts (.constantLong RX0 41 (1000)) (List.mem_of_getElem? (i := 3) rfl)) dX0_swing_49 ?_
  refine lv_ldiv hx hb dX0_swing_52 (by decide) ?_
  refine lv_lsub hx hb dX0_swing_53 ?_
  refine lv_topl (fun g_3 eg_3 => ?_)
  refine va_put (D := D) (ci := 0) (v := .long g_3) (ty := .long) (C := RX0) (T := TX0) (N := 7) hx hb hts hinX0 tyX0 tyX0_ok nmX0 hown hK hP hD hS 0 rfl rfl 2 (by decide) (hts (.fieldLink RX0 32 "GyroTrainer$Gyro" "tilt" "J") (List.mem_of_getElem? (i := 1) rfl)) (fun _ h9 => h9) rfl (by decide +kernel) rfl rfl (Nat.le_of_ble_eq_true rfl) dX0_swing_54 (fun H locs hP hD hS => ?_)
  have hP : va_P D vwCl [(h0, .inr (0, [.ref h1, .long v.2.1, .long g_3, .int v.2.2.2.1, .int v.2.2.2.2.1, .int v.2.2.2.2.2.1, .long v.2.2.2.2.2.2])), (h1, .inl ((cA 0), 5, .inr (.inl v.1)))] H := hP
  have hD : va_D A [(h0, .inr (0, [.ref h1, .long v.2.1, .long g_3, .int v.2.2.2.1, .int v.2.2.2.2.1, .int v.2.2.2.2.2.1, .long v.2.2.2.2.2.2])), (h1, .inl ((cA 0), 5, .inr (.inl v.1)))] := hD
  refine lv_aload_n hx hb dX0_swing_57 rfl (lv_at hl 0 rfl) ?_
  refine lv_aload_n hx hb dX0_swing_58 rfl (lv_at hl 0 rfl) ?_
  refine va_get (D := D) (ci := 0) (v := .long g_3) (C := RX0) (T := TX0) (N := 7) hx hb hts hinX0 hown hK hP 0 rfl rfl 2 (by decide) (hts (.fieldLink RX0 32 "GyroTrainer$Gyro" "tilt" "J") (List.mem_of_getElem? (i := 1) rfl)) (fun _ h9 => h9) rfl dX0_swing_59 ?_
  refine lv_ldc2 hx hb hown (hts (.constantLong RX0 52 (900000)) (List.mem_of_getElem? (i := 6) rfl)) dX0_swing_62 ?_
  refine z_Rl (va_runSN (As := [.long g_3, .long (900000 : Int64)]) (rest := [.ref h0]) ⟨hx, hb, hml, hown, hts⟩ (c_X9_limited l D cA  g_3 (900000 : Int64)) (⟨va_cnB (host := "GyroTrainer") 2 hts gX0_swing_X9_limited_n54 rfl rfl rfl (hN.get 20 rfl) (hts (.initialized RX9) (List.mem_of_getElem? (i := 9) rfl)) (by decide +kernel) ⟨Nat.le_of_ble_eq_true rfl, Nat.le_of_ble_eq_true rfl⟩, (hts (.static yX9_limited) (List.mem_of_getElem? (i := 11) rfl)), trivial⟩) (zpSR hK hP hN [] [0, 1, 2, 3, 4] rfl rfl) rfl rfl hl.1 rfl (lv_room (Nat.le_of_ble_eq_true rfl)) dX0_swing_65 ⟨Nat.le_of_ble_eq_true rfl, Nat.le_of_ble_eq_true rfl⟩) ?_
  refine lv_topl (fun g_4 eg_4 => ?_)
  refine va_put (D := D) (ci := 0) (v := .long g_4) (ty := .long) (C := RX0) (T := TX0) (N := 7) hx hb hts hinX0 tyX0 tyX0_ok nmX0 hown hK hP hD hS 0 rfl rfl 2 (by decide) (hts (.fieldLink RX0 32 "GyroTrainer$Gyro" "tilt" "J") (List.mem_of_getElem? (i := 1) rfl)) (fun _ h9 => h9) rfl (by decide +kernel) rfl rfl (Nat.le_of_ble_eq_true rfl) dX0_swing_68 (fun H locs hP hD hS => ?_)
  have hP : va_P D vwCl [(h0, .inr (0, [.ref h1, .long v.2.1, .long g_4, .int v.2.2.2.1, .int v.2.2.2.2.1, .int v.2.2.2.2.2.1, .long v.2.2.2.2.2.2])), (h1, .inl ((cA 0), 5, .inr (.inl v.1)))] H := hP
  have hD : va_D A [(h0, .inr (0, [.ref h1, .long v.2.1, .long g_4, .int v.2.2.2.1, .int v.2.2.2.2.1, .int v.2.2.2.2.2.1, .long v.2.2.2.2.2.2])), (h1, .inl ((cA 0), 5, .inr (.inl v.1)))] := hD
  refine lv_aload_n hx hb dX0_swing_71 rfl (lv_at hl 0 rfl) ?_
  refine lv_aload_n hx hb dX0_swing_72 rfl (lv_at hl 0 rfl) ?_
  refine va_get (D := D) (ci := 0) (v := .long v.2.1) (C := RX0) (T := TX0) (N := 7) hx hb hts hinX0 hown hK hP 0 rfl rfl 1 (by decide) (hts (.fieldLink RX0 29 "GyroTrainer$Gyro" "error" "J") (List.mem_of_getElem? (i := 2) rfl)) (fun _ h9 => h9) rfl dX0_swing_73 ?_
  refine lv_lload_n hx hb dX0_swing_76 rfl (lv_at hl 2 rfl) ?_
  refine lv_aload_n hx hb dX0_swing_77 rfl (lv_at hl 0 rfl) ?_
  refine va_get (D := D) (ci := 0) (v := .long g_4) (C := RX0) (T := TX0) (N := 7) hx hb hts hinX0 hown hK hP 0 rfl rfl 2 (by decide) (hts (.fieldLink RX0 32 "GyroTrainer$Gyro" "tilt" "J") (List.mem_of_getElem? (i := 1) rfl)) (fun _ h9 => h9) rfl dX0_swing_78 ?_
  refine lv_lmul hx hb dX0_swing_81 ?_
  refine lv_ldc2 hx hb hown (hts (.constantLong RX0 41 (1000)) (List.mem_of_getElem? (i := 3) rfl)) dX0_swing_82 ?_
  refine lv_ldiv hx hb dX0_swing_85 (by decide) ?_
  refine lv_ladd hx hb dX0_swing_86 ?_
  refine lv_ldc2 hx hb hown (hts (.constantLong RX0 58 (1800000)) (List.mem_of_getElem? (i := 7) rfl)) dX0_swing_87 ?_
  refine z_Rl (va_runSN (As := [.long (v.2.1 + ((y1 * g_4) / (1000 : Int64))), .long (1800000 : Int64)]) (rest := [.ref h0]) ⟨hx, hb, hml, hown, hts⟩ (c_X9_limited l D cA  (v.2.1 + ((y1 * g_4) / (1000 : Int64))) (1800000 : Int64)) (⟨va_cnB (host := "GyroTrainer") 2 hts gX0_swing_X9_limited_n54 rfl rfl rfl (hN.get 20 rfl) (hts (.initialized RX9) (List.mem_of_getElem? (i := 9) rfl)) (by decide +kernel) ⟨Nat.le_of_ble_eq_true rfl, Nat.le_of_ble_eq_true rfl⟩, (hts (.static yX9_limited) (List.mem_of_getElem? (i := 11) rfl)), trivial⟩) (zpSR hK hP hN [] [0, 1, 2, 3, 4] rfl rfl) rfl rfl hl.1 rfl (lv_room (Nat.le_of_ble_eq_true rfl)) dX0_swing_90 ⟨Nat.le_of_ble_eq_true rfl, Nat.le_of_ble_eq_true rfl⟩) ?_
  refine lv_topl (fun g_5 eg_5 => ?_)
  refine va_put (D := D) (ci := 0) (v := .long g_5) (ty := .long) (C := RX0) (T := TX0) (N := 7) hx hb hts hinX0 tyX0 tyX0_ok nmX0 hown hK hP hD hS 0 rfl rfl 1 (by decide) (hts (.fieldLink RX0 29 "GyroTrainer$Gyro" "error" "J") (List.mem_of_getElem? (i := 2) rfl)) (fun _ h9 => h9) rfl (by decide +kernel) rfl rfl (Nat.le_of_ble_eq_true rfl) dX0_swing_93 (fun H locs hP hD hS => ?_)
  have hP : va_P D vwCl [(h0, .inr (0, [.ref h1, .long g_5, .long g_4, .int v.2.2.2.1, .int v.2.2.2.2.1, .int v.2.2.2.2.2.1, .long v.2.2.2.2.2.2])), (h1, .inl ((cA 0), 5, .inr (.inl v.1)))] H := hP
  have hD : va_D A [(h0, .inr (0, [.ref h1, .long g_5, .long g_4, .int v.2.2.2.1, .int v.2.2.2.2.1, .int v.2.2.2.2.2.1, .long v.2.2.2.2.2.2])), (h1, .inl ((cA 0), 5, .inr (.inl v.1)))] := hD
  have e9 : (zf_swing v y0 y1 y2 y3) = (v.1, g_5, g_4, v.2.2.2.1, v.2.2.2.2.1, v.2.2.2.2.2.1, v.2.2.2.2.2.2) := by subst eg_1; subst eg_3; subst eg_4; subst eg_5; rfl
  have hP9 : va_P D vwCl (wX0 cA h0 h1 ((v.1, g_5, g_4, v.2.2.2.1, v.2.2.2.2.1, v.2.2.2.2.2.1, v.2.2.2.2.2.2) : vX0)) H := hP
  have hD9 : va_D A (wX0 cA h0 h1 ((v.1, g_5, g_4, v.2.2.2.1, v.2.2.2.2.1, v.2.2.2.2.2.1, v.2.2.2.2.2.2) : vX0)) := hD
  subst hQ
  exact W.vret hx hb hr (fun t ht hW => ⟨⟨(v.1, g_5, g_4, v.2.2.2.1, v.2.2.2.2.1, v.2.2.2.2.2.1, v.2.2.2.2.2.2), rfl, e9.symm, ⟨by rw [ht]; exact hP9, va_K.moved hW.alike hK, hD9⟩⟩, hS.F ht⟩) hS.2.2 dX0_swing_96
set_option maxHeartbeats 4000000 in
set_option maxRecDepth 100000 in
theorem c_X8_copyFrom (l : Launch) (D : va_G) (cA : Nat → ClassId) (h0 h1 h2 h3 h4 h5 h6 h7 h8 h9 h10 h11 h12 h13 : Nat) (sz : Nat) (v : vX8) (o : vX8)  : Met l yX8_copyFrom wsX8_copyFrom ({ frames := 2, cells := 0, slots := 0, locals := 43 }) (va_Pc [.ref h0, .ref h7] (zPre D (zty cA) (wX8 cA h0 h1 h2 h3 h4 h5 h6 v ++ wX8 cA h7 h8 h9 h10 h11 h12 h13 o) sz)) (va_Qv (fun (u : vX8) => u = o) (fun u => zPost D (zty cA) (va_A (wX8 cA h0 h1 h2 h3 h4 h5 h6 v ++ wX8 cA h7 h8 h9 h10 h11 h12 h13 o) sz) (wX8 cA h0 h1 h2 h3 h4 h5 h6 u ++ wX8 cA h7 h8 h9 h10 h11 h12 h13 o)) (va_A (wX8 cA h0 h1 h2 h3 h4 h5 h6 v ++ wX8 cA h7 h8 h9 h10 h11 h12 h13 o) sz)) 0 0 (va_A (wX8 cA h0 h1 h2 h3 h4 h5 h6 v ++ wX8 cA h7 h8 h9 h10 h11 h12 h13 o) sz) := by
  refine Met.ofW (cc := cX8_copyFrom) (maxL := 2) (ret := none) (by decide) rfl ?_
  intro p e s m args below meth c s₁ B hml hv
  obtain ⟨rfl, hsz, hP, hK, hD0, hE⟩ := hv
  have hx := B.exec
  have hb := B.bytes
  have hr := B.returns
  have hts := atoms_spec (ws := wsX8_copyFrom) B.pre
  have hown : s.vm.findClass RX8 = some m.cls := findClass_of_methodNamed B.named
  have hlocks := B.notSynchronized
  have hinX8 : ∀ w ∈ u_ws RX8 TX8 6, w ∈ wsX8_copyFrom := fun w h => List.mem_cons_of_mem _ (List.mem_append_left _ (List.mem_append_right _ h))
  have hinX2 : ∀ w ∈ u_ws RX2 TX2 2, w ∈ wsX8_copyFrom := fun w h => List.mem_cons_of_mem _ (List.mem_append_right _ h)
  subst hsz
  have hD := hD0.self (sz := s.heap.size)
  generalize hAe : va_A (wX8 cA h0 h1 h2 h3 h4 h5 h6 v ++ wX8 cA h7 h8 h9 h10 h11 h12 h13 o) s.heap.size = A at hD hE ⊢
  have hA : ∀ q : Nat, s.heap.size ≤ q → A q := fun q h => by rw [← hAe]; exact Or.inr h
  have hS : va_S A s.heap s.heap [] := va_S.rf
  have hN : zN s := hE.1
  have hP : va_P D vwCl [(h0, .inr (8, [.ref h1, .ref h3, .ref h5, .long v.2.2.2.1, .int v.2.2.2.2.1, .int v.2.2.2.2.2])), (h1, .inr (2, [.ref h2, .int v.1.2])), (h2, .inl ((cA 0), 8, .inr (.inl v.1.1))), (h3, .inr (2, [.ref h4, .int v.2.1.2])), (h4, .inl ((cA 0), 8, .inr (.inl v.2.1.1))), (h5, .inr (2, [.ref h6, .int v.2.2.1.2])), (h6, .inl ((cA 0), 8, .inr (.inl v.2.2.1.1))), (h7, .inr (8, [.ref h8, .ref h10, .ref h12, .long o.2.2.2.1, .int o.2.2.2.2.1, .int o.2.2.2.2.2])), (h8, .inr (2, [.ref h9, .int o.1.2])), (h9, .inl ((cA 0), 8, .inr (.inl o.1.1))), (h10, .inr (2, [.ref h11, .int o.2.1.2])), (h11, .inl ((cA 0), 8, .inr (.inl o.2.1.1))), (h12, .inr (2, [.ref h13, .int o.2.2.1.2])), (h13, .inl ((cA 0), 8, .inr (.inl o.2.2.1.1)))] s.heap := hP
  have hD : va_D A [(h0, .inr (8, [.ref h1, .ref h3, .ref h5, .long v.2.2.2.1, .int v.2.2.2.2.1, .int v.2.2.2.2.2])), (h1, .inr (2, [.ref h2, .int v.1.2])), (h2, .inl ((cA 0), 8, .inr (.inl v.1.1))), (h3, .inr (2, [.ref h4, .int v.2.1.2])), (h4, .inl ((cA 0), 8, .inr (.inl v.2.1.1))), (h5, .inr (2, [.ref h6, .int v.2.2.1.2])), (h6, .inl ((cA 0), 8, .inr (.inl v.2.2.1.1))), (h7, .inr (8, [.ref h8, .ref h10, .ref h12, .long o.2.2.2.1, .int o.2.2.2.2.1, .int o.2.2.2.2.2])), (h8, .inr (2, [.ref h9, .int o.1.2])), (h9, .inl ((cA 0), 8, .inr (.inl o.1.1))), (h10, .inr (2, [.ref h11, .int o.2.1.2])), (h11, .inl ((cA 0), 8, .inr (.inl o.2.1.1))), (h12, .inr (2, [.ref h13, .int o.2.2.1.2])), (h13, .inl ((cA 0), 8, .inr (.inl o.2.2.1.1)))] := hD
  have hl := lv_entry ([.ref h0, .ref h7]) (n := 2) (Nat.le_of_ble_eq_true rfl)
  rw [lg_entry_eq]
  generalize (lg_sl ([.ref h0, .ref h7]) ++ List.replicate (2 - (lg_sl ([.ref h0, .ref h7])).length) Slot.unset).toArray = ls at hl ⊢
  have hl : lv_has ls 2 [(0, .ref h0), (1, .ref h7)] := hl
  refine z_genQ (fun Q hQ => ?_)
  refine lv_aload_n hx hb dX8_copyFrom_0 rfl (lv_at hl 0 rfl) ?_
  refine va_get (D := D) (ci := 8) (v := .ref h1) (C := RX8) (T := TX8) (N := 6) hx hb hts hinX8 hown hK hP 0 rfl rfl 0 (by decide) (hts (.fieldLink RX8 14 "GyroTrainer$Swings" "errors" "LGyroTrainer$Latest;") (List.mem_of_getElem? (i := 1) rfl)) (fun _ h9 => h9) rfl dX8_copyFrom_1 ?_
  refine lv_aload_n hx hb dX8_copyFrom_4 rfl (lv_at hl 1 rfl) ?_
  refine va_get (D := D) (ci := 8) (v := .ref h8) (C := RX8) (T := TX8) (N := 6) hx hb hts hinX8 hown hK hP 7 rfl rfl 0 (by decide) (hts (.fieldLink RX8 14 "GyroTrainer$Swings" "errors" "LGyroTrainer$Latest;") (List.mem_of_getElem? (i := 1) rfl)) (fun _ h9 => h9) rfl dX8_copyFrom_5 ?_
  refine z_Gv (wr := [(h0, .inr (8, [.ref h1, .ref h3, .ref h5, .long v.2.2.2.1, .int v.2.2.2.2.1, .int v.2.2.2.2.2])), (h3, .inr (2, [.ref h4, .int v.2.1.2])), (h4, .inl ((cA 0), 8, .inr (.inl v.2.1.1))), (h5, .inr (2, [.ref h6, .int v.2.2.1.2])), (h6, .inl ((cA 0), 8, .inr (.inl v.2.2.1.1))), (h7, .inr (8, [.ref h8, .ref h10, .ref h12, .long o.2.2.2.1, .int o.2.2.2.2.1, .int o.2.2.2.2.2])), (h10, .inr (2, [.ref h11, .int o.2.1.2])), (h11, .inl ((cA 0), 8, .inr (.inl o.2.1.1))), (h12, .inr (2, [.ref h13, .int o.2.2.1.2])), (h13, .inl ((cA 0), 8, .inr (.inl o.2.2.1.1)))]) (wt := (fun (u_1 : vX2) => [(h0, .inr (8, [.ref h1, .ref h3, .ref h5, .long v.2.2.2.1, .int v.2.2.2.2.1, .int v.2.2.2.2.2])), (h1, .inr (2, [.ref h2, .int u_1.2])), (h2, .inl ((cA 0), 8, .inr (.inl u_1.1))), (h3, .inr (2, [.ref h4, .int v.2.1.2])), (h4, .inl ((cA 0), 8, .inr (.inl v.2.1.1))), (h5, .inr (2, [.ref h6, .int v.2.2.1.2])), (h6, .inl ((cA 0), 8, .inr (.inl v.2.2.1.1))), (h7, .inr (8, [.ref h8, .ref h10, .ref h12, .long o.2.2.2.1, .int o.2.2.2.2.1, .int o.2.2.2.2.2])), (h8, .inr (2, [.ref h9, .int o.1.2])), (h9, .inl ((cA 0), 8, .inr (.inl o.1.1))), (h10, .inr (2, [.ref h11, .int o.2.1.2])), (h11, .inl ((cA 0), 8, .inr (.inl o.2.1.1))), (h12, .inr (2, [.ref h13, .int o.2.2.1.2])), (h13, .inl ((cA 0), 8, .inr (.inl o.2.2.1.1)))])) (va_runV (As := [.ref h8]) (rest := []) ⟨hx, hb, hml, hown, hts⟩ (c_X2_copyFrom l D cA h1 h2 h8 h9 s.heap.size 8 v.1 o.1 (by decide)) (cwV 1 hts gX8_copyFrom_X2_copyFrom rfl rfl rfl (by decide +kernel) ⟨Nat.le_of_ble_eq_true rfl, Nat.le_of_ble_eq_true rfl⟩) (zpV hK hP hD hS hA hE [1, 2, 8, 9] [0, 1, 2, 3, 4] rfl (by decide) rfl 0 rfl rfl) rfl rfl hl.1 rfl (lv_room (Nat.le_of_ble_eq_true rfl)) dX8_copyFrom_8 ⟨Nat.le_of_ble_eq_true rfl, Nat.le_of_ble_eq_true rfl⟩) hP hD hS hA [1, 2, 8, 9] [0, 3, 4, 5, 6, 7, 10, 11, 12, 13] [0, 10, 11, 1, 2, 3, 4, 5, 12, 13, 6, 7, 8, 9] rfl rfl (by decide) (fun _ => rfl) (fun u_1 H locs eu_1 hP hD hS => ?_)
  have hP : va_P D vwCl [(h0, .inr (8, [.ref h1, .ref h3, .ref h5, .long v.2.2.2.1, .int v.2.2.2.2.1, .int v.2.2.2.2.2])), (h1, .inr (2, [.ref h2, .int u_1.2])), (h2, .inl ((cA 0), 8, .inr (.inl u_1.1))), (h3, .inr (2, [.ref h4, .int v.2.1.2])), (h4, .inl ((cA 0), 8, .inr (.inl v.2.1.1))), (h5, .inr (2, [.ref h6, .int v.2.2.1.2])), (h6, .inl ((cA 0), 8, .inr (.inl v.2.2.1.1))), (h7, .inr (8, [.ref h8, .ref h10, .ref h12, .long o.2.2.2.1, .int o.2.2.2.2.1, .int o.2.2.2.2.2])), (h8, .inr (2, [.ref h9, .int o.1.2])), (h9, .inl ((cA 0), 8, .inr (.inl o.1.1))), (h10, .inr (2, [.ref h11, .int o.2.1.2])), (h11, .inl ((cA 0), 8, .inr (.inl o.2.1.1))), (h12, .inr (2, [.ref h13, .int o.2.2.1.2])), (h13, .inl ((cA 0), 8, .inr (.inl o.2.2.1.1)))] H := hP
  have hD : va_D A [(h0, .inr (8, [.ref h1, .ref h3, .ref h5, .long v.2.2.2.1, .int v.2.2.2.2.1, .int v.2.2.2.2.2])), (h1, .inr (2, [.ref h2, .int u_1.2])), (h2, .inl ((cA 0), 8, .inr (.inl u_1.1))), (h3, .inr (2, [.ref h4, .int v.2.1.2])), (h4, .inl ((cA 0), 8, .inr (.inl v.2.1.1))), (h5, .inr (2, [.ref h6, .int v.2.2.1.2])), (h6, .inl ((cA 0), 8, .inr (.inl v.2.2.1.1))), (h7, .inr (8, [.ref h8, .ref h10, .ref h12, .long o.2.2.2.1, .int o.2.2.2.2.1, .int o.2.2.2.2.2])), (h8, .inr (2, [.ref h9, .int o.1.2])), (h9, .inl ((cA 0), 8, .inr (.inl o.1.1))), (h10, .inr (2, [.ref h11, .int o.2.1.2])), (h11, .inl ((cA 0), 8, .inr (.inl o.2.1.1))), (h12, .inr (2, [.ref h13, .int o.2.2.1.2])), (h13, .inl ((cA 0), 8, .inr (.inl o.2.2.1.1)))] := hD
  refine lv_aload_n hx hb dX8_copyFrom_11 rfl (lv_at hl 0 rfl) ?_
  refine va_get (D := D) (ci := 8) (v := .ref h3) (C := RX8) (T := TX8) (N := 6) hx hb hts hinX8 hown hK hP 0 rfl rfl 1 (by decide) (hts (.fieldLink RX8 20 "GyroTrainer$Swings" "times" "LGyroTrainer$Latest;") (List.mem_of_getElem? (i := 2) rfl)) (fun _ h9 => h9) rfl dX8_copyFrom_12 ?_
  refine lv_aload_n hx hb dX8_copyFrom_15 rfl (lv_at hl 1 rfl) ?_
  refine va_get (D := D) (ci := 8) (v := .ref h10) (C := RX8) (T := TX8) (N := 6) hx hb hts hinX8 hown hK hP 7 rfl rfl 1 (by decide) (hts (.fieldLink RX8 20 "GyroTrainer$Swings" "times" "LGyroTrainer$Latest;") (List.mem_of_getElem? (i := 2) rfl)) (fun _ h9 => h9) rfl dX8_copyFrom_16 ?_
  refine z_Gv (wr := [(h0, .inr (8, [.ref h1, .ref h3, .ref h5, .long v.2.2.2.1, .int v.2.2.2.2.1, .int v.2.2.2.2.2])), (h1, .inr (2, [.ref h2, .int u_1.2])), (h2, .inl ((cA 0), 8, .inr (.inl u_1.1))), (h5, .inr (2, [.ref h6, .int v.2.2.1.2])), (h6, .inl ((cA 0), 8, .inr (.inl v.2.2.1.1))), (h7, .inr (8, [.ref h8, .ref h10, .ref h12, .long o.2.2.2.1, .int o.2.2.2.2.1, .int o.2.2.2.2.2])), (h8, .inr (2, [.ref h9, .int o.1.2])), (h9, .inl ((cA 0), 8, .inr (.inl o.1.1))), (h12, .inr (2, [.ref h13, .int o.2.2.1.2])), (h13, .inl ((cA 0), 8, .inr (.inl o.2.2.1.1)))]) (wt := (fun (u_3 : vX2) => [(h0, .inr (8, [.ref h1, .ref h3, .ref h5, .long v.2.2.2.1, .int v.2.2.2.2.1, .int v.2.2.2.2.2])), (h1, .inr (2, [.ref h2, .int u_1.2])), (h2, .inl ((cA 0), 8, .inr (.inl u_1.1))), (h3, .inr (2, [.ref h4, .int u_3.2])), (h4, .inl ((cA 0), 8, .inr (.inl u_3.1))), (h5, .inr (2, [.ref h6, .int v.2.2.1.2])), (h6, .inl ((cA 0), 8, .inr (.inl v.2.2.1.1))), (h7, .inr (8, [.ref h8, .ref h10, .ref h12, .long o.2.2.2.1, .int o.2.2.2.2.1, .int o.2.2.2.2.2])), (h8, .inr (2, [.ref h9, .int o.1.2])), (h9, .inl ((cA 0), 8, .inr (.inl o.1.1))), (h10, .inr (2, [.ref h11, .int o.2.1.2])), (h11, .inl ((cA 0), 8, .inr (.inl o.2.1.1))), (h12, .inr (2, [.ref h13, .int o.2.2.1.2])), (h13, .inl ((cA 0), 8, .inr (.inl o.2.2.1.1)))])) (va_runV (As := [.ref h10]) (rest := []) ⟨hx, hb, hml, hown, hts⟩ (c_X2_copyFrom l D cA h3 h4 h10 h11 H.size 8 v.2.1 o.2.1 (by decide)) (cwV 1 hts gX8_copyFrom_X2_copyFrom rfl rfl rfl (by decide +kernel) ⟨Nat.le_of_ble_eq_true rfl, Nat.le_of_ble_eq_true rfl⟩) (zpV hK hP hD hS hA hE [3, 4, 10, 11] [0, 1, 2, 3, 4] rfl (by decide) rfl 0 rfl rfl) rfl rfl hl.1 rfl (lv_room (Nat.le_of_ble_eq_true rfl)) dX8_copyFrom_19 ⟨Nat.le_of_ble_eq_true rfl, Nat.le_of_ble_eq_true rfl⟩) hP hD hS hA [3, 4, 10, 11] [0, 1, 2, 5, 6, 7, 8, 9, 12, 13] [0, 1, 2, 10, 11, 3, 4, 5, 6, 7, 12, 13, 8, 9] rfl rfl (by decide) (fun _ => rfl) (fun u_3 H locs eu_3 hP hD hS => ?_)
  have hP : va_P D vwCl [(h0, .inr (8, [.ref h1, .ref h3, .ref h5, .long v.2.2.2.1, .int v.2.2.2.2.1, .int v.2.2.2.2.2])), (h1, .inr (2, [.ref h2, .int u_1.2])), (h2, .inl ((cA 0), 8, .inr (.inl u_1.1))), (h3, .inr (2, [.ref h4, .int u_3.2])), (h4, .inl ((cA 0), 8, .inr (.inl u_3.1))), (h5, .inr (2, [.ref h6, .int v.2.2.1.2])), (h6, .inl ((cA 0), 8, .inr (.inl v.2.2.1.1))), (h7, .inr (8, [.ref h8, .ref h10, .ref h12, .long o.2.2.2.1, .int o.2.2.2.2.1, .int o.2.2.2.2.2])), (h8, .inr (2, [.ref h9, .int o.1.2])), (h9, .inl ((cA 0), 8, .inr (.inl o.1.1))), (h10, .inr (2, [.ref h11, .int o.2.1.2])), (h11, .inl ((cA 0), 8, .inr (.inl o.2.1.1))), (h12, .inr (2, [.ref h13, .int o.2.2.1.2])), (h13, .inl ((cA 0), 8, .inr (.inl o.2.2.1.1)))] H := hP
  have hD : va_D A [(h0, .inr (8, [.ref h1, .ref h3, .ref h5, .long v.2.2.2.1, .int v.2.2.2.2.1, .int v.2.2.2.2.2])), (h1, .inr (2, [.ref h2, .int u_1.2])), (h2, .inl ((cA 0), 8, .inr (.inl u_1.1))), (h3, .inr (2, [.ref h4, .int u_3.2])), (h4, .inl ((cA 0), 8, .inr (.inl u_3.1))), (h5, .inr (2, [.ref h6, .int v.2.2.1.2])), (h6, .inl ((cA 0), 8, .inr (.inl v.2.2.1.1))), (h7, .inr (8, [.ref h8, .ref h10, .ref h12, .long o.2.2.2.1, .int o.2.2.2.2.1, .int o.2.2.2.2.2])), (h8, .inr (2, [.ref h9, .int o.1.2])), (h9, .inl ((cA 0), 8, .inr (.inl o.1.1))), (h10, .inr (2, [.ref h11, .int o.2.1.2])), (h11, .inl ((cA 0), 8, .inr (.inl o.2.1.1))), (h12, .inr (2, [.ref h13, .int o.2.2.1.2])), (h13, .inl ((cA 0), 8, .inr (.inl o.2.2.1.1)))] := hD
  refine lv_aload_n hx hb dX8_copyFrom_22 rfl (lv_at hl 0 rfl) ?_
  refine va_get (D := D) (ci := 8) (v := .ref h5) (C := RX8) (T := TX8) (N := 6) hx hb hts hinX8 hown hK hP 0 rfl rfl 2 (by decide) (hts (.fieldLink RX8 23 "GyroTrainer$Swings" "sums" "LGyroTrainer$Latest;") (List.mem_of_getElem? (i := 3) rfl)) (fun _ h9 => h9) rfl dX8_copyFrom_23 ?_
  refine lv_aload_n hx hb dX8_copyFrom_26 rfl (lv_at hl 1 rfl) ?_
  refine va_get (D := D) (ci := 8) (v := .ref h12) (C := RX8) (T := TX8) (N := 6) hx hb hts hinX8 hown hK hP 7 rfl rfl 2 (by decide) (hts (.fieldLink RX8 23 "GyroTrainer$Swings" "sums" "LGyroTrainer$Latest;") (List.mem_of_getElem? (i := 3) rfl)) (fun _ h9 => h9) rfl dX8_copyFrom_27 ?_
  refine z_Gv (wr := [(h0, .inr (8, [.ref h1, .ref h3, .ref h5, .long v.2.2.2.1, .int v.2.2.2.2.1, .int v.2.2.2.2.2])), (h1, .inr (2, [.ref h2, .int u_1.2])), (h2, .inl ((cA 0), 8, .inr (.inl u_1.1))), (h3, .inr (2, [.ref h4, .int u_3.2])), (h4, .inl ((cA 0), 8, .inr (.inl u_3.1))), (h7, .inr (8, [.ref h8, .ref h10, .ref h12, .long o.2.2.2.1, .int o.2.2.2.2.1, .int o.2.2.2.2.2])), (h8, .inr (2, [.ref h9, .int o.1.2])), (h9, .inl ((cA 0), 8, .inr (.inl o.1.1))), (h10, .inr (2, [.ref h11, .int o.2.1.2])), (h11, .inl ((cA 0), 8, .inr (.inl o.2.1.1)))]) (wt := (fun (u_5 : vX2) => [(h0, .inr (8, [.ref h1, .ref h3, .ref h5, .long v.2.2.2.1, .int v.2.2.2.2.1, .int v.2.2.2.2.2])), (h1, .inr (2, [.ref h2, .int u_1.2])), (h2, .inl ((cA 0), 8, .inr (.inl u_1.1))), (h3, .inr (2, [.ref h4, .int u_3.2])), (h4, .inl ((cA 0), 8, .inr (.inl u_3.1))), (h5, .inr (2, [.ref h6, .int u_5.2])), (h6, .inl ((cA 0), 8, .inr (.inl u_5.1))), (h7, .inr (8, [.ref h8, .ref h10, .ref h12, .long o.2.2.2.1, .int o.2.2.2.2.1, .int o.2.2.2.2.2])), (h8, .inr (2, [.ref h9, .int o.1.2])), (h9, .inl ((cA 0), 8, .inr (.inl o.1.1))), (h10, .inr (2, [.ref h11, .int o.2.1.2])), (h11, .inl ((cA 0), 8, .inr (.inl o.2.1.1))), (h12, .inr (2, [.ref h13, .int o.2.2.1.2])), (h13, .inl ((cA 0), 8, .inr (.inl o.2.2.1.1)))])) (va_runV (As := [.ref h12]) (rest := []) ⟨hx, hb, hml, hown, hts⟩ (c_X2_copyFrom l D cA h5 h6 h12 h13 H.size 8 v.2.2.1 o.2.2.1 (by decide)) (cwV 1 hts gX8_copyFrom_X2_copyFrom rfl rfl rfl (by decide +kernel) ⟨Nat.le_of_ble_eq_true rfl, Nat.le_of_ble_eq_true rfl⟩) (zpV hK hP hD hS hA hE [5, 6, 12, 13] [0, 1, 2, 3, 4] rfl (by decide) rfl 0 rfl rfl) rfl rfl hl.1 rfl (lv_room (Nat.le_of_ble_eq_true rfl)) dX8_copyFrom_30 ⟨Nat.le_of_ble_eq_true rfl, Nat.le_of_ble_eq_true rfl⟩) hP hD hS hA [5, 6, 12, 13] [0, 1, 2, 3, 4, 7, 8, 9, 10, 11] [0, 1, 2, 3, 4, 10, 11, 5, 6, 7, 8, 9, 12, 13] rfl rfl (by decide) (fun _ => rfl) (fun u_5 H locs eu_5 hP hD hS => ?_)
  have hP : va_P D vwCl [(h0, .inr (8, [.ref h1, .ref h3, .ref h5, .long v.2.2.2.1, .int v.2.2.2.2.1, .int v.2.2.2.2.2])), (h1, .inr (2, [.ref h2, .int u_1.2])), (h2, .inl ((cA 0), 8, .inr (.inl u_1.1))), (h3, .inr (2, [.ref h4, .int u_3.2])), (h4, .inl ((cA 0), 8, .inr (.inl u_3.1))), (h5, .inr (2, [.ref h6, .int u_5.2])), (h6, .inl ((cA 0), 8, .inr (.inl u_5.1))), (h7, .inr (8, [.ref h8, .ref h10, .ref h12, .long o.2.2.2.1, .int o.2.2.2.2.1, .int o.2.2.2.2.2])), (h8, .inr (2, [.ref h9, .int o.1.2])), (h9, .inl ((cA 0), 8, .inr (.inl o.1.1))), (h10, .inr (2, [.ref h11, .int o.2.1.2])), (h11, .inl ((cA 0), 8, .inr (.inl o.2.1.1))), (h12, .inr (2, [.ref h13, .int o.2.2.1.2])), (h13, .inl ((cA 0), 8, .inr (.inl o.2.2.1.1)))] H := hP
  have hD : va_D A [(h0, .inr (8, [.ref h1, .ref h3, .ref h5, .long v.2.2.2.1, .int v.2.2.2.2.1, .int v.2.2.2.2.2])), (h1, .inr (2, [.ref h2, .int u_1.2])), (h2, .inl ((cA 0), 8, .inr (.inl u_1.1))), (h3, .inr (2, [.ref h4, .int u_3.2])), (h4, .inl ((cA 0), 8, .inr (.inl u_3.1))), (h5, .inr (2, [.ref h6, .int u_5.2])), (h6, .inl ((cA 0), 8, .inr (.inl u_5.1))), (h7, .inr (8, [.ref h8, .ref h10, .ref h12, .long o.2.2.2.1, .int o.2.2.2.2.1, .int o.2.2.2.2.2])), (h8, .inr (2, [.ref h9, .int o.1.2])), (h9, .inl ((cA 0), 8, .inr (.inl o.1.1))), (h10, .inr (2, [.ref h11, .int o.2.1.2])), (h11, .inl ((cA 0), 8, .inr (.inl o.2.1.1))), (h12, .inr (2, [.ref h13, .int o.2.2.1.2])), (h13, .inl ((cA 0), 8, .inr (.inl o.2.2.1.1)))] := hD
  refine lv_aload_n hx hb dX8_copyFrom_33 rfl (lv_at hl 0 rfl) ?_
  refine lv_aload_n hx hb dX8_copyFrom_34 rfl (lv_at hl 1 rfl) ?_
  refine va_get (D := D) (ci := 8) (v := .long o.2.2.2.1) (C := RX8) (T := TX8) (N := 6) hx hb hts hinX8 hown hK hP 7 rfl rfl 3 (by decide) (hts (.fieldLink RX8 30 "GyroTrainer$Swings" "sum" "J") (List.mem_of_getElem? (i := 4) rfl)) (fun _ h9 => h9) rfl dX8_copyFrom_35 ?_
  refine va_put (D := D) (ci := 8) (v := .long o.2.2.2.1) (ty := .long) (C := RX8) (T := TX8) (N := 6) hx hb hts hinX8 tyX8 tyX8_ok nmX8 hown hK hP hD hS 0 rfl rfl 3 (by decide) (hts (.fieldLink RX8 30 "GyroTrainer$Swings" "sum" "J") (List.mem_of_getElem? (i := 4) rfl)) (fun _ h9 => h9) rfl (by decide +kernel) rfl rfl (Nat.le_of_ble_eq_true rfl) dX8_copyFrom_38 (fun H locs hP hD hS => ?_)
  have hP : va_P D vwCl [(h0, .inr (8, [.ref h1, .ref h3, .ref h5, .long o.2.2.2.1, .int v.2.2.2.2.1, .int v.2.2.2.2.2])), (h1, .inr (2, [.ref h2, .int u_1.2])), (h2, .inl ((cA 0), 8, .inr (.inl u_1.1))), (h3, .inr (2, [.ref h4, .int u_3.2])), (h4, .inl ((cA 0), 8, .inr (.inl u_3.1))), (h5, .inr (2, [.ref h6, .int u_5.2])), (h6, .inl ((cA 0), 8, .inr (.inl u_5.1))), (h7, .inr (8, [.ref h8, .ref h10, .ref h12, .long o.2.2.2.1, .int o.2.2.2.2.1, .int o.2.2.2.2.2])), (h8, .inr (2, [.ref h9, .int o.1.2])), (h9, .inl ((cA 0), 8, .inr (.inl o.1.1))), (h10, .inr (2, [.ref h11, .int o.2.1.2])), (h11, .inl ((cA 0), 8, .inr (.inl o.2.1.1))), (h12, .inr (2, [.ref h13, .int o.2.2.1.2])), (h13, .inl ((cA 0), 8, .inr (.inl o.2.2.1.1)))] H := hP
  have hD : va_D A [(h0, .inr (8, [.ref h1, .ref h3, .ref h5, .long o.2.2.2.1, .int v.2.2.2.2.1, .int v.2.2.2.2.2])), (h1, .inr (2, [.ref h2, .int u_1.2])), (h2, .inl ((cA 0), 8, .inr (.inl u_1.1))), (h3, .inr (2, [.ref h4, .int u_3.2])), (h4, .inl ((cA 0), 8, .inr (.inl u_3.1))), (h5, .inr (2, [.ref h6, .int u_5.2])), (h6, .inl ((cA 0), 8, .inr (.inl u_5.1))), (h7, .inr (8, [.ref h8, .ref h10, .ref h12, .long o.2.2.2.1, .int o.2.2.2.2.1, .int o.2.2.2.2.2])), (h8, .inr (2, [.ref h9, .int o.1.2])), (h9, .inl ((cA 0), 8, .inr (.inl o.1.1))), (h10, .inr (2, [.ref h11, .int o.2.1.2])), (h11, .inl ((cA 0), 8, .inr (.inl o.2.1.1))), (h12, .inr (2, [.ref h13, .int o.2.2.1.2])), (h13, .inl ((cA 0), 8, .inr (.inl o.2.2.1.1)))] := hD
  refine lv_aload_n hx hb dX8_copyFrom_41 rfl (lv_at hl 0 rfl) ?_
  refine lv_aload_n hx hb dX8_copyFrom_42 rfl (lv_at hl 1 rfl) ?_
  refine va_get (D := D) (ci := 8) (v := .int o.2.2.2.2.1) (C := RX8) (T := TX8) (N := 6) hx hb hts hinX8 hown hK hP 7 rfl rfl 4 (by decide) (hts (.fieldLink RX8 34 "GyroTrainer$Swings" "direction" "I") (List.mem_of_getElem? (i := 5) rfl)) (fun _ h9 => h9) rfl dX8_copyFrom_43 ?_
  refine va_put (D := D) (ci := 8) (v := .int o.2.2.2.2.1) (ty := .int) (C := RX8) (T := TX8) (N := 6) hx hb hts hinX8 tyX8 tyX8_ok nmX8 hown hK hP hD hS 0 rfl rfl 4 (by decide) (hts (.fieldLink RX8 34 "GyroTrainer$Swings" "direction" "I") (List.mem_of_getElem? (i := 5) rfl)) (fun _ h9 => h9) rfl (by decide +kernel) rfl rfl (Nat.le_of_ble_eq_true rfl) dX8_copyFrom_46 (fun H locs hP hD hS => ?_)
  have hP : va_P D vwCl [(h0, .inr (8, [.ref h1, .ref h3, .ref h5, .long o.2.2.2.1, .int o.2.2.2.2.1, .int v.2.2.2.2.2])), (h1, .inr (2, [.ref h2, .int u_1.2])), (h2, .inl ((cA 0), 8, .inr (.inl u_1.1))), (h3, .inr (2, [.ref h4, .int u_3.2])), (h4, .inl ((cA 0), 8, .inr (.inl u_3.1))), (h5, .inr (2, [.ref h6, .int u_5.2])), (h6, .inl ((cA 0), 8, .inr (.inl u_5.1))), (h7, .inr (8, [.ref h8, .ref h10, .ref h12, .long o.2.2.2.1, .int o.2.2.2.2.1, .int o.2.2.2.2.2])), (h8, .inr (2, [.ref h9, .int o.1.2])), (h9, .inl ((cA 0), 8, .inr (.inl o.1.1))), (h10, .inr (2, [.ref h11, .int o.2.1.2])), (h11, .inl ((cA 0), 8, .inr (.inl o.2.1.1))), (h12, .inr (2, [.ref h13, .int o.2.2.1.2])), (h13, .inl ((cA 0), 8, .inr (.inl o.2.2.1.1)))] H := hP
  have hD : va_D A [(h0, .inr (8, [.ref h1, .ref h3, .ref h5, .long o.2.2.2.1, .int o.2.2.2.2.1, .int v.2.2.2.2.2])), (h1, .inr (2, [.ref h2, .int u_1.2])), (h2, .inl ((cA 0), 8, .inr (.inl u_1.1))), (h3, .inr (2, [.ref h4, .int u_3.2])), (h4, .inl ((cA 0), 8, .inr (.inl u_3.1))), (h5, .inr (2, [.ref h6, .int u_5.2])), (h6, .inl ((cA 0), 8, .inr (.inl u_5.1))), (h7, .inr (8, [.ref h8, .ref h10, .ref h12, .long o.2.2.2.1, .int o.2.2.2.2.1, .int o.2.2.2.2.2])), (h8, .inr (2, [.ref h9, .int o.1.2])), (h9, .inl ((cA 0), 8, .inr (.inl o.1.1))), (h10, .inr (2, [.ref h11, .int o.2.1.2])), (h11, .inl ((cA 0), 8, .inr (.inl o.2.1.1))), (h12, .inr (2, [.ref h13, .int o.2.2.1.2])), (h13, .inl ((cA 0), 8, .inr (.inl o.2.2.1.1)))] := hD
  refine lv_aload_n hx hb dX8_copyFrom_49 rfl (lv_at hl 0 rfl) ?_
  refine lv_aload_n hx hb dX8_copyFrom_50 rfl (lv_at hl 1 rfl) ?_
  refine va_get (D := D) (ci := 8) (v := .int o.2.2.2.2.2) (C := RX8) (T := TX8) (N := 6) hx hb hts hinX8 hown hK hP 7 rfl rfl 5 (by decide) (hts (.fieldLink RX8 38 "GyroTrainer$Swings" "found" "I") (List.mem_of_getElem? (i := 6) rfl)) (fun _ h9 => h9) rfl dX8_copyFrom_51 ?_
  refine va_put (D := D) (ci := 8) (v := .int o.2.2.2.2.2) (ty := .int) (C := RX8) (T := TX8) (N := 6) hx hb hts hinX8 tyX8 tyX8_ok nmX8 hown hK hP hD hS 0 rfl rfl 5 (by decide) (hts (.fieldLink RX8 38 "GyroTrainer$Swings" "found" "I") (List.mem_of_getElem? (i := 6) rfl)) (fun _ h9 => h9) rfl (by decide +kernel) rfl rfl (Nat.le_of_ble_eq_true rfl) dX8_copyFrom_54 (fun H locs hP hD hS => ?_)
  have hP : va_P D vwCl [(h0, .inr (8, [.ref h1, .ref h3, .ref h5, .long o.2.2.2.1, .int o.2.2.2.2.1, .int o.2.2.2.2.2])), (h1, .inr (2, [.ref h2, .int u_1.2])), (h2, .inl ((cA 0), 8, .inr (.inl u_1.1))), (h3, .inr (2, [.ref h4, .int u_3.2])), (h4, .inl ((cA 0), 8, .inr (.inl u_3.1))), (h5, .inr (2, [.ref h6, .int u_5.2])), (h6, .inl ((cA 0), 8, .inr (.inl u_5.1))), (h7, .inr (8, [.ref h8, .ref h10, .ref h12, .long o.2.2.2.1, .int o.2.2.2.2.1, .int o.2.2.2.2.2])), (h8, .inr (2, [.ref h9, .int o.1.2])), (h9, .inl ((cA 0), 8, .inr (.inl o.1.1))), (h10, .inr (2, [.ref h11, .int o.2.1.2])), (h11, .inl ((cA 0), 8, .inr (.inl o.2.1.1))), (h12, .inr (2, [.ref h13, .int o.2.2.1.2])), (h13, .inl ((cA 0), 8, .inr (.inl o.2.2.1.1)))] H := hP
  have hD : va_D A [(h0, .inr (8, [.ref h1, .ref h3, .ref h5, .long o.2.2.2.1, .int o.2.2.2.2.1, .int o.2.2.2.2.2])), (h1, .inr (2, [.ref h2, .int u_1.2])), (h2, .inl ((cA 0), 8, .inr (.inl u_1.1))), (h3, .inr (2, [.ref h4, .int u_3.2])), (h4, .inl ((cA 0), 8, .inr (.inl u_3.1))), (h5, .inr (2, [.ref h6, .int u_5.2])), (h6, .inl ((cA 0), 8, .inr (.inl u_5.1))), (h7, .inr (8, [.ref h8, .ref h10, .ref h12, .long o.2.2.2.1, .int o.2.2.2.2.1, .int o.2.2.2.2.2])), (h8, .inr (2, [.ref h9, .int o.1.2])), (h9, .inl ((cA 0), 8, .inr (.inl o.1.1))), (h10, .inr (2, [.ref h11, .int o.2.1.2])), (h11, .inl ((cA 0), 8, .inr (.inl o.2.1.1))), (h12, .inr (2, [.ref h13, .int o.2.2.1.2])), (h13, .inl ((cA 0), 8, .inr (.inl o.2.2.1.1)))] := hD
  have e9 : o = (u_1, u_3, u_5, o.2.2.2.1, o.2.2.2.2.1, o.2.2.2.2.2) := by subst eu_1; subst eu_3; subst eu_5; rfl
  have hP9 : va_P D vwCl (wX8 cA h0 h1 h2 h3 h4 h5 h6 ((u_1, u_3, u_5, o.2.2.2.1, o.2.2.2.2.1, o.2.2.2.2.2) : vX8) ++ wX8 cA h7 h8 h9 h10 h11 h12 h13 o) H := hP
  have hD9 : va_D A (wX8 cA h0 h1 h2 h3 h4 h5 h6 ((u_1, u_3, u_5, o.2.2.2.1, o.2.2.2.2.1, o.2.2.2.2.2) : vX8) ++ wX8 cA h7 h8 h9 h10 h11 h12 h13 o) := hD
  subst hQ
  exact W.vret hx hb hr (fun t ht hW => ⟨⟨(u_1, u_3, u_5, o.2.2.2.1, o.2.2.2.2.1, o.2.2.2.2.2), rfl, e9.symm, ⟨by rw [ht]; exact hP9, va_K.moved hW.alike hK, hD9⟩⟩, hS.F ht⟩) hS.2.2 dX8_copyFrom_57
set_option maxHeartbeats 4000000 in
set_option maxRecDepth 100000 in
theorem c_X8_forget (l : Launch) (D : va_G) (cA : Nat → ClassId) (h0 h1 h2 h3 h4 h5 h6 : Nat) (sz : Nat) (v : vX8)  : Met l yX8_forget wsX8_forget ({ frames := 1, cells := 0, slots := 0, locals := 20 }) (va_Pc [.ref h0] (zPre D (zty cA) (wX8 cA h0 h1 h2 h3 h4 h5 h6 v) sz)) (va_Qv (fun (u : vX8) => u = (zf_forget v)) (fun u => zPost D (zty cA) (va_A (wX8 cA h0 h1 h2 h3 h4 h5 h6 v) sz) (wX8 cA h0 h1 h2 h3 h4 h5 h6 u)) (va_A (wX8 cA h0 h1 h2 h3 h4 h5 h6 v) sz)) 0 0 (va_A (wX8 cA h0 h1 h2 h3 h4 h5 h6 v) sz) := by
  refine Met.ofW (cc := cX8_forget) (maxL := 1) (ret := none) (by decide) rfl ?_
  intro p e s m args below meth c s₁ B hml hv
  obtain ⟨rfl, hsz, hP, hK, hD0, hE⟩ := hv
  have hx := B.exec
  have hb := B.bytes
  have hr := B.returns
  have hts := atoms_spec (ws := wsX8_forget) B.pre
  have hown : s.vm.findClass RX8 = some m.cls := findClass_of_methodNamed B.named
  have hlocks := B.notSynchronized
  have hinX8 : ∀ w ∈ u_ws RX8 TX8 6, w ∈ wsX8_forget := fun w h => List.mem_cons_of_mem _ (List.mem_append_left _ (List.mem_append_right _ h))
  have hinX2 : ∀ w ∈ u_ws RX2 TX2 2, w ∈ wsX8_forget := fun w h => List.mem_cons_of_mem _ (List.mem_append_right _ h)
  subst hsz
  have hD := hD0.self (sz := s.heap.size)
  generalize hAe : va_A (wX8 cA h0 h1 h2 h3 h4 h5 h6 v) s.heap.size = A at hD hE ⊢
  have hA : ∀ q : Nat, s.heap.size ≤ q → A q := fun q h => by rw [← hAe]; exact Or.inr h
  have hS : va_S A s.heap s.heap [] := va_S.rf
  have hN : zN s := hE.1
  have hP : va_P D vwCl [(h0, .inr (8, [.ref h1, .ref h3, .ref h5, .long v.2.2.2.1, .int v.2.2.2.2.1, .int v.2.2.2.2.2])), (h1, .inr (2, [.ref h2, .int v.1.2])), (h2, .inl ((cA 0), 8, .inr (.inl v.1.1))), (h3, .inr (2, [.ref h4, .int v.2.1.2])), (h4, .inl ((cA 0), 8, .inr (.inl v.2.1.1))), (h5, .inr (2, [.ref h6, .int v.2.2.1.2])), (h6, .inl ((cA 0), 8, .inr (.inl v.2.2.1.1)))] s.heap := hP
  have hD : va_D A [(h0, .inr (8, [.ref h1, .ref h3, .ref h5, .long v.2.2.2.1, .int v.2.2.2.2.1, .int v.2.2.2.2.2])), (h1, .inr (2, [.ref h2, .int v.1.2])), (h2, .inl ((cA 0), 8, .inr (.inl v.1.1))), (h3, .inr (2, [.ref h4, .int v.2.1.2])), (h4, .inl ((cA 0), 8, .inr (.inl v.2.1.1))), (h5, .inr (2, [.ref h6, .int v.2.2.1.2])), (h6, .inl ((cA 0), 8, .inr (.inl v.2.2.1.1)))] := hD
  have hl := lv_entry ([.ref h0]) (n := 1) (Nat.le_of_ble_eq_true rfl)
  rw [lg_entry_eq]
  generalize (lg_sl ([.ref h0]) ++ List.replicate (1 - (lg_sl ([.ref h0])).length) Slot.unset).toArray = ls at hl ⊢
  have hl : lv_has ls 1 [(0, .ref h0)] := hl
  refine z_genQ (fun Q hQ => ?_)
  refine lv_aload_n hx hb dX8_forget_0 rfl (lv_at hl 0 rfl) ?_
  refine va_get (D := D) (ci := 8) (v := .ref h1) (C := RX8) (T := TX8) (N := 6) hx hb hts hinX8 hown hK hP 0 rfl rfl 0 (by decide) (hts (.fieldLink RX8 14 "GyroTrainer$Swings" "errors" "LGyroTrainer$Latest;") (List.mem_of_getElem? (i := 1) rfl)) (fun _ h9 => h9) rfl dX8_forget_1 ?_
  refine z_Gv (wr := [(h0, .inr (8, [.ref h1, .ref h3, .ref h5, .long v.2.2.2.1, .int v.2.2.2.2.1, .int v.2.2.2.2.2])), (h3, .inr (2, [.ref h4, .int v.2.1.2])), (h4, .inl ((cA 0), 8, .inr (.inl v.2.1.1))), (h5, .inr (2, [.ref h6, .int v.2.2.1.2])), (h6, .inl ((cA 0), 8, .inr (.inl v.2.2.1.1)))]) (wt := (fun (u_1 : vX2) => [(h0, .inr (8, [.ref h1, .ref h3, .ref h5, .long v.2.2.2.1, .int v.2.2.2.2.1, .int v.2.2.2.2.2])), (h1, .inr (2, [.ref h2, .int u_1.2])), (h2, .inl ((cA 0), 8, .inr (.inl u_1.1))), (h3, .inr (2, [.ref h4, .int v.2.1.2])), (h4, .inl ((cA 0), 8, .inr (.inl v.2.1.1))), (h5, .inr (2, [.ref h6, .int v.2.2.1.2])), (h6, .inl ((cA 0), 8, .inr (.inl v.2.2.1.1)))])) (va_runV (As := []) (rest := []) ⟨hx, hb, hml, hown, hts⟩ (c_X2_clear l D cA h1 h2 s.heap.size 8 v.1) (cwV 0 hts gX8_forget_X2_clear rfl rfl rfl (by decide +kernel) ⟨Nat.le_of_ble_eq_true rfl, Nat.le_of_ble_eq_true rfl⟩) (zpV hK hP hD hS hA hE [1, 2] [0, 1, 2, 3, 4] rfl (by decide) rfl 0 rfl rfl) rfl rfl hl.1 rfl (lv_room (Nat.le_of_ble_eq_true rfl)) dX8_forget_4 ⟨Nat.le_of_ble_eq_true rfl, Nat.le_of_ble_eq_true rfl⟩) hP hD hS hA [1, 2] [0, 3, 4, 5, 6] [0, 5, 6, 1, 2, 3, 4] rfl rfl (by decide) (fun _ => rfl) (fun u_1 H locs eu_1 hP hD hS => ?_)
  have hP : va_P D vwCl [(h0, .inr (8, [.ref h1, .ref h3, .ref h5, .long v.2.2.2.1, .int v.2.2.2.2.1, .int v.2.2.2.2.2])), (h1, .inr (2, [.ref h2, .int u_1.2])), (h2, .inl ((cA 0), 8, .inr (.inl u_1.1))), (h3, .inr (2, [.ref h4, .int v.2.1.2])), (h4, .inl ((cA 0), 8, .inr (.inl v.2.1.1))), (h5, .inr (2, [.ref h6, .int v.2.2.1.2])), (h6, .inl ((cA 0), 8, .inr (.inl v.2.2.1.1)))] H := hP
  have hD : va_D A [(h0, .inr (8, [.ref h1, .ref h3, .ref h5, .long v.2.2.2.1, .int v.2.2.2.2.1, .int v.2.2.2.2.2])), (h1, .inr (2, [.ref h2, .int u_1.2])), (h2, .inl ((cA 0), 8, .inr (.inl u_1.1))), (h3, .inr (2, [.ref h4, .int v.2.1.2])), (h4, .inl ((cA 0), 8, .inr (.inl v.2.1.1))), (h5, .inr (2, [.ref h6, .int v.2.2.1.2])), (h6, .inl ((cA 0), 8, .inr (.inl v.2.2.1.1)))] := hD
  refine lv_aload_n hx hb dX8_forget_7 rfl (lv_at hl 0 rfl) ?_
  refine va_get (D := D) (ci := 8) (v := .ref h3) (C := RX8) (T := TX8) (N := 6) hx hb hts hinX8 hown hK hP 0 rfl rfl 1 (by decide) (hts (.fieldLink RX8 20 "GyroTrainer$Swings" "times" "LGyroTrainer$Latest;") (List.mem_of_getElem? (i := 2) rfl)) (fun _ h9 => h9) rfl dX8_forget_8 ?_
  refine z_Gv (wr := [(h0, .inr (8, [.ref h1, .ref h3, .ref h5, .long v.2.2.2.1, .int v.2.2.2.2.1, .int v.2.2.2.2.2])), (h1, .inr (2, [.ref h2, .int u_1.2])), (h2, .inl ((cA 0), 8, .inr (.inl u_1.1))), (h5, .inr (2, [.ref h6, .int v.2.2.1.2])), (h6, .inl ((cA 0), 8, .inr (.inl v.2.2.1.1)))]) (wt := (fun (u_3 : vX2) => [(h0, .inr (8, [.ref h1, .ref h3, .ref h5, .long v.2.2.2.1, .int v.2.2.2.2.1, .int v.2.2.2.2.2])), (h1, .inr (2, [.ref h2, .int u_1.2])), (h2, .inl ((cA 0), 8, .inr (.inl u_1.1))), (h3, .inr (2, [.ref h4, .int u_3.2])), (h4, .inl ((cA 0), 8, .inr (.inl u_3.1))), (h5, .inr (2, [.ref h6, .int v.2.2.1.2])), (h6, .inl ((cA 0), 8, .inr (.inl v.2.2.1.1)))])) (va_runV (As := []) (rest := []) ⟨hx, hb, hml, hown, hts⟩ (c_X2_clear l D cA h3 h4 H.size 8 v.2.1) (cwV 0 hts gX8_forget_X2_clear rfl rfl rfl (by decide +kernel) ⟨Nat.le_of_ble_eq_true rfl, Nat.le_of_ble_eq_true rfl⟩) (zpV hK hP hD hS hA hE [3, 4] [0, 1, 2, 3, 4] rfl (by decide) rfl 0 rfl rfl) rfl rfl hl.1 rfl (lv_room (Nat.le_of_ble_eq_true rfl)) dX8_forget_11 ⟨Nat.le_of_ble_eq_true rfl, Nat.le_of_ble_eq_true rfl⟩) hP hD hS hA [3, 4] [0, 1, 2, 5, 6] [0, 1, 2, 5, 6, 3, 4] rfl rfl (by decide) (fun _ => rfl) (fun u_3 H locs eu_3 hP hD hS => ?_)
  have hP : va_P D vwCl [(h0, .inr (8, [.ref h1, .ref h3, .ref h5, .long v.2.2.2.1, .int v.2.2.2.2.1, .int v.2.2.2.2.2])), (h1, .inr (2, [.ref h2, .int u_1.2])), (h2, .inl ((cA 0), 8, .inr (.inl u_1.1))), (h3, .inr (2, [.ref h4, .int u_3.2])), (h4, .inl ((cA 0), 8, .inr (.inl u_3.1))), (h5, .inr (2, [.ref h6, .int v.2.2.1.2])), (h6, .inl ((cA 0), 8, .inr (.inl v.2.2.1.1)))] H := hP
  have hD : va_D A [(h0, .inr (8, [.ref h1, .ref h3, .ref h5, .long v.2.2.2.1, .int v.2.2.2.2.1, .int v.2.2.2.2.2])), (h1, .inr (2, [.ref h2, .int u_1.2])), (h2, .inl ((cA 0), 8, .inr (.inl u_1.1))), (h3, .inr (2, [.ref h4, .int u_3.2])), (h4, .inl ((cA 0), 8, .inr (.inl u_3.1))), (h5, .inr (2, [.ref h6, .int v.2.2.1.2])), (h6, .inl ((cA 0), 8, .inr (.inl v.2.2.1.1)))] := hD
  refine lv_aload_n hx hb dX8_forget_14 rfl (lv_at hl 0 rfl) ?_
  refine va_get (D := D) (ci := 8) (v := .ref h5) (C := RX8) (T := TX8) (N := 6) hx hb hts hinX8 hown hK hP 0 rfl rfl 2 (by decide) (hts (.fieldLink RX8 23 "GyroTrainer$Swings" "sums" "LGyroTrainer$Latest;") (List.mem_of_getElem? (i := 3) rfl)) (fun _ h9 => h9) rfl dX8_forget_15 ?_
  refine z_Gv (wr := [(h0, .inr (8, [.ref h1, .ref h3, .ref h5, .long v.2.2.2.1, .int v.2.2.2.2.1, .int v.2.2.2.2.2])), (h1, .inr (2, [.ref h2, .int u_1.2])), (h2, .inl ((cA 0), 8, .inr (.inl u_1.1))), (h3, .inr (2, [.ref h4, .int u_3.2])), (h4, .inl ((cA 0), 8, .inr (.inl u_3.1)))]) (wt := (fun (u_5 : vX2) => [(h0, .inr (8, [.ref h1, .ref h3, .ref h5, .long v.2.2.2.1, .int v.2.2.2.2.1, .int v.2.2.2.2.2])), (h1, .inr (2, [.ref h2, .int u_1.2])), (h2, .inl ((cA 0), 8, .inr (.inl u_1.1))), (h3, .inr (2, [.ref h4, .int u_3.2])), (h4, .inl ((cA 0), 8, .inr (.inl u_3.1))), (h5, .inr (2, [.ref h6, .int u_5.2])), (h6, .inl ((cA 0), 8, .inr (.inl u_5.1)))])) (va_runV (As := []) (rest := []) ⟨hx, hb, hml, hown, hts⟩ (c_X2_clear l D cA h5 h6 H.size 8 v.2.2.1) (cwV 0 hts gX8_forget_X2_clear rfl rfl rfl (by decide +kernel) ⟨Nat.le_of_ble_eq_true rfl, Nat.le_of_ble_eq_true rfl⟩) (zpV hK hP hD hS hA hE [5, 6] [0, 1, 2, 3, 4] rfl (by decide) rfl 0 rfl rfl) rfl rfl hl.1 rfl (lv_room (Nat.le_of_ble_eq_true rfl)) dX8_forget_18 ⟨Nat.le_of_ble_eq_true rfl, Nat.le_of_ble_eq_true rfl⟩) hP hD hS hA [5, 6] [0, 1, 2, 3, 4] [0, 1, 2, 3, 4, 5, 6] rfl rfl (by decide) (fun _ => rfl) (fun u_5 H locs eu_5 hP hD hS => ?_)
  have hP : va_P D vwCl [(h0, .inr (8, [.ref h1, .ref h3, .ref h5, .long v.2.2.2.1, .int v.2.2.2.2.1, .int v.2.2.2.2.2])), (h1, .inr (2, [.ref h2, .int u_1.2])), (h2, .inl ((cA 0), 8, .inr (.inl u_1.1))), (h3, .inr (2, [.ref h4, .int u_3.2])), (h4, .inl ((cA 0), 8, .inr (.inl u_3.1))), (h5, .inr (2, [.ref h6, .int u_5.2])), (h6, .inl ((cA 0), 8, .inr (.inl u_5.1)))] H := hP
  have hD : va_D A [(h0, .inr (8, [.ref h1, .ref h3, .ref h5, .long v.2.2.2.1, .int v.2.2.2.2.1, .int v.2.2.2.2.2])), (h1, .inr (2, [.ref h2, .int u_1.2])), (h2, .inl ((cA 0), 8, .inr (.inl u_1.1))), (h3, .inr (2, [.ref h4, .int u_3.2])), (h4, .inl ((cA 0), 8, .inr (.inl u_3.1))), (h5, .inr (2, [.ref h6, .int u_5.2])), (h6, .inl ((cA 0), 8, .inr (.inl u_5.1)))] := hD
  refine lv_aload_n hx hb dX8_forget_21 rfl (lv_at hl 0 rfl) ?_
  refine lv_iconst (v := 0) hx hb dX8_forget_22 (by decide) ?_
  refine va_put (D := D) (ci := 8) (v := .int (0 : Int32)) (ty := .int) (C := RX8) (T := TX8) (N := 6) hx hb hts hinX8 tyX8 tyX8_ok nmX8 hown hK hP hD hS 0 rfl rfl 4 (by decide) (hts (.fieldLink RX8 34 "GyroTrainer$Swings" "direction" "I") (List.mem_of_getElem? (i := 4) rfl)) (fun _ h9 => h9) rfl (by decide +kernel) rfl rfl (Nat.le_of_ble_eq_true rfl) dX8_forget_23 (fun H locs hP hD hS => ?_)
  have hP : va_P D vwCl [(h0, .inr (8, [.ref h1, .ref h3, .ref h5, .long v.2.2.2.1, .int (0 : Int32), .int v.2.2.2.2.2])), (h1, .inr (2, [.ref h2, .int u_1.2])), (h2, .inl ((cA 0), 8, .inr (.inl u_1.1))), (h3, .inr (2, [.ref h4, .int u_3.2])), (h4, .inl ((cA 0), 8, .inr (.inl u_3.1))), (h5, .inr (2, [.ref h6, .int u_5.2])), (h6, .inl ((cA 0), 8, .inr (.inl u_5.1)))] H := hP
  have hD : va_D A [(h0, .inr (8, [.ref h1, .ref h3, .ref h5, .long v.2.2.2.1, .int (0 : Int32), .int v.2.2.2.2.2])), (h1, .inr (2, [.ref h2, .int u_1.2])), (h2, .inl ((cA 0), 8, .inr (.inl u_1.1))), (h3, .inr (2, [.ref h4, .int u_3.2])), (h4, .inl ((cA 0), 8, .inr (.inl u_3.1))), (h5, .inr (2, [.ref h6, .int u_5.2])), (h6, .inl ((cA 0), 8, .inr (.inl u_5.1)))] := hD
  have e9 : (zf_forget v) = (u_1, u_3, u_5, v.2.2.2.1, (0 : Int32), v.2.2.2.2.2) := by subst eu_1; subst eu_3; subst eu_5; rfl
  have hP9 : va_P D vwCl (wX8 cA h0 h1 h2 h3 h4 h5 h6 ((u_1, u_3, u_5, v.2.2.2.1, (0 : Int32), v.2.2.2.2.2) : vX8)) H := hP
  have hD9 : va_D A (wX8 cA h0 h1 h2 h3 h4 h5 h6 ((u_1, u_3, u_5, v.2.2.2.1, (0 : Int32), v.2.2.2.2.2) : vX8)) := hD
  subst hQ
  exact W.vret hx hb hr (fun t ht hW => ⟨⟨(u_1, u_3, u_5, v.2.2.2.1, (0 : Int32), v.2.2.2.2.2), rfl, e9.symm, ⟨by rw [ht]; exact hP9, va_K.moved hW.alike hK, hD9⟩⟩, hS.F ht⟩) hS.2.2 dX8_forget_26
set_option maxHeartbeats 4000000 in
set_option maxRecDepth 100000 in
theorem c_X8_follow (l : Launch) (D : va_G) (cA : Nat → ClassId) (h0 h1 h2 h3 h4 h5 h6 : Nat) (sz : Nat) (v : vX8) (y0 : Int64) (y1 : Int64) (y2 : Int64)  : Met l yX8_follow wsX8_follow ({ frames := 2, cells := 0, slots := 0, locals := 46 }) (va_Pc [.ref h0, .long y0, .long y1, .long y2] (zPre D (zty cA) (wX8 cA h0 h1 h2 h3 h4 h5 h6 v) sz)) (va_Qv (fun (u : vX8) => u = (zf_follow v y0 y1 y2)) (fun u => zPost D (zty cA) (va_A (wX8 cA h0 h1 h2 h3 h4 h5 h6 v) sz) (wX8 cA h0 h1 h2 h3 h4 h5 h6 u)) (va_A (wX8 cA h0 h1 h2 h3 h4 h5 h6 v) sz)) 0 0 (va_A (wX8 cA h0 h1 h2 h3 h4 h5 h6 v) sz) := by
  refine Met.ofW (cc := cX8_follow) (maxL := 8) (ret := none) (by decide) rfl ?_
  intro p e s m args below meth c s₁ B hml hv
  obtain ⟨rfl, hsz, hP, hK, hD0, hE⟩ := hv
  have hx := B.exec
  have hb := B.bytes
  have hr := B.returns
  have hts := atoms_spec (ws := wsX8_follow) B.pre
  have hown : s.vm.findClass RX8 = some m.cls := findClass_of_methodNamed B.named
  have hlocks := B.notSynchronized
  have hinX8 : ∀ w ∈ u_ws RX8 TX8 6, w ∈ wsX8_follow := fun w h => List.mem_cons_of_mem _ (List.mem_append_left _ (List.mem_append_right _ h))
  have hinX2 : ∀ w ∈ u_ws RX2 TX2 2, w ∈ wsX8_follow := fun w h => List.mem_cons_of_mem _ (List.mem_append_right _ h)
  subst hsz
  have hD := hD0.self (sz := s.heap.size)
  generalize hAe : va_A (wX8 cA h0 h1 h2 h3 h4 h5 h6 v) s.heap.size = A at hD hE ⊢
  have hA : ∀ q : Nat, s.heap.size ≤ q → A q := fun q h => by rw [← hAe]; exact Or.inr h
  have hS : va_S A s.heap s.heap [] := va_S.rf
  have hN : zN s := hE.1
  have hP : va_P D vwCl [(h0, .inr (8, [.ref h1, .ref h3, .ref h5, .long v.2.2.2.1, .int v.2.2.2.2.1, .int v.2.2.2.2.2])), (h1, .inr (2, [.ref h2, .int v.1.2])), (h2, .inl ((cA 0), 8, .inr (.inl v.1.1))), (h3, .inr (2, [.ref h4, .int v.2.1.2])), (h4, .inl ((cA 0), 8, .inr (.inl v.2.1.1))), (h5, .inr (2, [.ref h6, .int v.2.2.1.2])), (h6, .inl ((cA 0), 8, .inr (.inl v.2.2.1.1)))] s.heap := hP
  have hD : va_D A [(h0, .inr (8, [.ref h1, .ref h3, .ref h5, .long v.2.2.2.1, .int v.2.2.2.2.1, .int v.2.2.2.2.2])), (h1, .inr (2, [.ref h2, .int v.1.2])), (h2, .inl ((cA 0), 8, .inr (.inl v.1.1))), (h3, .inr (2, [.ref h4, .int v.2.1.2])), (h4, .inl ((cA 0), 8, .inr (.inl v.2.1.1))), (h5, .inr (2, [.ref h6, .int v.2.2.1.2])), (h6, .inl ((cA 0), 8, .inr (.inl v.2.2.1.1)))] := hD
  have hl := lv_entry ([.ref h0, .long y0, .long y1, .long y2]) (n := 8) (Nat.le_of_ble_eq_true rfl)
  rw [lg_entry_eq]
  generalize (lg_sl ([.ref h0, .long y0, .long y1, .long y2]) ++ List.replicate (8 - (lg_sl ([.ref h0, .long y0, .long y1, .long y2])).length) Slot.unset).toArray = ls at hl ⊢
  have hl : lv_has ls 8 [(0, .ref h0), (1, .long y0), (3, .long y1), (5, .long y2)] := hl
  refine z_genQ (fun Q hQ => ?_)
  refine lv_lload_n hx hb dX8_follow_0 rfl (lv_at hl 2 rfl) ?_
  refine lv_lload_n hx hb dX8_follow_1 rfl (lv_at hl 1 rfl) ?_
  refine W.lcmp hx hb dX8_follow_2 ?_
  refine lv_if_eq (tgt := 73) hx hb dX8_follow_3 (by decide) (fun kc_1 => ?_) (fun kc_1 => ?_)
  · skip
    have c_1 : y1 = y0 := (lg_cmp_eq _ _).mp kc_1
    refine lv_aload_n hx hb dX8_follow_73 rfl (lv_at hl 0 rfl) ?_
    refine lv_dup hx hb dX8_follow_74 rfl ?_
    refine va_get (D := D) (ci := 8) (v := .long v.2.2.2.1) (C := RX8) (T := TX8) (N := 6) hx hb hts hinX8 hown hK hP 0 rfl rfl 3 (by decide) (hts (.fieldLink RX8 30 "GyroTrainer$Swings" "sum" "J") (List.mem_of_getElem? (i := 5) rfl)) (fun _ h9 => h9) rfl dX8_follow_75 ?_
    refine lv_lload_n hx hb dX8_follow_78 rfl (lv_at hl 2 rfl) ?_
    refine lv_ladd hx hb dX8_follow_79 ?_
    refine lv_topl (fun g_2 eg_2 => ?_)
    refine va_put (D := D) (ci := 8) (v := .long g_2) (ty := .long) (C := RX8) (T := TX8) (N := 6) hx hb hts hinX8 tyX8 tyX8_ok nmX8 hown hK hP hD hS 0 rfl rfl 3 (by decide) (hts (.fieldLink RX8 30 "GyroTrainer$Swings" "sum" "J") (List.mem_of_getElem? (i := 5) rfl)) (fun _ h9 => h9) rfl (by decide +kernel) rfl rfl (Nat.le_of_ble_eq_true rfl) dX8_follow_80 (fun H locs hP hD hS => ?_)
    have hP : va_P D vwCl [(h0, .inr (8, [.ref h1, .ref h3, .ref h5, .long g_2, .int v.2.2.2.2.1, .int v.2.2.2.2.2])), (h1, .inr (2, [.ref h2, .int v.1.2])), (h2, .inl ((cA 0), 8, .inr (.inl v.1.1))), (h3, .inr (2, [.ref h4, .int v.2.1.2])), (h4, .inl ((cA 0), 8, .inr (.inl v.2.1.1))), (h5, .inr (2, [.ref h6, .int v.2.2.1.2])), (h6, .inl ((cA 0), 8, .inr (.inl v.2.2.1.1)))] H := hP
    have hD : va_D A [(h0, .inr (8, [.ref h1, .ref h3, .ref h5, .long g_2, .int v.2.2.2.2.1, .int v.2.2.2.2.2])), (h1, .inr (2, [.ref h2, .int v.1.2])), (h2, .inl ((cA 0), 8, .inr (.inl v.1.1))), (h3, .inr (2, [.ref h4, .int v.2.1.2])), (h4, .inl ((cA 0), 8, .inr (.inl v.2.1.1))), (h5, .inr (2, [.ref h6, .int v.2.2.1.2])), (h6, .inl ((cA 0), 8, .inr (.inl v.2.2.1.1)))] := hD
    have e9 : (zf_follow v y0 y1 y2) = (v.1, v.2.1, v.2.2.1, g_2, v.2.2.2.2.1, v.2.2.2.2.2) := by subst eg_2; unfold zf_follow zf_dir; simp only [if_pos c_1] <;> rfl
    have hP9 : va_P D vwCl (wX8 cA h0 h1 h2 h3 h4 h5 h6 ((v.1, v.2.1, v.2.2.1, g_2, v.2.2.2.2.1, v.2.2.2.2.2) : vX8)) H := hP
    have hD9 : va_D A (wX8 cA h0 h1 h2 h3 h4 h5 h6 ((v.1, v.2.1, v.2.2.1, g_2, v.2.2.2.2.1, v.2.2.2.2.2) : vX8)) := hD
    subst hQ
    exact W.vret hx hb hr (fun t ht hW => ⟨⟨(v.1, v.2.1, v.2.2.1, g_2, v.2.2.2.2.1, v.2.2.2.2.2), rfl, e9.symm, ⟨by rw [ht]; exact hP9, va_K.moved hW.alike hK, hD9⟩⟩, hS.F ht⟩) hS.2.2 dX8_follow_83
  · skip
    have c_1 : ¬ (y1 = y0) := fun h => kc_1 ((lg_cmp_eq _ _).mpr h)
    refine lv_lload_n hx hb dX8_follow_6 rfl (lv_at hl 2 rfl) ?_
    refine lv_lload_n hx hb dX8_follow_7 rfl (lv_at hl 1 rfl) ?_
    refine W.lcmp hx hb dX8_follow_8 ?_
    refine lv_if_le (tgt := 16) hx hb dX8_follow_9 (by decide) (fun kc_3 => ?_) (fun kc_3 => ?_)
    · skip
      have c_3 : y1 ≤ y0 := (lg_cmp_le _ _).mp kc_3
      refine lv_iconst (v := -1) hx hb dX8_follow_16 (by decide) ?_
      refine lv_istore (lv' := [(7, .int (-1 : Int32)), (0, .ref h0), (1, .long y0), (3, .long y1), (5, .long y2)]) hx hb dX8_follow_17 hl (by decide) rfl (fun ls hl => ?_)
      refine lv_aload_n hx hb dX8_follow_19 rfl (lv_at hl 1 rfl) ?_
      refine va_get (D := D) (ci := 8) (v := .int v.2.2.2.2.1) (C := RX8) (T := TX8) (N := 6) hx hb hts hinX8 hown hK hP 0 rfl rfl 4 (by decide) (hts (.fieldLink RX8 34 "GyroTrainer$Swings" "direction" "I") (List.mem_of_getElem? (i := 1) rfl)) (fun _ h9 => h9) rfl dX8_follow_20 ?_
      refine lv_iload hx hb dX8_follow_23 (lv_at hl 0 rfl) ?_
      refine lv_ineg hx hb dX8_follow_25 ?_
      refine lv_icmp_ne (tgt := 67) hx hb dX8_follow_26 (by decide) (fun c_4 => ?_) (fun c_4 => ?_)
      · skip
        refine lv_aload_n hx hb dX8_follow_67 rfl (lv_at hl 1 rfl) ?_
        refine lv_iload hx hb dX8_follow_68 (lv_at hl 0 rfl) ?_
        refine va_put (D := D) (ci := 8) (v := .int (-1 : Int32)) (ty := .int) (C := RX8) (T := TX8) (N := 6) hx hb hts hinX8 tyX8 tyX8_ok nmX8 hown hK hP hD hS 0 rfl rfl 4 (by decide) (hts (.fieldLink RX8 34 "GyroTrainer$Swings" "direction" "I") (List.mem_of_getElem? (i := 1) rfl)) (fun _ h9 => h9) rfl (by decide +kernel) rfl rfl (Nat.le_of_ble_eq_true rfl) dX8_follow_70 (fun H locs hP hD hS => ?_)
        have hP : va_P D vwCl [(h0, .inr (8, [.ref h1, .ref h3, .ref h5, .long v.2.2.2.1, .int (-1 : Int32), .int v.2.2.2.2.2])), (h1, .inr (2, [.ref h2, .int v.1.2])), (h2, .inl ((cA 0), 8, .inr (.inl v.1.1))), (h3, .inr (2, [.ref h4, .int v.2.1.2])), (h4, .inl ((cA 0), 8, .inr (.inl v.2.1.1))), (h5, .inr (2, [.ref h6, .int v.2.2.1.2])), (h6, .inl ((cA 0), 8, .inr (.inl v.2.2.1.1)))] H := hP
        have hD : va_D A [(h0, .inr (8, [.ref h1, .ref h3, .ref h5, .long v.2.2.2.1, .int (-1 : Int32), .int v.2.2.2.2.2])), (h1, .inr (2, [.ref h2, .int v.1.2])), (h2, .inl ((cA 0), 8, .inr (.inl v.1.1))), (h3, .inr (2, [.ref h4, .int v.2.1.2])), (h4, .inl ((cA 0), 8, .inr (.inl v.2.1.1))), (h5, .inr (2, [.ref h6, .int v.2.2.1.2])), (h6, .inl ((cA 0), 8, .inr (.inl v.2.2.1.1)))] := hD
        refine lv_aload_n hx hb dX8_follow_73 rfl (lv_at hl 1 rfl) ?_
        refine lv_dup hx hb dX8_follow_74 rfl ?_
        refine va_get (D := D) (ci := 8) (v := .long v.2.2.2.1) (C := RX8) (T := TX8) (N := 6) hx hb hts hinX8 hown hK hP 0 rfl rfl 3 (by decide) (hts (.fieldLink RX8 30 "GyroTrainer$Swings" "sum" "J") (List.mem_of_getElem? (i := 5) rfl)) (fun _ h9 => h9) rfl dX8_follow_75 ?_
        refine lv_lload_n hx hb dX8_follow_78 rfl (lv_at hl 3 rfl) ?_
        refine lv_ladd hx hb dX8_follow_79 ?_
        refine lv_topl (fun g_5 eg_5 => ?_)
        refine va_put (D := D) (ci := 8) (v := .long g_5) (ty := .long) (C := RX8) (T := TX8) (N := 6) hx hb hts hinX8 tyX8 tyX8_ok nmX8 hown hK hP hD hS 0 rfl rfl 3 (by decide) (hts (.fieldLink RX8 30 "GyroTrainer$Swings" "sum" "J") (List.mem_of_getElem? (i := 5) rfl)) (fun _ h9 => h9) rfl (by decide +kernel) rfl rfl (Nat.le_of_ble_eq_true rfl) dX8_follow_80 (fun H locs hP hD hS => ?_)
        have hP : va_P D vwCl [(h0, .inr (8, [.ref h1, .ref h3, .ref h5, .long g_5, .int (-1 : Int32), .int v.2.2.2.2.2])), (h1, .inr (2, [.ref h2, .int v.1.2])), (h2, .inl ((cA 0), 8, .inr (.inl v.1.1))), (h3, .inr (2, [.ref h4, .int v.2.1.2])), (h4, .inl ((cA 0), 8, .inr (.inl v.2.1.1))), (h5, .inr (2, [.ref h6, .int v.2.2.1.2])), (h6, .inl ((cA 0), 8, .inr (.inl v.2.2.1.1)))] H := hP
        have hD : va_D A [(h0, .inr (8, [.ref h1, .ref h3, .ref h5, .long g_5, .int (-1 : Int32), .int v.2.2.2.2.2])), (h1, .inr (2, [.ref h2, .int v.1.2])), (h2, .inl ((cA 0), 8, .inr (.inl v.1.1))), (h3, .inr (2, [.ref h4, .int v.2.1.2])), (h4, .inl ((cA 0), 8, .inr (.inl v.2.1.1))), (h5, .inr (2, [.ref h6, .int v.2.2.1.2])), (h6, .inl ((cA 0), 8, .inr (.inl v.2.2.1.1)))] := hD
        have e9 : (zf_follow v y0 y1 y2) = (v.1, v.2.1, v.2.2.1, g_5, (-1 : Int32), v.2.2.2.2.2) := by subst eg_5; unfold zf_follow zf_dir; simp only [if_neg c_1, if_pos c_3, if_neg c_4] <;> rfl
        have hP9 : va_P D vwCl (wX8 cA h0 h1 h2 h3 h4 h5 h6 ((v.1, v.2.1, v.2.2.1, g_5, (-1 : Int32), v.2.2.2.2.2) : vX8)) H := hP
        have hD9 : va_D A (wX8 cA h0 h1 h2 h3 h4 h5 h6 ((v.1, v.2.1, v.2.2.1, g_5, (-1 : Int32), v.2.2.2.2.2) : vX8)) := hD
        subst hQ
        exact W.vret hx hb hr (fun t ht hW => ⟨⟨(v.1, v.2.1, v.2.2.1, g_5, (-1 : Int32), v.2.2.2.2.2), rfl, e9.symm, ⟨by rw [ht]; exact hP9, va_K.moved hW.alike hK, hD9⟩⟩, hS.F ht⟩) hS.2.2 dX8_follow_83
      · skip
        refine lv_aload_n hx hb dX8_follow_29 rfl (lv_at hl 1 rfl) ?_
        refine va_get (D := D) (ci := 8) (v := .ref h1) (C := RX8) (T := TX8) (N := 6) hx hb hts hinX8 hown hK hP 0 rfl rfl 0 (by decide) (hts (.fieldLink RX8 14 "GyroTrainer$Swings" "errors" "LGyroTrainer$Latest;") (List.mem_of_getElem? (i := 2) rfl)) (fun _ h9 => h9) rfl dX8_follow_30 ?_
        refine lv_lload_n hx hb dX8_follow_33 rfl (lv_at hl 2 rfl) ?_
        refine z_Gv (wr := [(h0, .inr (8, [.ref h1, .ref h3, .ref h5, .long v.2.2.2.1, .int v.2.2.2.2.1, .int v.2.2.2.2.2])), (h3, .inr (2, [.ref h4, .int v.2.1.2])), (h4, .inl ((cA 0), 8, .inr (.inl v.2.1.1))), (h5, .inr (2, [.ref h6, .int v.2.2.1.2])), (h6, .inl ((cA 0), 8, .inr (.inl v.2.2.1.1)))]) (wt := (fun (u_6 : vX2) => [(h0, .inr (8, [.ref h1, .ref h3, .ref h5, .long v.2.2.2.1, .int v.2.2.2.2.1, .int v.2.2.2.2.2])), (h1, .inr (2, [.ref h2, .int u_6.2])), (h2, .inl ((cA 0), 8, .inr (.inl u_6.1))), (h3, .inr (2, [.ref h4, .int v.2.1.2])), (h4, .inl ((cA 0), 8, .inr (.inl v.2.1.1))), (h5, .inr (2, [.ref h6, .int v.2.2.1.2])), (h6, .inl ((cA 0), 8, .inr (.inl v.2.2.1.1)))])) (va_runV (As := [.long y0]) (rest := []) ⟨hx, hb, hml, hown, hts⟩ (c_X2_add l D cA h1 h2 s.heap.size 8 v.1 y0 (by decide) (by decide)) (cwV 1 hts gX8_follow_X2_add rfl rfl rfl (by decide +kernel) ⟨Nat.le_of_ble_eq_true rfl, Nat.le_of_ble_eq_true rfl⟩) (zpV hK hP hD hS hA hE [1, 2] [0, 1, 2, 3, 4] rfl (by decide) rfl 0 rfl rfl) rfl rfl hl.1 rfl (lv_room (Nat.le_of_ble_eq_true rfl)) dX8_follow_34 ⟨Nat.le_of_ble_eq_true rfl, Nat.le_of_ble_eq_true rfl⟩) hP hD hS hA [1, 2] [0, 3, 4, 5, 6] [0, 5, 6, 1, 2, 3, 4] rfl rfl (by decide) (fun _ => rfl) (fun u_6 H locs eu_6 hP hD hS => ?_)
        have hP : va_P D vwCl [(h0, .inr (8, [.ref h1, .ref h3, .ref h5, .long v.2.2.2.1, .int v.2.2.2.2.1, .int v.2.2.2.2.2])), (h1, .inr (2, [.ref h2, .int u_6.2])), (h2, .inl ((cA 0), 8, .inr (.inl u_6.1))), (h3, .inr (2, [.ref h4, .int v.2.1.2])), (h4, .inl ((cA 0), 8, .inr (.inl v.2.1.1))), (h5, .inr (2, [.ref h6, .int v.2.2.1.2])), (h6, .inl ((cA 0), 8, .inr (.inl v.2.2.1.1)))] H := hP
        have hD : va_D A [(h0, .inr (8, [.ref h1, .ref h3, .ref h5, .long v.2.2.2.1, .int v.2.2.2.2.1, .int v.2.2.2.2.2])), (h1, .inr (2, [.ref h2, .int u_6.2])), (h2, .inl ((cA 0), 8, .inr (.inl u_6.1))), (h3, .inr (2, [.ref h4, .int v.2.1.2])), (h4, .inl ((cA 0), 8, .inr (.inl v.2.1.1))), (h5, .inr (2, [.ref h6, .int v.2.2.1.2])), (h6, .inl ((cA 0), 8, .inr (.inl v.2.2.1.1)))] := hD
        refine lv_aload_n hx hb dX8_follow_37 rfl (lv_at hl 1 rfl) ?_
        refine va_get (D := D) (ci := 8) (v := .ref h3) (C := RX8) (T := TX8) (N := 6) hx hb hts hinX8 hown hK hP 0 rfl rfl 1 (by decide) (hts (.fieldLink RX8 20 "GyroTrainer$Swings" "times" "LGyroTrainer$Latest;") (List.mem_of_getElem? (i := 3) rfl)) (fun _ h9 => h9) rfl dX8_follow_38 ?_
        refine lv_lload hx hb dX8_follow_41 (lv_at hl 4 rfl) ?_
        refine z_Gv (wr := [(h0, .inr (8, [.ref h1, .ref h3, .ref h5, .long v.2.2.2.1, .int v.2.2.2.2.1, .int v.2.2.2.2.2])), (h1, .inr (2, [.ref h2, .int u_6.2])), (h2, .inl ((cA 0), 8, .inr (.inl u_6.1))), (h5, .inr (2, [.ref h6, .int v.2.2.1.2])), (h6, .inl ((cA 0), 8, .inr (.inl v.2.2.1.1)))]) (wt := (fun (u_8 : vX2) => [(h0, .inr (8, [.ref h1, .ref h3, .ref h5, .long v.2.2.2.1, .int v.2.2.2.2.1, .int v.2.2.2.2.2])), (h1, .inr (2, [.ref h2, .int u_6.2])), (h2, .inl ((cA 0), 8, .inr (.inl u_6.1))), (h3, .inr (2, [.ref h4, .int u_8.2])), (h4, .inl ((cA 0), 8, .inr (.inl u_8.1))), (h5, .inr (2, [.ref h6, .int v.2.2.1.2])), (h6, .inl ((cA 0), 8, .inr (.inl v.2.2.1.1)))])) (va_runV (As := [.long y2]) (rest := []) ⟨hx, hb, hml, hown, hts⟩ (c_X2_add l D cA h3 h4 H.size 8 v.2.1 y2 (by decide) (by decide)) (cwV 1 hts gX8_follow_X2_add rfl rfl rfl (by decide +kernel) ⟨Nat.le_of_ble_eq_true rfl, Nat.le_of_ble_eq_true rfl⟩) (zpV hK hP hD hS hA hE [3, 4] [0, 1, 2, 3, 4] rfl (by decide) rfl 0 rfl rfl) rfl rfl hl.1 rfl (lv_room (Nat.le_of_ble_eq_true rfl)) dX8_follow_43 ⟨Nat.le_of_ble_eq_true rfl, Nat.le_of_ble_eq_true rfl⟩) hP hD hS hA [3, 4] [0, 1, 2, 5, 6] [0, 1, 2, 5, 6, 3, 4] rfl rfl (by decide) (fun _ => rfl) (fun u_8 H locs eu_8 hP hD hS => ?_)
        have hP : va_P D vwCl [(h0, .inr (8, [.ref h1, .ref h3, .ref h5, .long v.2.2.2.1, .int v.2.2.2.2.1, .int v.2.2.2.2.2])), (h1, .inr (2, [.ref h2, .int u_6.2])), (h2, .inl ((cA 0), 8, .inr (.inl u_6.1))), (h3, .inr (2, [.ref h4, .int u_8.2])), (h4, .inl ((cA 0), 8, .inr (.inl u_8.1))), (h5, .inr (2, [.ref h6, .int v.2.2.1.2])), (h6, .inl ((cA 0), 8, .inr (.inl v.2.2.1.1)))] H := hP
        have hD : va_D A [(h0, .inr (8, [.ref h1, .ref h3, .ref h5, .long v.2.2.2.1, .int v.2.2.2.2.1, .int v.2.2.2.2.2])), (h1, .inr (2, [.ref h2, .int u_6.2])), (h2, .inl ((cA 0), 8, .inr (.inl u_6.1))), (h3, .inr (2, [.ref h4, .int u_8.2])), (h4, .inl ((cA 0), 8, .inr (.inl u_8.1))), (h5, .inr (2, [.ref h6, .int v.2.2.1.2])), (h6, .inl ((cA 0), 8, .inr (.inl v.2.2.1.1)))] := hD
        refine lv_aload_n hx hb dX8_follow_46 rfl (lv_at hl 1 rfl) ?_
        refine va_get (D := D) (ci := 8) (v := .ref h5) (C := RX8) (T := TX8) (N := 6) hx hb hts hinX8 hown hK hP 0 rfl rfl 2 (by decide) (hts (.fieldLink RX8 23 "GyroTrainer$Swings" "sums" "LGyroTrainer$Latest;") (List.mem_of_getElem? (i := 4) rfl)) (fun _ h9 => h9) rfl dX8_follow_47 ?_
        refine lv_aload_n hx hb dX8_follow_50 rfl (lv_at hl 1 rfl) ?_
        refine va_get (D := D) (ci := 8) (v := .long v.2.2.2.1) (C := RX8) (T := TX8) (N := 6) hx hb hts hinX8 hown hK hP 0 rfl rfl 3 (by decide) (hts (.fieldLink RX8 30 "GyroTrainer$Swings" "sum" "J") (List.mem_of_getElem? (i := 5) rfl)) (fun _ h9 => h9) rfl dX8_follow_51 ?_
        refine z_Gv (wr := [(h0, .inr (8, [.ref h1, .ref h3, .ref h5, .long v.2.2.2.1, .int v.2.2.2.2.1, .int v.2.2.2.2.2])), (h1, .inr (2, [.ref h2, .int u_6.2])), (h2, .inl ((cA 0), 8, .inr (.inl u_6.1))), (h3, .inr (2, [.ref h4, .int u_8.2])), (h4, .inl ((cA 0), 8, .inr (.inl u_8.1)))]) (wt := (fun (u_10 : vX2) => [(h0, .inr (8, [.ref h1, .ref h3, .ref h5, .long v.2.2.2.1, .int v.2.2.2.2.1, .int v.2.2.2.2.2])), (h1, .inr (2, [.ref h2, .int u_6.2])), (h2, .inl ((cA 0), 8, .inr (.inl u_6.1))), (h3, .inr (2, [.ref h4, .int u_8.2])), (h4, .inl ((cA 0), 8, .inr (.inl u_8.1))), (h5, .inr (2, [.ref h6, .int u_10.2])), (h6, .inl ((cA 0), 8, .inr (.inl u_10.1)))])) (va_runV (As := [.long v.2.2.2.1]) (rest := []) ⟨hx, hb, hml, hown, hts⟩ (c_X2_add l D cA h5 h6 H.size 8 v.2.2.1 v.2.2.2.1 (by decide) (by decide)) (cwV 1 hts gX8_follow_X2_add rfl rfl rfl (by decide +kernel) ⟨Nat.le_of_ble_eq_true rfl, Nat.le_of_ble_eq_true rfl⟩) (zpV hK hP hD hS hA hE [5, 6] [0, 1, 2, 3, 4] rfl (by decide) rfl 0 rfl rfl) rfl rfl hl.1 rfl (lv_room (Nat.le_of_ble_eq_true rfl)) dX8_follow_54 ⟨Nat.le_of_ble_eq_true rfl, Nat.le_of_ble_eq_true rfl⟩) hP hD hS hA [5, 6] [0, 1, 2, 3, 4] [0, 1, 2, 3, 4, 5, 6] rfl rfl (by decide) (fun _ => rfl) (fun u_10 H locs eu_10 hP hD hS => ?_)
        have hP : va_P D vwCl [(h0, .inr (8, [.ref h1, .ref h3, .ref h5, .long v.2.2.2.1, .int v.2.2.2.2.1, .int v.2.2.2.2.2])), (h1, .inr (2, [.ref h2, .int u_6.2])), (h2, .inl ((cA 0), 8, .inr (.inl u_6.1))), (h3, .inr (2, [.ref h4, .int u_8.2])), (h4, .inl ((cA 0), 8, .inr (.inl u_8.1))), (h5, .inr (2, [.ref h6, .int u_10.2])), (h6, .inl ((cA 0), 8, .inr (.inl u_10.1)))] H := hP
        have hD : va_D A [(h0, .inr (8, [.ref h1, .ref h3, .ref h5, .long v.2.2.2.1, .int v.2.2.2.2.1, .int v.2.2.2.2.2])), (h1, .inr (2, [.ref h2, .int u_6.2])), (h2, .inl ((cA 0), 8, .inr (.inl u_6.1))), (h3, .inr (2, [.ref h4, .int u_8.2])), (h4, .inl ((cA 0), 8, .inr (.inl u_8.1))), (h5, .inr (2, [.ref h6, .int u_10.2])), (h6, .inl ((cA 0), 8, .inr (.inl u_10.1)))] := hD
        refine lv_aload_n hx hb dX8_follow_57 rfl (lv_at hl 1 rfl) ?_
        refine lv_dup hx hb dX8_follow_58 rfl ?_
        refine va_get (D := D) (ci := 8) (v := .int v.2.2.2.2.2) (C := RX8) (T := TX8) (N := 6) hx hb hts hinX8 hown hK hP 0 rfl rfl 5 (by decide) (hts (.fieldLink RX8 38 "GyroTrainer$Swings" "found" "I") (List.mem_of_getElem? (i := 6) rfl)) (fun _ h9 => h9) rfl dX8_follow_59 ?_
        refine lv_iconst (v := 1) hx hb dX8_follow_62 (by decide) ?_
        refine lv_iadd hx hb dX8_follow_63 ?_
        refine lv_topi (fun g_12 eg_12 => ?_)
        refine va_put (D := D) (ci := 8) (v := .int g_12) (ty := .int) (C := RX8) (T := TX8) (N := 6) hx hb hts hinX8 tyX8 tyX8_ok nmX8 hown hK hP hD hS 0 rfl rfl 5 (by decide) (hts (.fieldLink RX8 38 "GyroTrainer$Swings" "found" "I") (List.mem_of_getElem? (i := 6) rfl)) (fun _ h9 => h9) rfl (by decide +kernel) rfl rfl (Nat.le_of_ble_eq_true rfl) dX8_follow_64 (fun H locs hP hD hS => ?_)
        have hP : va_P D vwCl [(h0, .inr (8, [.ref h1, .ref h3, .ref h5, .long v.2.2.2.1, .int v.2.2.2.2.1, .int g_12])), (h1, .inr (2, [.ref h2, .int u_6.2])), (h2, .inl ((cA 0), 8, .inr (.inl u_6.1))), (h3, .inr (2, [.ref h4, .int u_8.2])), (h4, .inl ((cA 0), 8, .inr (.inl u_8.1))), (h5, .inr (2, [.ref h6, .int u_10.2])), (h6, .inl ((cA 0), 8, .inr (.inl u_10.1)))] H := hP
        have hD : va_D A [(h0, .inr (8, [.ref h1, .ref h3, .ref h5, .long v.2.2.2.1, .int v.2.2.2.2.1, .int g_12])), (h1, .inr (2, [.ref h2, .int u_6.2])), (h2, .inl ((cA 0), 8, .inr (.inl u_6.1))), (h3, .inr (2, [.ref h4, .int u_8.2])), (h4, .inl ((cA 0), 8, .inr (.inl u_8.1))), (h5, .inr (2, [.ref h6, .int u_10.2])), (h6, .inl ((cA 0), 8, .inr (.inl u_10.1)))] := hD
        refine lv_aload_n hx hb dX8_follow_67 rfl (lv_at hl 1 rfl) ?_
        refine lv_iload hx hb dX8_follow_68 (lv_at hl 0 rfl) ?_
        refine va_put (D := D) (ci := 8) (v := .int (-1 : Int32)) (ty := .int) (C := RX8) (T := TX8) (N := 6) hx hb hts hinX8 tyX8 tyX8_ok nmX8 hown hK hP hD hS 0 rfl rfl 4 (by decide) (hts (.fieldLink RX8 34 "GyroTrainer$Swings" "direction" "I") (List.mem_of_getElem? (i := 1) rfl)) (fun _ h9 => h9) rfl (by decide +kernel) rfl rfl (Nat.le_of_ble_eq_true rfl) dX8_follow_70 (fun H locs hP hD hS => ?_)
        have hP : va_P D vwCl [(h0, .inr (8, [.ref h1, .ref h3, .ref h5, .long v.2.2.2.1, .int (-1 : Int32), .int g_12])), (h1, .inr (2, [.ref h2, .int u_6.2])), (h2, .inl ((cA 0), 8, .inr (.inl u_6.1))), (h3, .inr (2, [.ref h4, .int u_8.2])), (h4, .inl ((cA 0), 8, .inr (.inl u_8.1))), (h5, .inr (2, [.ref h6, .int u_10.2])), (h6, .inl ((cA 0), 8, .inr (.inl u_10.1)))] H := hP
        have hD : va_D A [(h0, .inr (8, [.ref h1, .ref h3, .ref h5, .long v.2.2.2.1, .int (-1 : Int32), .int g_12])), (h1, .inr (2, [.ref h2, .int u_6.2])), (h2, .inl ((cA 0), 8, .inr (.inl u_6.1))), (h3, .inr (2, [.ref h4, .int u_8.2])), (h4, .inl ((cA 0), 8, .inr (.inl u_8.1))), (h5, .inr (2, [.ref h6, .int u_10.2])), (h6, .inl ((cA 0), 8, .inr (.inl u_10.1)))] := hD
        refine lv_aload_n hx hb dX8_follow_73 rfl (lv_at hl 1 rfl) ?_
        refine lv_dup hx hb dX8_follow_74 rfl ?_
        refine va_get (D := D) (ci := 8) (v := .long v.2.2.2.1) (C := RX8) (T := TX8) (N := 6) hx hb hts hinX8 hown hK hP 0 rfl rfl 3 (by decide) (hts (.fieldLink RX8 30 "GyroTrainer$Swings" "sum" "J") (List.mem_of_getElem? (i := 5) rfl)) (fun _ h9 => h9) rfl dX8_follow_75 ?_
        refine lv_lload_n hx hb dX8_follow_78 rfl (lv_at hl 3 rfl) ?_
        refine lv_ladd hx hb dX8_follow_79 ?_
        refine lv_topl (fun g_13 eg_13 => ?_)
        refine va_put (D := D) (ci := 8) (v := .long g_13) (ty := .long) (C := RX8) (T := TX8) (N := 6) hx hb hts hinX8 tyX8 tyX8_ok nmX8 hown hK hP hD hS 0 rfl rfl 3 (by decide) (hts (.fieldLink RX8 30 "GyroTrainer$Swings" "sum" "J") (List.mem_of_getElem? (i := 5) rfl)) (fun _ h9 => h9) rfl (by decide +kernel) rfl rfl (Nat.le_of_ble_eq_true rfl) dX8_follow_80 (fun H locs hP hD hS => ?_)
        have hP : va_P D vwCl [(h0, .inr (8, [.ref h1, .ref h3, .ref h5, .long g_13, .int (-1 : Int32), .int g_12])), (h1, .inr (2, [.ref h2, .int u_6.2])), (h2, .inl ((cA 0), 8, .inr (.inl u_6.1))), (h3, .inr (2, [.ref h4, .int u_8.2])), (h4, .inl ((cA 0), 8, .inr (.inl u_8.1))), (h5, .inr (2, [.ref h6, .int u_10.2])), (h6, .inl ((cA 0), 8, .inr (.inl u_10.1)))] H := hP
        have hD : va_D A [(h0, .inr (8, [.ref h1, .ref h3, .ref h5, .long g_13, .int (-1 : Int32), .int g_12])), (h1, .inr (2, [.ref h2, .int u_6.2])), (h2, .inl ((cA 0), 8, .inr (.inl u_6.1))), (h3, .inr (2, [.ref h4, .int u_8.2])), (h4, .inl ((cA 0), 8, .inr (.inl u_8.1))), (h5, .inr (2, [.ref h6, .int u_10.2])), (h6, .inl ((cA 0), 8, .inr (.inl u_10.1)))] := hD
        have e9 : (zf_follow v y0 y1 y2) = (u_6, u_8, u_10, g_13, (-1 : Int32), g_12) := by subst eu_6; subst eu_8; subst eu_10; subst eg_12; subst eg_13; unfold zf_follow zf_dir; simp only [if_neg c_1, if_pos c_3, if_pos c_4] <;> rfl
        have hP9 : va_P D vwCl (wX8 cA h0 h1 h2 h3 h4 h5 h6 ((u_6, u_8, u_10, g_13, (-1 : Int32), g_12) : vX8)) H := hP
        have hD9 : va_D A (wX8 cA h0 h1 h2 h3 h4 h5 h6 ((u_6, u_8, u_10, g_13, (-1 : Int32), g_12) : vX8)) := hD
        subst hQ
        exact W.vret hx hb hr (fun t ht hW => ⟨⟨(u_6, u_8, u_10, g_13, (-1 : Int32), g_12), rfl, e9.symm, ⟨by rw [ht]; exact hP9, va_K.moved hW.alike hK, hD9⟩⟩, hS.F ht⟩) hS.2.2 dX8_follow_83
    · skip
      have c_3 : ¬ (y1 ≤ y0) := fun h => kc_3 ((lg_cmp_le _ _).mpr h)
      refine lv_iconst (v := 1) hx hb dX8_follow_12 (by decide) ?_
      refine lv_goto (tgt := 17) hx hb dX8_follow_13 (by decide) ?_
      refine lv_istore (lv' := [(7, .int (1 : Int32)), (0, .ref h0), (1, .long y0), (3, .long y1), (5, .long y2)]) hx hb dX8_follow_17 hl (by decide) rfl (fun ls hl => ?_)
      refine lv_aload_n hx hb dX8_follow_19 rfl (lv_at hl 1 rfl) ?_
      refine va_get (D := D) (ci := 8) (v := .int v.2.2.2.2.1) (C := RX8) (T := TX8) (N := 6) hx hb hts hinX8 hown hK hP 0 rfl rfl 4 (by decide) (hts (.fieldLink RX8 34 "GyroTrainer$Swings" "direction" "I") (List.mem_of_getElem? (i := 1) rfl)) (fun _ h9 => h9) rfl dX8_follow_20 ?_
      refine lv_iload hx hb dX8_follow_23 (lv_at hl 0 rfl) ?_
      refine lv_ineg hx hb dX8_follow_25 ?_
      refine lv_icmp_ne (tgt := 67) hx hb dX8_follow_26 (by decide) (fun c_14 => ?_) (fun c_14 => ?_)
      · skip
        refine lv_aload_n hx hb dX8_follow_67 rfl (lv_at hl 1 rfl) ?_
        refine lv_iload hx hb dX8_follow_68 (lv_at hl 0 rfl) ?_
        refine va_put (D := D) (ci := 8) (v := .int (1 : Int32)) (ty := .int) (C := RX8) (T := TX8) (N := 6) hx hb hts hinX8 tyX8 tyX8_ok nmX8 hown hK hP hD hS 0 rfl rfl 4 (by decide) (hts (.fieldLink RX8 34 "GyroTrainer$Swings" "direction" "I") (List.mem_of_getElem? (i := 1) rfl)) (fun _ h9 => h9) rfl (by decide +kernel) rfl rfl (Nat.le_of_ble_eq_true rfl) dX8_follow_70 (fun H locs hP hD hS => ?_)
        have hP : va_P D vwCl [(h0, .inr (8, [.ref h1, .ref h3, .ref h5, .long v.2.2.2.1, .int (1 : Int32), .int v.2.2.2.2.2])), (h1, .inr (2, [.ref h2, .int v.1.2])), (h2, .inl ((cA 0), 8, .inr (.inl v.1.1))), (h3, .inr (2, [.ref h4, .int v.2.1.2])), (h4, .inl ((cA 0), 8, .inr (.inl v.2.1.1))), (h5, .inr (2, [.ref h6, .int v.2.2.1.2])), (h6, .inl ((cA 0), 8, .inr (.inl v.2.2.1.1)))] H := hP
        have hD : va_D A [(h0, .inr (8, [.ref h1, .ref h3, .ref h5, .long v.2.2.2.1, .int (1 : Int32), .int v.2.2.2.2.2])), (h1, .inr (2, [.ref h2, .int v.1.2])), (h2, .inl ((cA 0), 8, .inr (.inl v.1.1))), (h3, .inr (2, [.ref h4, .int v.2.1.2])), (h4, .inl ((cA 0), 8, .inr (.inl v.2.1.1))), (h5, .inr (2, [.ref h6, .int v.2.2.1.2])), (h6, .inl ((cA 0), 8, .inr (.inl v.2.2.1.1)))] := hD
        refine lv_aload_n hx hb dX8_follow_73 rfl (lv_at hl 1 rfl) ?_
        refine lv_dup hx hb dX8_follow_74 rfl ?_
        refine va_get (D := D) (ci := 8) (v := .long v.2.2.2.1) (C := RX8) (T := TX8) (N := 6) hx hb hts hinX8 hown hK hP 0 rfl rfl 3 (by decide) (hts (.fieldLink RX8 30 "GyroTrainer$Swings" "sum" "J") (List.mem_of_getElem? (i := 5) rfl)) (fun _ h9 => h9) rfl dX8_follow_75 ?_
        refine lv_lload_n hx hb dX8_follow_78 rfl (lv_at hl 3 rfl) ?_
        refine lv_ladd hx hb dX8_follow_79 ?_
        refine lv_topl (fun g_15 eg_15 => ?_)
        refine va_put (D := D) (ci := 8) (v := .long g_15) (ty := .long) (C := RX8) (T := TX8) (N := 6) hx hb hts hinX8 tyX8 tyX8_ok nmX8 hown hK hP hD hS 0 rfl rfl 3 (by decide) (hts (.fieldLink RX8 30 "GyroTrainer$Swings" "sum" "J") (List.mem_of_getElem? (i := 5) rfl)) (fun _ h9 => h9) rfl (by decide +kernel) rfl rfl (Nat.le_of_ble_eq_true rfl) dX8_follow_80 (fun H locs hP hD hS => ?_)
        have hP : va_P D vwCl [(h0, .inr (8, [.ref h1, .ref h3, .ref h5, .long g_15, .int (1 : Int32), .int v.2.2.2.2.2])), (h1, .inr (2, [.ref h2, .int v.1.2])), (h2, .inl ((cA 0), 8, .inr (.inl v.1.1))), (h3, .inr (2, [.ref h4, .int v.2.1.2])), (h4, .inl ((cA 0), 8, .inr (.inl v.2.1.1))), (h5, .inr (2, [.ref h6, .int v.2.2.1.2])), (h6, .inl ((cA 0), 8, .inr (.inl v.2.2.1.1)))] H := hP
        have hD : va_D A [(h0, .inr (8, [.ref h1, .ref h3, .ref h5, .long g_15, .int (1 : Int32), .int v.2.2.2.2.2])), (h1, .inr (2, [.ref h2, .int v.1.2])), (h2, .inl ((cA 0), 8, .inr (.inl v.1.1))), (h3, .inr (2, [.ref h4, .int v.2.1.2])), (h4, .inl ((cA 0), 8, .inr (.inl v.2.1.1))), (h5, .inr (2, [.ref h6, .int v.2.2.1.2])), (h6, .inl ((cA 0), 8, .inr (.inl v.2.2.1.1)))] := hD
        have e9 : (zf_follow v y0 y1 y2) = (v.1, v.2.1, v.2.2.1, g_15, (1 : Int32), v.2.2.2.2.2) := by subst eg_15; unfold zf_follow zf_dir; simp only [if_neg c_1, if_neg c_3, if_neg c_14] <;> rfl
        have hP9 : va_P D vwCl (wX8 cA h0 h1 h2 h3 h4 h5 h6 ((v.1, v.2.1, v.2.2.1, g_15, (1 : Int32), v.2.2.2.2.2) : vX8)) H := hP
        have hD9 : va_D A (wX8 cA h0 h1 h2 h3 h4 h5 h6 ((v.1, v.2.1, v.2.2.1, g_15, (1 : Int32), v.2.2.2.2.2) : vX8)) := hD
        subst hQ
        exact W.vret hx hb hr (fun t ht hW => ⟨⟨(v.1, v.2.1, v.2.2.1, g_15, (1 : Int32), v.2.2.2.2.2), rfl, e9.symm, ⟨by rw [ht]; exact hP9, va_K.moved hW.alike hK, hD9⟩⟩, hS.F ht⟩) hS.2.2 dX8_follow_83
      · skip
        refine lv_aload_n hx hb dX8_follow_29 rfl (lv_at hl 1 rfl) ?_
        refine va_get (D := D) (ci := 8) (v := .ref h1) (C := RX8) (T := TX8) (N := 6) hx hb hts hinX8 hown hK hP 0 rfl rfl 0 (by decide) (hts (.fieldLink RX8 14 "GyroTrainer$Swings" "errors" "LGyroTrainer$Latest;") (List.mem_of_getElem? (i := 2) rfl)) (fun _ h9 => h9) rfl dX8_follow_30 ?_
        refine lv_lload_n hx hb dX8_follow_33 rfl (lv_at hl 2 rfl) ?_
        refine z_Gv (wr := [(h0, .inr (8, [.ref h1, .ref h3, .ref h5, .long v.2.2.2.1, .int v.2.2.2.2.1, .int v.2.2.2.2.2])), (h3, .inr (2, [.ref h4, .int v.2.1.2])), (h4, .inl ((cA 0), 8, .inr (.inl v.2.1.1))), (h5, .inr (2, [.ref h6, .int v.2.2.1.2])), (h6, .inl ((cA 0), 8, .inr (.inl v.2.2.1.1)))]) (wt := (fun (u_16 : vX2) => [(h0, .inr (8, [.ref h1, .ref h3, .ref h5, .long v.2.2.2.1, .int v.2.2.2.2.1, .int v.2.2.2.2.2])), (h1, .inr (2, [.ref h2, .int u_16.2])), (h2, .inl ((cA 0), 8, .inr (.inl u_16.1))), (h3, .inr (2, [.ref h4, .int v.2.1.2])), (h4, .inl ((cA 0), 8, .inr (.inl v.2.1.1))), (h5, .inr (2, [.ref h6, .int v.2.2.1.2])), (h6, .inl ((cA 0), 8, .inr (.inl v.2.2.1.1)))])) (va_runV (As := [.long y0]) (rest := []) ⟨hx, hb, hml, hown, hts⟩ (c_X2_add l D cA h1 h2 s.heap.size 8 v.1 y0 (by decide) (by decide)) (cwV 1 hts gX8_follow_X2_add rfl rfl rfl (by decide +kernel) ⟨Nat.le_of_ble_eq_true rfl, Nat.le_of_ble_eq_true rfl⟩) (zpV hK hP hD hS hA hE [1, 2] [0, 1, 2, 3, 4] rfl (by decide) rfl 0 rfl rfl) rfl rfl hl.1 rfl (lv_room (Nat.le_of_ble_eq_true rfl)) dX8_follow_34 ⟨Nat.le_of_ble_eq_true rfl, Nat.le_of_ble_eq_true rfl⟩) hP hD hS hA [1, 2] [0, 3, 4, 5, 6] [0, 5, 6, 1, 2, 3, 4] rfl rfl (by decide) (fun _ => rfl) (fun u_16 H locs eu_16 hP hD hS => ?_)
        have hP : va_P D vwCl [(h0, .inr (8, [.ref h1, .ref h3, .ref h5, .long v.2.2.2.1, .int v.2.2.2.2.1, .int v.2.2.2.2.2])), (h1, .inr (2, [.ref h2, .int u_16.2])), (h2, .inl ((cA 0), 8, .inr (.inl u_16.1))), (h3, .inr (2, [.ref h4, .int v.2.1.2])), (h4, .inl ((cA 0), 8, .inr (.inl v.2.1.1))), (h5, .inr (2, [.ref h6, .int v.2.2.1.2])), (h6, .inl ((cA 0), 8, .inr (.inl v.2.2.1.1)))] H := hP
        have hD : va_D A [(h0, .inr (8, [.ref h1, .ref h3, .ref h5, .long v.2.2.2.1, .int v.2.2.2.2.1, .int v.2.2.2.2.2])), (h1, .inr (2, [.ref h2, .int u_16.2])), (h2, .inl ((cA 0), 8, .inr (.inl u_16.1))), (h3, .inr (2, [.ref h4, .int v.2.1.2])), (h4, .inl ((cA 0), 8, .inr (.inl v.2.1.1))), (h5, .inr (2, [.ref h6, .int v.2.2.1.2])), (h6, .inl ((cA 0), 8, .inr (.inl v.2.2.1.1)))] := hD
        refine lv_aload_n hx hb dX8_follow_37 rfl (lv_at hl 1 rfl) ?_
        refine va_get (D := D) (ci := 8) (v := .ref h3) (C := RX8) (T := TX8) (N := 6) hx hb hts hinX8 hown hK hP 0 rfl rfl 1 (by decide) (hts (.fieldLink RX8 20 "GyroTrainer$Swings" "times" "LGyroTrainer$Latest;") (List.mem_of_getElem? (i := 3) rfl)) (fun _ h9 => h9) rfl dX8_follow_38 ?_
        refine lv_lload hx hb dX8_follow_41 (lv_at hl 4 rfl) ?_
        refine z_Gv (wr := [(h0, .inr (8, [.ref h1, .ref h3, .ref h5, .long v.2.2.2.1, .int v.2.2.2.2.1, .int v.2.2.2.2.2])), (h1, .inr (2, [.ref h2, .int u_16.2])), (h2, .inl ((cA 0), 8, .inr (.inl u_16.1))), (h5, .inr (2, [.ref h6, .int v.2.2.1.2])), (h6, .inl ((cA 0), 8, .inr (.inl v.2.2.1.1)))]) (wt := (fun (u_18 : vX2) => [(h0, .inr (8, [.ref h1, .ref h3, .ref h5, .long v.2.2.2.1, .int v.2.2.2.2.1, .int v.2.2.2.2.2])), (h1, .inr (2, [.ref h2, .int u_16.2])), (h2, .inl ((cA 0), 8, .inr (.inl u_16.1))), (h3, .inr (2, [.ref h4, .int u_18.2])), (h4, .inl ((cA 0), 8, .inr (.inl u_18.1))), (h5, .inr (2, [.ref h6, .int v.2.2.1.2])), (h6, .inl ((cA 0), 8, .inr (.inl v.2.2.1.1)))])) (va_runV (As := [.long y2]) (rest := []) ⟨hx, hb, hml, hown, hts⟩ (c_X2_add l D cA h3 h4 H.size 8 v.2.1 y2 (by decide) (by decide)) (cwV 1 hts gX8_follow_X2_add rfl rfl rfl (by decide +kernel) ⟨Nat.le_of_ble_eq_true rfl, Nat.le_of_ble_eq_true rfl⟩) (zpV hK hP hD hS hA hE [3, 4] [0, 1, 2, 3, 4] rfl (by decide) rfl 0 rfl rfl) rfl rfl hl.1 rfl (lv_room (Nat.le_of_ble_eq_true rfl)) dX8_follow_43 ⟨Nat.le_of_ble_eq_true rfl, Nat.le_of_ble_eq_true rfl⟩) hP hD hS hA [3, 4] [0, 1, 2, 5, 6] [0, 1, 2, 5, 6, 3, 4] rfl rfl (by decide) (fun _ => rfl) (fun u_18 H locs eu_18 hP hD hS => ?_)
        have hP : va_P D vwCl [(h0, .inr (8, [.ref h1, .ref h3, .ref h5, .long v.2.2.2.1, .int v.2.2.2.2.1, .int v.2.2.2.2.2])), (h1, .inr (2, [.ref h2, .int u_16.2])), (h2, .inl ((cA 0), 8, .inr (.inl u_16.1))), (h3, .inr (2, [.ref h4, .int u_18.2])), (h4, .inl ((cA 0), 8, .inr (.inl u_18.1))), (h5, .inr (2, [.ref h6, .int v.2.2.1.2])), (h6, .inl ((cA 0), 8, .inr (.inl v.2.2.1.1)))] H := hP
        have hD : va_D A [(h0, .inr (8, [.ref h1, .ref h3, .ref h5, .long v.2.2.2.1, .int v.2.2.2.2.1, .int v.2.2.2.2.2])), (h1, .inr (2, [.ref h2, .int u_16.2])), (h2, .inl ((cA 0), 8, .inr (.inl u_16.1))), (h3, .inr (2, [.ref h4, .int u_18.2])), (h4, .inl ((cA 0), 8, .inr (.inl u_18.1))), (h5, .inr (2, [.ref h6, .int v.2.2.1.2])), (h6, .inl ((cA 0), 8, .inr (.inl v.2.2.1.1)))] := hD
        refine lv_aload_n hx hb dX8_follow_46 rfl (lv_at hl 1 rfl) ?_
        refine va_get (D := D) (ci := 8) (v := .ref h5) (C := RX8) (T := TX8) (N := 6) hx hb hts hinX8 hown hK hP 0 rfl rfl 2 (by decide) (hts (.fieldLink RX8 23 "GyroTrainer$Swings" "sums" "LGyroTrainer$Latest;") (List.mem_of_getElem? (i := 4) rfl)) (fun _ h9 => h9) rfl dX8_follow_47 ?_
        refine lv_aload_n hx hb dX8_follow_50 rfl (lv_at hl 1 rfl) ?_
        refine va_get (D := D) (ci := 8) (v := .long v.2.2.2.1) (C := RX8) (T := TX8) (N := 6) hx hb hts hinX8 hown hK hP 0 rfl rfl 3 (by decide) (hts (.fieldLink RX8 30 "GyroTrainer$Swings" "sum" "J") (List.mem_of_getElem? (i := 5) rfl)) (fun _ h9 => h9) rfl dX8_follow_51 ?_
        refine z_Gv (wr := [(h0, .inr (8, [.ref h1, .ref h3, .ref h5, .long v.2.2.2.1, .int v.2.2.2.2.1, .int v.2.2.2.2.2])), (h1, .inr (2, [.ref h2, .int u_16.2])), (h2, .inl ((cA 0), 8, .inr (.inl u_16.1))), (h3, .inr (2, [.ref h4, .int u_18.2])), (h4, .inl ((cA 0), 8, .inr (.inl u_18.1)))]) (wt := (fun (u_20 : vX2) => [(h0, .inr (8, [.ref h1, .ref h3, .ref h5, .long v.2.2.2.1, .int v.2.2.2.2.1, .int v.2.2.2.2.2])), (h1, .inr (2, [.ref h2, .int u_16.2])), (h2, .inl ((cA 0), 8, .inr (.inl u_16.1))), (h3, .inr (2, [.ref h4, .int u_18.2])), (h4, .inl ((cA 0), 8, .inr (.inl u_18.1))), (h5, .inr (2, [.ref h6, .int u_20.2])), (h6, .inl ((cA 0), 8, .inr (.inl u_20.1)))])) (va_runV (As := [.long v.2.2.2.1]) (rest := []) ⟨hx, hb, hml, hown, hts⟩ (c_X2_add l D cA h5 h6 H.size 8 v.2.2.1 v.2.2.2.1 (by decide) (by decide)) (cwV 1 hts gX8_follow_X2_add rfl rfl rfl (by decide +kernel) ⟨Nat.le_of_ble_eq_true rfl, Nat.le_of_ble_eq_true rfl⟩) (zpV hK hP hD hS hA hE [5, 6] [0, 1, 2, 3, 4] rfl (by decide) rfl 0 rfl rfl) rfl rfl hl.1 rfl (lv_room (Nat.le_of_ble_eq_true rfl)) dX8_follow_54 ⟨Nat.le_of_ble_eq_true rfl, Nat.le_of_ble_eq_true rfl⟩) hP hD hS hA [5, 6] [0, 1, 2, 3, 4] [0, 1, 2, 3, 4, 5, 6] rfl rfl (by decide) (fun _ => rfl) (fun u_20 H locs eu_20 hP hD hS => ?_)
        have hP : va_P D vwCl [(h0, .inr (8, [.ref h1, .ref h3, .ref h5, .long v.2.2.2.1, .int v.2.2.2.2.1, .int v.2.2.2.2.2])), (h1, .inr (2, [.ref h2, .int u_16.2])), (h2, .inl ((cA 0), 8, .inr (.inl u_16.1))), (h3, .inr (2, [.ref h4, .int u_18.2])), (h4, .inl ((cA 0), 8, .inr (.inl u_18.1))), (h5, .inr (2, [.ref h6, .int u_20.2])), (h6, .inl ((cA 0), 8, .inr (.inl u_20.1)))] H := hP
        have hD : va_D A [(h0, .inr (8, [.ref h1, .ref h3, .ref h5, .long v.2.2.2.1, .int v.2.2.2.2.1, .int v.2.2.2.2.2])), (h1, .inr (2, [.ref h2, .int u_16.2])), (h2, .inl ((cA 0), 8, .inr (.inl u_16.1))), (h3, .inr (2, [.ref h4, .int u_18.2])), (h4, .inl ((cA 0), 8, .inr (.inl u_18.1))), (h5, .inr (2, [.ref h6, .int u_20.2])), (h6, .inl ((cA 0), 8, .inr (.inl u_20.1)))] := hD
        refine lv_aload_n hx hb dX8_follow_57 rfl (lv_at hl 1 rfl) ?_
        refine lv_dup hx hb dX8_follow_58 rfl ?_
        refine va_get (D := D) (ci := 8) (v := .int v.2.2.2.2.2) (C := RX8) (T := TX8) (N := 6) hx hb hts hinX8 hown hK hP 0 rfl rfl 5 (by decide) (hts (.fieldLink RX8 38 "GyroTrainer$Swings" "found" "I") (List.mem_of_getElem? (i := 6) rfl)) (fun _ h9 => h9) rfl dX8_follow_59 ?_
        refine lv_iconst (v := 1) hx hb dX8_follow_62 (by decide) ?_
        refine lv_iadd hx hb dX8_follow_63 ?_
        refine lv_topi (fun g_22 eg_22 => ?_)
        refine va_put (D := D) (ci := 8) (v := .int g_22) (ty := .int) (C := RX8) (T := TX8) (N := 6) hx hb hts hinX8 tyX8 tyX8_ok nmX8 hown hK hP hD hS 0 rfl rfl 5 (by decide) (hts (.fieldLink RX8 38 "GyroTrainer$Swings" "found" "I") (List.mem_of_getElem? (i := 6) rfl)) (fun _ h9 => h9) rfl (by decide +kernel) rfl rfl (Nat.le_of_ble_eq_true rfl) dX8_follow_64 (fun H locs hP hD hS => ?_)
        have hP : va_P D vwCl [(h0, .inr (8, [.ref h1, .ref h3, .ref h5, .long v.2.2.2.1, .int v.2.2.2.2.1, .int g_22])), (h1, .inr (2, [.ref h2, .int u_16.2])), (h2, .inl ((cA 0), 8, .inr (.inl u_16.1))), (h3, .inr (2, [.ref h4, .int u_18.2])), (h4, .inl ((cA 0), 8, .inr (.inl u_18.1))), (h5, .inr (2, [.ref h6, .int u_20.2])), (h6, .inl ((cA 0), 8, .inr (.inl u_20.1)))] H := hP
        have hD : va_D A [(h0, .inr (8, [.ref h1, .ref h3, .ref h5, .long v.2.2.2.1, .int v.2.2.2.2.1, .int g_22])), (h1, .inr (2, [.ref h2, .int u_16.2])), (h2, .inl ((cA 0), 8, .inr (.inl u_16.1))), (h3, .inr (2, [.ref h4, .int u_18.2])), (h4, .inl ((cA 0), 8, .inr (.inl u_18.1))), (h5, .inr (2, [.ref h6, .int u_20.2])), (h6, .inl ((cA 0), 8, .inr (.inl u_20.1)))] := hD
        refine lv_aload_n hx hb dX8_follow_67 rfl (lv_at hl 1 rfl) ?_
        refine lv_iload hx hb dX8_follow_68 (lv_at hl 0 rfl) ?_
        refine va_put (D := D) (ci := 8) (v := .int (1 : Int32)) (ty := .int) (C := RX8) (T := TX8) (N := 6) hx hb hts hinX8 tyX8 tyX8_ok nmX8 hown hK hP hD hS 0 rfl rfl 4 (by decide) (hts (.fieldLink RX8 34 "GyroTrainer$Swings" "direction" "I") (List.mem_of_getElem? (i := 1) rfl)) (fun _ h9 => h9) rfl (by decide +kernel) rfl rfl (Nat.le_of_ble_eq_true rfl) dX8_follow_70 (fun H locs hP hD hS => ?_)
        have hP : va_P D vwCl [(h0, .inr (8, [.ref h1, .ref h3, .ref h5, .long v.2.2.2.1, .int (1 : Int32), .int g_22])), (h1, .inr (2, [.ref h2, .int u_16.2])), (h2, .inl ((cA 0), 8, .inr (.inl u_16.1))), (h3, .inr (2, [.ref h4, .int u_18.2])), (h4, .inl ((cA 0), 8, .inr (.inl u_18.1))), (h5, .inr (2, [.ref h6, .int u_20.2])), (h6, .inl ((cA 0), 8, .inr (.inl u_20.1)))] H := hP
        have hD : va_D A [(h0, .inr (8, [.ref h1, .ref h3, .ref h5, .long v.2.2.2.1, .int (1 : Int32), .int g_22])), (h1, .inr (2, [.ref h2, .int u_16.2])), (h2, .inl ((cA 0), 8, .inr (.inl u_16.1))), (h3, .inr (2, [.ref h4, .int u_18.2])), (h4, .inl ((cA 0), 8, .inr (.inl u_18.1))), (h5, .inr (2, [.ref h6, .int u_20.2])), (h6, .inl ((cA 0), 8, .inr (.inl u_20.1)))] := hD
        refine lv_aload_n hx hb dX8_follow_73 rfl (lv_at hl 1 rfl) ?_
        refine lv_dup hx hb dX8_follow_74 rfl ?_
        refine va_get (D := D) (ci := 8) (v := .long v.2.2.2.1) (C := RX8) (T := TX8) (N := 6) hx hb hts hinX8 hown hK hP 0 rfl rfl 3 (by decide) (hts (.fieldLink RX8 30 "GyroTrainer$Swings" "sum" "J") (List.mem_of_getElem? (i := 5) rfl)) (fun _ h9 => h9) rfl dX8_follow_75 ?_
        refine lv_lload_n hx hb dX8_follow_78 rfl (lv_at hl 3 rfl) ?_
        refine lv_ladd hx hb dX8_follow_79 ?_
        refine lv_topl (fun g_23 eg_23 => ?_)
        refine va_put (D := D) (ci := 8) (v := .long g_23) (ty := .long) (C := RX8) (T := TX8) (N := 6) hx hb hts hinX8 tyX8 tyX8_ok nmX8 hown hK hP hD hS 0 rfl rfl 3 (by decide) (hts (.fieldLink RX8 30 "GyroTrainer$Swings" "sum" "J") (List.mem_of_getElem? (i := 5) rfl)) (fun _ h9 => h9) rfl (by decide +kernel) rfl rfl (Nat.le_of_ble_eq_true rfl) dX8_follow_80 (fun H locs hP hD hS => ?_)
        have hP : va_P D vwCl [(h0, .inr (8, [.ref h1, .ref h3, .ref h5, .long g_23, .int (1 : Int32), .int g_22])), (h1, .inr (2, [.ref h2, .int u_16.2])), (h2, .inl ((cA 0), 8, .inr (.inl u_16.1))), (h3, .inr (2, [.ref h4, .int u_18.2])), (h4, .inl ((cA 0), 8, .inr (.inl u_18.1))), (h5, .inr (2, [.ref h6, .int u_20.2])), (h6, .inl ((cA 0), 8, .inr (.inl u_20.1)))] H := hP
        have hD : va_D A [(h0, .inr (8, [.ref h1, .ref h3, .ref h5, .long g_23, .int (1 : Int32), .int g_22])), (h1, .inr (2, [.ref h2, .int u_16.2])), (h2, .inl ((cA 0), 8, .inr (.inl u_16.1))), (h3, .inr (2, [.ref h4, .int u_18.2])), (h4, .inl ((cA 0), 8, .inr (.inl u_18.1))), (h5, .inr (2, [.ref h6, .int u_20.2])), (h6, .inl ((cA 0), 8, .inr (.inl u_20.1)))] := hD
        have e9 : (zf_follow v y0 y1 y2) = (u_16, u_18, u_20, g_23, (1 : Int32), g_22) := by subst eu_16; subst eu_18; subst eu_20; subst eg_22; subst eg_23; unfold zf_follow zf_dir; simp only [if_neg c_1, if_neg c_3, if_pos c_14] <;> rfl
        have hP9 : va_P D vwCl (wX8 cA h0 h1 h2 h3 h4 h5 h6 ((u_16, u_18, u_20, g_23, (1 : Int32), g_22) : vX8)) H := hP
        have hD9 : va_D A (wX8 cA h0 h1 h2 h3 h4 h5 h6 ((u_16, u_18, u_20, g_23, (1 : Int32), g_22) : vX8)) := hD
        subst hQ
        exact W.vret hx hb hr (fun t ht hW => ⟨⟨(u_16, u_18, u_20, g_23, (1 : Int32), g_22), rfl, e9.symm, ⟨by rw [ht]; exact hP9, va_K.moved hW.alike hK, hD9⟩⟩, hS.F ht⟩) hS.2.2 dX8_follow_83
set_option maxHeartbeats 4000000 in
set_option maxRecDepth 100000 in
theorem c_X8_canSettle (l : Launch) (D : va_G) (cA : Nat → ClassId) (h0 h1 h2 h3 h4 h5 h6 : Nat) (v : vX8)  : Met l yX8_canSettle wsX8_canSettle ({ frames := 0, cells := 0, slots := 0, locals := 0 }) (va_Pc [.ref h0] (zPreR D (zty cA) (wX8 cA h0 h1 h2 h3 h4 h5 h6 v))) (vp_Si (fun x => x = (zf_can v))) 0 0 (fun _ => False) := by
  refine Met.ofW (cc := cX8_canSettle) (maxL := 1) (ret := (some .boolean)) (by decide) rfl ?_
  intro p e s m args below meth c s₁ B hml hv
  obtain ⟨rfl, hP, hK, hN⟩ := hv
  have hx := B.exec
  have hb := B.bytes
  have hr := B.returns
  have hts := atoms_spec (ws := wsX8_canSettle) B.pre
  have hown : s.vm.findClass RX8 = some m.cls := findClass_of_methodNamed B.named
  have hlocks := B.notSynchronized
  have hinX8 : ∀ w ∈ u_ws RX8 TX8 6, w ∈ wsX8_canSettle := fun w h => List.mem_cons_of_mem _ (List.mem_append_left _ (List.mem_append_right _ h))
  have hinX2 : ∀ w ∈ u_ws RX2 TX2 2, w ∈ wsX8_canSettle := fun w h => List.mem_cons_of_mem _ (List.mem_append_right _ h)
  have hP : va_P D vwCl [(h0, .inr (8, [.ref h1, .ref h3, .ref h5, .long v.2.2.2.1, .int v.2.2.2.2.1, .int v.2.2.2.2.2])), (h1, .inr (2, [.ref h2, .int v.1.2])), (h2, .inl ((cA 0), 8, .inr (.inl v.1.1))), (h3, .inr (2, [.ref h4, .int v.2.1.2])), (h4, .inl ((cA 0), 8, .inr (.inl v.2.1.1))), (h5, .inr (2, [.ref h6, .int v.2.2.1.2])), (h6, .inl ((cA 0), 8, .inr (.inl v.2.2.1.1)))] s.heap := hP
  have hl := lv_entry ([.ref h0]) (n := 1) (Nat.le_of_ble_eq_true rfl)
  rw [lg_entry_eq]
  generalize (lg_sl ([.ref h0]) ++ List.replicate (1 - (lg_sl ([.ref h0])).length) Slot.unset).toArray = ls at hl ⊢
  have hl : lv_has ls 1 [(0, .ref h0)] := hl
  refine z_genQ (fun Q hQ => ?_)
  refine lv_aload_n hx hb dX8_canSettle_0 rfl (lv_at hl 0 rfl) ?_
  refine va_get (D := D) (ci := 8) (v := .ref h1) (C := RX8) (T := TX8) (N := 6) hx hb hts hinX8 hown hK hP 0 rfl rfl 0 (by decide) (hts (.fieldLink RX8 14 "GyroTrainer$Swings" "errors" "LGyroTrainer$Latest;") (List.mem_of_getElem? (i := 1) rfl)) (fun _ h9 => h9) rfl dX8_canSettle_1 ?_
  refine va_get (D := D) (ci := 2) (v := .int v.1.2) (C := RX2) (T := TX2) (N := 2) hx hb hts hinX2 hown hK hP 1 rfl rfl 1 (by decide) (hts (.fieldLink RX8 48 "GyroTrainer$Latest" "count" "I") (List.mem_of_getElem? (i := 2) rfl)) (fun _ h9 => h9) rfl dX8_canSettle_4 ?_
  refine lv_iconst (v := 3) hx hb dX8_canSettle_7 (by decide) ?_
  refine lv_icmp_lt (tgt := 15) hx hb dX8_canSettle_8 (by decide) (fun c_1 => ?_) (fun c_1 => ?_)
  · skip
    refine lv_iconst (v := 0) hx hb dX8_canSettle_15 (by decide) ?_
    have e9 : (zf_can v) = (0 : Int32) := by unfold zf_can; simp only [if_pos c_1] <;> rfl
    subst hQ
    exact W.zret (ty := .boolean) (v := (0 : Int32)) hx hb hr rfl (fun t ht hW => ⟨_, rfl, e9.symm, ht⟩) (fun q h => by cases h) dX8_canSettle_16
  · skip
    refine lv_iconst (v := 1) hx hb dX8_canSettle_11 (by decide) ?_
    refine lv_goto (tgt := 16) hx hb dX8_canSettle_12 (by decide) ?_
    have e9 : (zf_can v) = (1 : Int32) := by unfold zf_can; simp only [if_neg c_1] <;> rfl
    subst hQ
    exact W.zret (ty := .boolean) (v := (1 : Int32)) hx hb hr rfl (fun t ht hW => ⟨_, rfl, e9.symm, ht⟩) (fun q h => by cases h) dX8_canSettle_16
set_option maxHeartbeats 4000000 in
set_option maxRecDepth 100000 in
theorem c_X8_settledByTurns (l : Launch) (D : va_G) (cA : Nat → ClassId) (h0 h1 h2 h3 h4 h5 h6 : Nat) (v : vX8)  : Met l yX8_settledByTurns wsX8_settledByTurns ({ frames := 1, cells := 0, slots := 0, locals := 21 }) (va_Pc [.ref h0] (zPreR D (zty cA) (wX8 cA h0 h1 h2 h3 h4 h5 h6 v))) (vp_Sl (fun x => x = (zf_byTurns v))) 0 0 (fun _ => False) := by
  refine Met.ofW (cc := cX8_settledByTurns) (maxL := 1) (ret := (some .long)) (by decide) rfl ?_
  intro p e s m args below meth c s₁ B hml hv
  obtain ⟨rfl, hP, hK, hN⟩ := hv
  have hx := B.exec
  have hb := B.bytes
  have hr := B.returns
  have hts := atoms_spec (ws := wsX8_settledByTurns) B.pre
  have hown : s.vm.findClass RX8 = some m.cls := findClass_of_methodNamed B.named
  have hlocks := B.notSynchronized
  have hinX8 : ∀ w ∈ u_ws RX8 TX8 6, w ∈ wsX8_settledByTurns := fun w h => List.mem_cons_of_mem _ (List.mem_append_left _ (List.mem_append_right _ h))
  have hinX2 : ∀ w ∈ u_ws RX2 TX2 2, w ∈ wsX8_settledByTurns := fun w h => List.mem_cons_of_mem _ (List.mem_append_right _ h)
  have hP : va_P D vwCl [(h0, .inr (8, [.ref h1, .ref h3, .ref h5, .long v.2.2.2.1, .int v.2.2.2.2.1, .int v.2.2.2.2.2])), (h1, .inr (2, [.ref h2, .int v.1.2])), (h2, .inl ((cA 0), 8, .inr (.inl v.1.1))), (h3, .inr (2, [.ref h4, .int v.2.1.2])), (h4, .inl ((cA 0), 8, .inr (.inl v.2.1.1))), (h5, .inr (2, [.ref h6, .int v.2.2.1.2])), (h6, .inl ((cA 0), 8, .inr (.inl v.2.2.1.1)))] s.heap := hP
  have hl := lv_entry ([.ref h0]) (n := 1) (Nat.le_of_ble_eq_true rfl)
  rw [lg_entry_eq]
  generalize (lg_sl ([.ref h0]) ++ List.replicate (1 - (lg_sl ([.ref h0])).length) Slot.unset).toArray = ls at hl ⊢
  have hl : lv_has ls 1 [(0, .ref h0)] := hl
  refine z_genQ (fun Q hQ => ?_)
  refine lv_aload_n hx hb dX8_settledByTurns_0 rfl (lv_at hl 0 rfl) ?_
  refine va_get (D := D) (ci := 8) (v := .ref h1) (C := RX8) (T := TX8) (N := 6) hx hb hts hinX8 hown hK hP 0 rfl rfl 0 (by decide) (hts (.fieldLink RX8 14 "GyroTrainer$Swings" "errors" "LGyroTrainer$Latest;") (List.mem_of_getElem? (i := 1) rfl)) (fun _ h9 => h9) rfl dX8_settledByTurns_1 ?_
  refine va_get (D := D) (ci := 2) (v := .ref h2) (C := RX2) (T := TX2) (N := 2) hx hb hts hinX2 hown hK hP 1 rfl rfl 0 (by decide) (hts (.fieldLink RX8 51 "GyroTrainer$Latest" "numbers" "[J") (List.mem_of_getElem? (i := 2) rfl)) (fun _ h9 => h9) rfl dX8_settledByTurns_4 ?_
  refine lv_iconst (v := 2) hx hb dX8_settledByTurns_7 (by decide) ?_
  refine z_Rl (va_runSN (As := [.ref h2, .int (2 : Int32)]) (rest := []) ⟨hx, hb, hml, hown, hts⟩ (c_X9_at l D cA h2 8 v.1.1 (2 : Int32) (by decide)) (⟨va_cnB (host := "GyroTrainer") 2 hts gX8_settledByTurns_X9_at_n55 rfl rfl rfl (hN.get 27 rfl) (hts (.initialized RX9) (List.mem_of_getElem? (i := 6) rfl)) (by decide +kernel) ⟨Nat.le_of_ble_eq_true rfl, Nat.le_of_ble_eq_true rfl⟩, (hts (.static yX9_at) (List.mem_of_getElem? (i := 5) rfl)), trivial⟩) (zpSR hK hP hN [2] [0, 1, 2, 3, 4] rfl rfl) rfl rfl hl.1 rfl (lv_room (Nat.le_of_ble_eq_true rfl)) dX8_settledByTurns_8 ⟨Nat.le_of_ble_eq_true rfl, Nat.le_of_ble_eq_true rfl⟩) ?_
  refine lv_ldc2 hx hb hown (hts (.constantLong RX8 59 (2)) (List.mem_of_getElem? (i := 3) rfl)) dX8_settledByTurns_11 ?_
  refine lv_aload_n hx hb dX8_settledByTurns_14 rfl (lv_at hl 0 rfl) ?_
  refine va_get (D := D) (ci := 8) (v := .ref h1) (C := RX8) (T := TX8) (N := 6) hx hb hts hinX8 hown hK hP 0 rfl rfl 0 (by decide) (hts (.fieldLink RX8 14 "GyroTrainer$Swings" "errors" "LGyroTrainer$Latest;") (List.mem_of_getElem? (i := 1) rfl)) (fun _ h9 => h9) rfl dX8_settledByTurns_15 ?_
  refine va_get (D := D) (ci := 2) (v := .ref h2) (C := RX2) (T := TX2) (N := 2) hx hb hts hinX2 hown hK hP 1 rfl rfl 0 (by decide) (hts (.fieldLink RX8 51 "GyroTrainer$Latest" "numbers" "[J") (List.mem_of_getElem? (i := 2) rfl)) (fun _ h9 => h9) rfl dX8_settledByTurns_18 ?_
  refine lv_iconst (v := 1) hx hb dX8_settledByTurns_21 (by decide) ?_
  refine z_Rl (va_runSN (As := [.ref h2, .int (1 : Int32)]) (rest := [.long (2 : Int64), .long (zf_at 8 v.1.1 (2 : Int32))]) ⟨hx, hb, hml, hown, hts⟩ (c_X9_at l D cA h2 8 v.1.1 (1 : Int32) (by decide)) (⟨va_cnB (host := "GyroTrainer") 2 hts gX8_settledByTurns_X9_at_n55 rfl rfl rfl (hN.get 27 rfl) (hts (.initialized RX9) (List.mem_of_getElem? (i := 6) rfl)) (by decide +kernel) ⟨Nat.le_of_ble_eq_true rfl, Nat.le_of_ble_eq_true rfl⟩, (hts (.static yX9_at) (List.mem_of_getElem? (i := 5) rfl)), trivial⟩) (zpSR hK hP hN [2] [0, 1, 2, 3, 4] rfl rfl) rfl rfl hl.1 rfl (lv_room (Nat.le_of_ble_eq_true rfl)) dX8_settledByTurns_22 ⟨Nat.le_of_ble_eq_true rfl, Nat.le_of_ble_eq_true rfl⟩) ?_
  refine lv_lmul hx hb dX8_settledByTurns_25 ?_
  refine lv_ladd hx hb dX8_settledByTurns_26 ?_
  refine lv_aload_n hx hb dX8_settledByTurns_27 rfl (lv_at hl 0 rfl) ?_
  refine va_get (D := D) (ci := 8) (v := .ref h1) (C := RX8) (T := TX8) (N := 6) hx hb hts hinX8 hown hK hP 0 rfl rfl 0 (by decide) (hts (.fieldLink RX8 14 "GyroTrainer$Swings" "errors" "LGyroTrainer$Latest;") (List.mem_of_getElem? (i := 1) rfl)) (fun _ h9 => h9) rfl dX8_settledByTurns_28 ?_
  refine va_get (D := D) (ci := 2) (v := .ref h2) (C := RX2) (T := TX2) (N := 2) hx hb hts hinX2 hown hK hP 1 rfl rfl 0 (by decide) (hts (.fieldLink RX8 51 "GyroTrainer$Latest" "numbers" "[J") (List.mem_of_getElem? (i := 2) rfl)) (fun _ h9 => h9) rfl dX8_settledByTurns_31 ?_
  refine lv_iconst (v := 0) hx hb dX8_settledByTurns_34 (by decide) ?_
  refine z_Rl (va_runSN (As := [.ref h2, .int (0 : Int32)]) (rest := [.long ((zf_at 8 v.1.1 (2 : Int32)) + ((2 : Int64) * (zf_at 8 v.1.1 (1 : Int32))))]) ⟨hx, hb, hml, hown, hts⟩ (c_X9_at l D cA h2 8 v.1.1 (0 : Int32) (by decide)) (⟨va_cnB (host := "GyroTrainer") 2 hts gX8_settledByTurns_X9_at_n55 rfl rfl rfl (hN.get 27 rfl) (hts (.initialized RX9) (List.mem_of_getElem? (i := 6) rfl)) (by decide +kernel) ⟨Nat.le_of_ble_eq_true rfl, Nat.le_of_ble_eq_true rfl⟩, (hts (.static yX9_at) (List.mem_of_getElem? (i := 5) rfl)), trivial⟩) (zpSR hK hP hN [2] [0, 1, 2, 3, 4] rfl rfl) rfl rfl hl.1 rfl (lv_room (Nat.le_of_ble_eq_true rfl)) dX8_settledByTurns_35 ⟨Nat.le_of_ble_eq_true rfl, Nat.le_of_ble_eq_true rfl⟩) ?_
  refine lv_ladd hx hb dX8_settledByTurns_38 ?_
  refine lv_ldc2 hx hb hown (hts (.constantLong RX8 61 (4)) (List.mem_of_getElem? (i := 4) rfl)) dX8_settledByTurns_39 ?_
  refine lv_ldiv hx hb dX8_settledByTurns_42 (by decide) ?_
  have e9 : (zf_byTurns v) = ((((zf_at 8 v.1.1 (2 : Int32)) + ((2 : Int64) * (zf_at 8 v.1.1 (1 : Int32)))) + (zf_at 8 v.1.1 (0 : Int32))) / (4 : Int64)) := by rfl
  subst hQ
  exact W.lret (v := ((((zf_at 8 v.1.1 (2 : Int32)) + ((2 : Int64) * (zf_at 8 v.1.1 (1 : Int32)))) + (zf_at 8 v.1.1 (0 : Int32))) / (4 : Int64))) hx hb hr (fun t ht hW => ⟨_, rfl, e9.symm, ht⟩) (fun q h => by cases h) dX8_settledByTurns_43
set_option maxHeartbeats 4000000 in
set_option maxRecDepth 100000 in
theorem c_X8_settledByMean (l : Launch) (D : va_G) (cA : Nat → ClassId) (h0 h1 h2 h3 h4 h5 h6 : Nat) (v : vX8)  : Met l yX8_settledByMean wsX8_settledByMean ({ frames := 1, cells := 0, slots := 0, locals := 23 }) (va_Pc [.ref h0] (zPreR D (zty cA) (wX8 cA h0 h1 h2 h3 h4 h5 h6 v))) (vp_Sl (fun x => x = (zf_byMean v))) 0 0 (fun _ => False) := by
  refine Met.ofW (cc := cX8_settledByMean) (maxL := 1) (ret := (some .long)) (by decide) rfl ?_
  intro p e s m args below meth c s₁ B hml hv
  obtain ⟨rfl, hP, hK, hN⟩ := hv
  have hx := B.exec
  have hb := B.bytes
  have hr := B.returns
  have hts := atoms_spec (ws := wsX8_settledByMean) B.pre
  have hown : s.vm.findClass RX8 = some m.cls := findClass_of_methodNamed B.named
  have hlocks := B.notSynchronized
  have hinX8 : ∀ w ∈ u_ws RX8 TX8 6, w ∈ wsX8_settledByMean := fun w h => List.mem_cons_of_mem _ (List.mem_append_left _ (List.mem_append_right _ h))
  have hinX2 : ∀ w ∈ u_ws RX2 TX2 2, w ∈ wsX8_settledByMean := fun w h => List.mem_cons_of_mem _ (List.mem_append_right _ h)
  have hP : va_P D vwCl [(h0, .inr (8, [.ref h1, .ref h3, .ref h5, .long v.2.2.2.1, .int v.2.2.2.2.1, .int v.2.2.2.2.2])), (h1, .inr (2, [.ref h2, .int v.1.2])), (h2, .inl ((cA 0), 8, .inr (.inl v.1.1))), (h3, .inr (2, [.ref h4, .int v.2.1.2])), (h4, .inl ((cA 0), 8, .inr (.inl v.2.1.1))), (h5, .inr (2, [.ref h6, .int v.2.2.1.2])), (h6, .inl ((cA 0), 8, .inr (.inl v.2.2.1.1)))] s.heap := hP
  have hl := lv_entry ([.ref h0]) (n := 1) (Nat.le_of_ble_eq_true rfl)
  rw [lg_entry_eq]
  generalize (lg_sl ([.ref h0]) ++ List.replicate (1 - (lg_sl ([.ref h0])).length) Slot.unset).toArray = ls at hl ⊢
  have hl : lv_has ls 1 [(0, .ref h0)] := hl
  refine z_genQ (fun Q hQ => ?_)
  refine lv_aload_n hx hb dX8_settledByMean_0 rfl (lv_at hl 0 rfl) ?_
  refine va_get (D := D) (ci := 8) (v := .ref h5) (C := RX8) (T := TX8) (N := 6) hx hb hts hinX8 hown hK hP 0 rfl rfl 2 (by decide) (hts (.fieldLink RX8 23 "GyroTrainer$Swings" "sums" "LGyroTrainer$Latest;") (List.mem_of_getElem? (i := 1) rfl)) (fun _ h9 => h9) rfl dX8_settledByMean_1 ?_
  refine va_get (D := D) (ci := 2) (v := .ref h6) (C := RX2) (T := TX2) (N := 2) hx hb hts hinX2 hown hK hP 5 rfl rfl 0 (by decide) (hts (.fieldLink RX8 51 "GyroTrainer$Latest" "numbers" "[J") (List.mem_of_getElem? (i := 2) rfl)) (fun _ h9 => h9) rfl dX8_settledByMean_4 ?_
  refine lv_iconst (v := 0) hx hb dX8_settledByMean_7 (by decide) ?_
  refine z_Rl (va_runSN (As := [.ref h6, .int (0 : Int32)]) (rest := []) ⟨hx, hb, hml, hown, hts⟩ (c_X9_at l D cA h6 8 v.2.2.1.1 (0 : Int32) (by decide)) (⟨va_cnB (host := "GyroTrainer") 2 hts gX8_settledByMean_X9_at_n55 rfl rfl rfl (hN.get 27 rfl) (hts (.initialized RX9) (List.mem_of_getElem? (i := 5) rfl)) (by decide +kernel) ⟨Nat.le_of_ble_eq_true rfl, Nat.le_of_ble_eq_true rfl⟩, (hts (.static yX9_at) (List.mem_of_getElem? (i := 4) rfl)), trivial⟩) (zpSR hK hP hN [6] [0, 1, 2, 3, 4] rfl rfl) rfl rfl hl.1 rfl (lv_room (Nat.le_of_ble_eq_true rfl)) dX8_settledByMean_8 ⟨Nat.le_of_ble_eq_true rfl, Nat.le_of_ble_eq_true rfl⟩) ?_
  refine lv_aload_n hx hb dX8_settledByMean_11 rfl (lv_at hl 0 rfl) ?_
  refine va_get (D := D) (ci := 8) (v := .ref h5) (C := RX8) (T := TX8) (N := 6) hx hb hts hinX8 hown hK hP 0 rfl rfl 2 (by decide) (hts (.fieldLink RX8 23 "GyroTrainer$Swings" "sums" "LGyroTrainer$Latest;") (List.mem_of_getElem? (i := 1) rfl)) (fun _ h9 => h9) rfl dX8_settledByMean_12 ?_
  refine va_get (D := D) (ci := 2) (v := .ref h6) (C := RX2) (T := TX2) (N := 2) hx hb hts hinX2 hown hK hP 5 rfl rfl 0 (by decide) (hts (.fieldLink RX8 51 "GyroTrainer$Latest" "numbers" "[J") (List.mem_of_getElem? (i := 2) rfl)) (fun _ h9 => h9) rfl dX8_settledByMean_15 ?_
  refine lv_iconst (v := 2) hx hb dX8_settledByMean_18 (by decide) ?_
  refine z_Rl (va_runSN (As := [.ref h6, .int (2 : Int32)]) (rest := [.long (zf_at 8 v.2.2.1.1 (0 : Int32))]) ⟨hx, hb, hml, hown, hts⟩ (c_X9_at l D cA h6 8 v.2.2.1.1 (2 : Int32) (by decide)) (⟨va_cnB (host := "GyroTrainer") 2 hts gX8_settledByMean_X9_at_n55 rfl rfl rfl (hN.get 27 rfl) (hts (.initialized RX9) (List.mem_of_getElem? (i := 5) rfl)) (by decide +kernel) ⟨Nat.le_of_ble_eq_true rfl, Nat.le_of_ble_eq_true rfl⟩, (hts (.static yX9_at) (List.mem_of_getElem? (i := 4) rfl)), trivial⟩) (zpSR hK hP hN [6] [0, 1, 2, 3, 4] rfl rfl) rfl rfl hl.1 rfl (lv_room (Nat.le_of_ble_eq_true rfl)) dX8_settledByMean_19 ⟨Nat.le_of_ble_eq_true rfl, Nat.le_of_ble_eq_true rfl⟩) ?_
  refine lv_lsub hx hb dX8_settledByMean_22 ?_
  refine lv_aload_n hx hb dX8_settledByMean_23 rfl (lv_at hl 0 rfl) ?_
  refine va_get (D := D) (ci := 8) (v := .ref h3) (C := RX8) (T := TX8) (N := 6) hx hb hts hinX8 hown hK hP 0 rfl rfl 1 (by decide) (hts (.fieldLink RX8 20 "GyroTrainer$Swings" "times" "LGyroTrainer$Latest;") (List.mem_of_getElem? (i := 3) rfl)) (fun _ h9 => h9) rfl dX8_settledByMean_24 ?_
  refine va_get (D := D) (ci := 2) (v := .ref h4) (C := RX2) (T := TX2) (N := 2) hx hb hts hinX2 hown hK hP 3 rfl rfl 0 (by decide) (hts (.fieldLink RX8 51 "GyroTrainer$Latest" "numbers" "[J") (List.mem_of_getElem? (i := 2) rfl)) (fun _ h9 => h9) rfl dX8_settledByMean_27 ?_
  refine lv_iconst (v := 0) hx hb dX8_settledByMean_30 (by decide) ?_
  refine z_Rl (va_runSN (As := [.ref h4, .int (0 : Int32)]) (rest := [.long ((zf_at 8 v.2.2.1.1 (0 : Int32)) - (zf_at 8 v.2.2.1.1 (2 : Int32)))]) ⟨hx, hb, hml, hown, hts⟩ (c_X9_at l D cA h4 8 v.2.1.1 (0 : Int32) (by decide)) (⟨va_cnB (host := "GyroTrainer") 2 hts gX8_settledByMean_X9_at_n55 rfl rfl rfl (hN.get 27 rfl) (hts (.initialized RX9) (List.mem_of_getElem? (i := 5) rfl)) (by decide +kernel) ⟨Nat.le_of_ble_eq_true rfl, Nat.le_of_ble_eq_true rfl⟩, (hts (.static yX9_at) (List.mem_of_getElem? (i := 4) rfl)), trivial⟩) (zpSR hK hP hN [4] [0, 1, 2, 3, 4] rfl rfl) rfl rfl hl.1 rfl (lv_room (Nat.le_of_ble_eq_true rfl)) dX8_settledByMean_31 ⟨Nat.le_of_ble_eq_true rfl, Nat.le_of_ble_eq_true rfl⟩) ?_
  refine lv_aload_n hx hb dX8_settledByMean_34 rfl (lv_at hl 0 rfl) ?_
  refine va_get (D := D) (ci := 8) (v := .ref h3) (C := RX8) (T := TX8) (N := 6) hx hb hts hinX8 hown hK hP 0 rfl rfl 1 (by decide) (hts (.fieldLink RX8 20 "GyroTrainer$Swings" "times" "LGyroTrainer$Latest;") (List.mem_of_getElem? (i := 3) rfl)) (fun _ h9 => h9) rfl dX8_settledByMean_35 ?_
  refine va_get (D := D) (ci := 2) (v := .ref h4) (C := RX2) (T := TX2) (N := 2) hx hb hts hinX2 hown hK hP 3 rfl rfl 0 (by decide) (hts (.fieldLink RX8 51 "GyroTrainer$Latest" "numbers" "[J") (List.mem_of_getElem? (i := 2) rfl)) (fun _ h9 => h9) rfl dX8_settledByMean_38 ?_
  refine lv_iconst (v := 2) hx hb dX8_settledByMean_41 (by decide) ?_
  refine z_Rl (va_runSN (As := [.ref h4, .int (2 : Int32)]) (rest := [.long (zf_at 8 v.2.1.1 (0 : Int32)), .long ((zf_at 8 v.2.2.1.1 (0 : Int32)) - (zf_at 8 v.2.2.1.1 (2 : Int32)))]) ⟨hx, hb, hml, hown, hts⟩ (c_X9_at l D cA h4 8 v.2.1.1 (2 : Int32) (by decide)) (⟨va_cnB (host := "GyroTrainer") 2 hts gX8_settledByMean_X9_at_n55 rfl rfl rfl (hN.get 27 rfl) (hts (.initialized RX9) (List.mem_of_getElem? (i := 5) rfl)) (by decide +kernel) ⟨Nat.le_of_ble_eq_true rfl, Nat.le_of_ble_eq_true rfl⟩, (hts (.static yX9_at) (List.mem_of_getElem? (i := 4) rfl)), trivial⟩) (zpSR hK hP hN [4] [0, 1, 2, 3, 4] rfl rfl) rfl rfl hl.1 rfl (lv_room (Nat.le_of_ble_eq_true rfl)) dX8_settledByMean_42 ⟨Nat.le_of_ble_eq_true rfl, Nat.le_of_ble_eq_true rfl⟩) ?_
  refine lv_lsub hx hb dX8_settledByMean_45 ?_
  refine z_Rl (va_runSN (As := [.long ((zf_at 8 v.2.2.1.1 (0 : Int32)) - (zf_at 8 v.2.2.1.1 (2 : Int32))), .long ((zf_at 8 v.2.1.1 (0 : Int32)) - (zf_at 8 v.2.1.1 (2 : Int32)))]) (rest := []) ⟨hx, hb, hml, hown, hts⟩ (c_X9_quotient l D cA  ((zf_at 8 v.2.2.1.1 (0 : Int32)) - (zf_at 8 v.2.2.1.1 (2 : Int32))) ((zf_at 8 v.2.1.1 (0 : Int32)) - (zf_at 8 v.2.1.1 (2 : Int32)))) (⟨va_cnB (host := "GyroTrainer") 2 hts gX8_settledByMean_X9_quotient_n63 rfl rfl rfl (hN.get 28 rfl) (hts (.initialized RX9) (List.mem_of_getElem? (i := 5) rfl)) (by decide +kernel) ⟨Nat.le_of_ble_eq_true rfl, Nat.le_of_ble_eq_true rfl⟩, (hts (.static yX9_quotient) (List.mem_of_getElem? (i := 7) rfl)), trivial⟩) (zpSR hK hP hN [] [0, 1, 2, 3, 4] rfl rfl) rfl rfl hl.1 rfl (lv_room (Nat.le_of_ble_eq_true rfl)) dX8_settledByMean_46 ⟨Nat.le_of_ble_eq_true rfl, Nat.le_of_ble_eq_true rfl⟩) ?_
  have e9 : (zf_byMean v) = (zf_quot ((zf_at 8 v.2.2.1.1 (0 : Int32)) - (zf_at 8 v.2.2.1.1 (2 : Int32))) ((zf_at 8 v.2.1.1 (0 : Int32)) - (zf_at 8 v.2.1.1 (2 : Int32)))) := by rfl
  subst hQ
  exact W.lret (v := (zf_quot ((zf_at 8 v.2.2.1.1 (0 : Int32)) - (zf_at 8 v.2.2.1.1 (2 : Int32))) ((zf_at 8 v.2.1.1 (0 : Int32)) - (zf_at 8 v.2.1.1 (2 : Int32))))) hx hb hr (fun t ht hW => ⟨_, rfl, e9.symm, ht⟩) (fun q h => by cases h) dX8_settledByMean_49
set_option maxHeartbeats 4000000 in
set_option maxRecDepth 100000 in
theorem c_X8_lastSwing (l : Launch) (D : va_G) (cA : Nat → ClassId) (h0 h1 h2 h3 h4 h5 h6 : Nat) (v : vX8)  : Met l yX8_lastSwing wsX8_lastSwing ({ frames := 1, cells := 0, slots := 0, locals := 21 }) (va_Pc [.ref h0] (zPreR D (zty cA) (wX8 cA h0 h1 h2 h3 h4 h5 h6 v))) (vp_Sl (fun x => x = (zf_last v))) 0 0 (fun _ => False) := by
  refine Met.ofW (cc := cX8_lastSwing) (maxL := 1) (ret := (some .long)) (by decide) rfl ?_
  intro p e s m args below meth c s₁ B hml hv
  obtain ⟨rfl, hP, hK, hN⟩ := hv
  have hx := B.exec
  have hb := B.bytes
  have hr := B.returns
  have hts := atoms_spec (ws := wsX8_lastSwing) B.pre
  have hown : s.vm.findClass RX8 = some m.cls := findClass_of_methodNamed B.named
  have hlocks := B.notSynchronized
  have hinX8 : ∀ w ∈ u_ws RX8 TX8 6, w ∈ wsX8_lastSwing := fun w h => List.mem_cons_of_mem _ (List.mem_append_left _ (List.mem_append_right _ h))
  have hinX2 : ∀ w ∈ u_ws RX2 TX2 2, w ∈ wsX8_lastSwing := fun w h => List.mem_cons_of_mem _ (List.mem_append_right _ h)
  have hP : va_P D vwCl [(h0, .inr (8, [.ref h1, .ref h3, .ref h5, .long v.2.2.2.1, .int v.2.2.2.2.1, .int v.2.2.2.2.2])), (h1, .inr (2, [.ref h2, .int v.1.2])), (h2, .inl ((cA 0), 8, .inr (.inl v.1.1))), (h3, .inr (2, [.ref h4, .int v.2.1.2])), (h4, .inl ((cA 0), 8, .inr (.inl v.2.1.1))), (h5, .inr (2, [.ref h6, .int v.2.2.1.2])), (h6, .inl ((cA 0), 8, .inr (.inl v.2.2.1.1)))] s.heap := hP
  have hl := lv_entry ([.ref h0]) (n := 1) (Nat.le_of_ble_eq_true rfl)
  rw [lg_entry_eq]
  generalize (lg_sl ([.ref h0]) ++ List.replicate (1 - (lg_sl ([.ref h0])).length) Slot.unset).toArray = ls at hl ⊢
  have hl : lv_has ls 1 [(0, .ref h0)] := hl
  refine z_genQ (fun Q hQ => ?_)
  refine lv_aload_n hx hb dX8_lastSwing_0 rfl (lv_at hl 0 rfl) ?_
  refine va_get (D := D) (ci := 8) (v := .ref h1) (C := RX8) (T := TX8) (N := 6) hx hb hts hinX8 hown hK hP 0 rfl rfl 0 (by decide) (hts (.fieldLink RX8 14 "GyroTrainer$Swings" "errors" "LGyroTrainer$Latest;") (List.mem_of_getElem? (i := 1) rfl)) (fun _ h9 => h9) rfl dX8_lastSwing_1 ?_
  refine va_get (D := D) (ci := 2) (v := .ref h2) (C := RX2) (T := TX2) (N := 2) hx hb hts hinX2 hown hK hP 1 rfl rfl 0 (by decide) (hts (.fieldLink RX8 51 "GyroTrainer$Latest" "numbers" "[J") (List.mem_of_getElem? (i := 2) rfl)) (fun _ h9 => h9) rfl dX8_lastSwing_4 ?_
  refine lv_iconst (v := 0) hx hb dX8_lastSwing_7 (by decide) ?_
  refine z_Rl (va_runSN (As := [.ref h2, .int (0 : Int32)]) (rest := []) ⟨hx, hb, hml, hown, hts⟩ (c_X9_at l D cA h2 8 v.1.1 (0 : Int32) (by decide)) (⟨va_cnB (host := "GyroTrainer") 2 hts gX8_lastSwing_X9_at_n55 rfl rfl rfl (hN.get 27 rfl) (hts (.initialized RX9) (List.mem_of_getElem? (i := 4) rfl)) (by decide +kernel) ⟨Nat.le_of_ble_eq_true rfl, Nat.le_of_ble_eq_true rfl⟩, (hts (.static yX9_at) (List.mem_of_getElem? (i := 3) rfl)), trivial⟩) (zpSR hK hP hN [2] [0, 1, 2, 3, 4] rfl rfl) rfl rfl hl.1 rfl (lv_room (Nat.le_of_ble_eq_true rfl)) dX8_lastSwing_8 ⟨Nat.le_of_ble_eq_true rfl, Nat.le_of_ble_eq_true rfl⟩) ?_
  refine lv_aload_n hx hb dX8_lastSwing_11 rfl (lv_at hl 0 rfl) ?_
  refine va_get (D := D) (ci := 8) (v := .ref h1) (C := RX8) (T := TX8) (N := 6) hx hb hts hinX8 hown hK hP 0 rfl rfl 0 (by decide) (hts (.fieldLink RX8 14 "GyroTrainer$Swings" "errors" "LGyroTrainer$Latest;") (List.mem_of_getElem? (i := 1) rfl)) (fun _ h9 => h9) rfl dX8_lastSwing_12 ?_
  refine va_get (D := D) (ci := 2) (v := .ref h2) (C := RX2) (T := TX2) (N := 2) hx hb hts hinX2 hown hK hP 1 rfl rfl 0 (by decide) (hts (.fieldLink RX8 51 "GyroTrainer$Latest" "numbers" "[J") (List.mem_of_getElem? (i := 2) rfl)) (fun _ h9 => h9) rfl dX8_lastSwing_15 ?_
  refine lv_iconst (v := 1) hx hb dX8_lastSwing_18 (by decide) ?_
  refine z_Rl (va_runSN (As := [.ref h2, .int (1 : Int32)]) (rest := [.long (zf_at 8 v.1.1 (0 : Int32))]) ⟨hx, hb, hml, hown, hts⟩ (c_X9_at l D cA h2 8 v.1.1 (1 : Int32) (by decide)) (⟨va_cnB (host := "GyroTrainer") 2 hts gX8_lastSwing_X9_at_n55 rfl rfl rfl (hN.get 27 rfl) (hts (.initialized RX9) (List.mem_of_getElem? (i := 4) rfl)) (by decide +kernel) ⟨Nat.le_of_ble_eq_true rfl, Nat.le_of_ble_eq_true rfl⟩, (hts (.static yX9_at) (List.mem_of_getElem? (i := 3) rfl)), trivial⟩) (zpSR hK hP hN [2] [0, 1, 2, 3, 4] rfl rfl) rfl rfl hl.1 rfl (lv_room (Nat.le_of_ble_eq_true rfl)) dX8_lastSwing_19 ⟨Nat.le_of_ble_eq_true rfl, Nat.le_of_ble_eq_true rfl⟩) ?_
  refine lv_lsub hx hb dX8_lastSwing_22 ?_
  have e9 : (zf_last v) = ((zf_at 8 v.1.1 (0 : Int32)) - (zf_at 8 v.1.1 (1 : Int32))) := by rfl
  subst hQ
  exact W.lret (v := ((zf_at 8 v.1.1 (0 : Int32)) - (zf_at 8 v.1.1 (1 : Int32)))) hx hb hr (fun t ht hW => ⟨_, rfl, e9.symm, ht⟩) (fun q h => by cases h) dX8_lastSwing_23
set_option maxHeartbeats 4000000 in
set_option maxRecDepth 100000 in
theorem c_X6_copyFrom (l : Launch) (D : va_G) (cA : Nat → ClassId) (h0 h1 h2 h3 h4 h5 h6 h7 : Nat) (sz : Nat) (v : vX6) (o : vX6)  : Met l yX6_copyFrom wsX6_copyFrom ({ frames := 2, cells := 0, slots := 0, locals := 43 }) (va_Pc [.ref h0, .ref h4] (zPre D (zty cA) (wX6 cA h0 h1 h2 h3 v ++ wX6 cA h4 h5 h6 h7 o) sz)) (va_Qv (fun (u : vX6) => u = o) (fun u => zPost D (zty cA) (va_A (wX6 cA h0 h1 h2 h3 v ++ wX6 cA h4 h5 h6 h7 o) sz) (wX6 cA h0 h1 h2 h3 u ++ wX6 cA h4 h5 h6 h7 o)) (va_A (wX6 cA h0 h1 h2 h3 v ++ wX6 cA h4 h5 h6 h7 o) sz)) 0 0 (va_A (wX6 cA h0 h1 h2 h3 v ++ wX6 cA h4 h5 h6 h7 o) sz) := by
  refine Met.ofW (cc := cX6_copyFrom) (maxL := 2) (ret := none) (by decide) rfl ?_
  intro p e s m args below meth c s₁ B hml hv
  obtain ⟨rfl, hsz, hP, hK, hD0, hE⟩ := hv
  have hx := B.exec
  have hb := B.bytes
  have hr := B.returns
  have hts := atoms_spec (ws := wsX6_copyFrom) B.pre
  have hown : s.vm.findClass RX6 = some m.cls := findClass_of_methodNamed B.named
  have hlocks := B.notSynchronized
  have hinX6 : ∀ w ∈ u_ws RX6 TX6 4, w ∈ wsX6_copyFrom := fun w h => List.mem_cons_of_mem _ (List.mem_append_left _ (List.mem_append_right _ h))
  have hinX2 : ∀ w ∈ u_ws RX2 TX2 2, w ∈ wsX6_copyFrom := fun w h => List.mem_cons_of_mem _ (List.mem_append_right _ h)
  subst hsz
  have hD := hD0.self (sz := s.heap.size)
  generalize hAe : va_A (wX6 cA h0 h1 h2 h3 v ++ wX6 cA h4 h5 h6 h7 o) s.heap.size = A at hD hE ⊢
  have hA : ∀ q : Nat, s.heap.size ≤ q → A q := fun q h => by rw [← hAe]; exact Or.inr h
  have hS : va_S A s.heap s.heap [] := va_S.rf
  have hN : zN s := hE.1
  have hP : va_P D vwCl [(h0, .inr (6, [.ref h1, .ref h2, .int v.2.2.1, .int v.2.2.2])), (h1, .inl ((cA 0), 6, .inr (.inl v.1))), (h2, .inr (2, [.ref h3, .int v.2.1.2])), (h3, .inl ((cA 0), 5, .inr (.inl v.2.1.1))), (h4, .inr (6, [.ref h5, .ref h6, .int o.2.2.1, .int o.2.2.2])), (h5, .inl ((cA 0), 6, .inr (.inl o.1))), (h6, .inr (2, [.ref h7, .int o.2.1.2])), (h7, .inl ((cA 0), 5, .inr (.inl o.2.1.1)))] s.heap := hP
  have hD : va_D A [(h0, .inr (6, [.ref h1, .ref h2, .int v.2.2.1, .int v.2.2.2])), (h1, .inl ((cA 0), 6, .inr (.inl v.1))), (h2, .inr (2, [.ref h3, .int v.2.1.2])), (h3, .inl ((cA 0), 5, .inr (.inl v.2.1.1))), (h4, .inr (6, [.ref h5, .ref h6, .int o.2.2.1, .int o.2.2.2])), (h5, .inl ((cA 0), 6, .inr (.inl o.1))), (h6, .inr (2, [.ref h7, .int o.2.1.2])), (h7, .inl ((cA 0), 5, .inr (.inl o.2.1.1)))] := hD
  have hl := lv_entry ([.ref h0, .ref h4]) (n := 2) (Nat.le_of_ble_eq_true rfl)
  rw [lg_entry_eq]
  generalize (lg_sl ([.ref h0, .ref h4]) ++ List.replicate (2 - (lg_sl ([.ref h0, .ref h4])).length) Slot.unset).toArray = ls at hl ⊢
  have hl : lv_has ls 2 [(0, .ref h0), (1, .ref h4)] := hl
  refine z_genQ (fun Q hQ => ?_)
  refine lv_aload_n hx hb dX6_copyFrom_0 rfl (lv_at hl 1 rfl) ?_
  refine va_get (D := D) (ci := 6) (v := .ref h5) (C := RX6) (T := TX6) (N := 4) hx hb hts hinX6 hown hK hP 4 rfl rfl 0 (by decide) (hts (.fieldLink RX6 9 "GyroTrainer$Sights" "bearings" "[J") (List.mem_of_getElem? (i := 1) rfl)) (fun _ h9 => h9) rfl dX6_copyFrom_1 ?_
  refine lv_aload_n hx hb dX6_copyFrom_4 rfl (lv_at hl 0 rfl) ?_
  refine va_get (D := D) (ci := 6) (v := .ref h1) (C := RX6) (T := TX6) (N := 4) hx hb hts hinX6 hown hK hP 0 rfl rfl 0 (by decide) (hts (.fieldLink RX6 9 "GyroTrainer$Sights" "bearings" "[J") (List.mem_of_getElem? (i := 1) rfl)) (fun _ h9 => h9) rfl dX6_copyFrom_5 ?_
  refine z_Gv (wr := [(h0, .inr (6, [.ref h1, .ref h2, .int v.2.2.1, .int v.2.2.2])), (h2, .inr (2, [.ref h3, .int v.2.1.2])), (h3, .inl ((cA 0), 5, .inr (.inl v.2.1.1))), (h4, .inr (6, [.ref h5, .ref h6, .int o.2.2.1, .int o.2.2.2])), (h6, .inr (2, [.ref h7, .int o.2.1.2])), (h7, .inl ((cA 0), 5, .inr (.inl o.2.1.1)))]) (wt := (fun (u_1 : (Nat → Int64)) => [(h0, .inr (6, [.ref h1, .ref h2, .int v.2.2.1, .int v.2.2.2])), (h1, .inl ((cA 0), 6, .inr (.inl u_1))), (h2, .inr (2, [.ref h3, .int v.2.1.2])), (h3, .inl ((cA 0), 5, .inr (.inl v.2.1.1))), (h4, .inr (6, [.ref h5, .ref h6, .int o.2.2.1, .int o.2.2.2])), (h5, .inl ((cA 0), 6, .inr (.inl o.1))), (h6, .inr (2, [.ref h7, .int o.2.1.2])), (h7, .inl ((cA 0), 5, .inr (.inl o.2.1.1)))])) (va_runSN (As := [.ref h5, .ref h1]) (rest := []) ⟨hx, hb, hml, hown, hts⟩ (c_X9_copy l D cA h5 h1 s.heap.size 6 o.1 v.1 (by decide)) (⟨va_cnB (host := "GyroTrainer") 2 hts gX6_copyFrom_X9_copy_n24 rfl rfl rfl (hN.get 11 rfl) (hts (.initialized RX9) (List.mem_of_getElem? (i := 6) rfl)) (by decide +kernel) ⟨Nat.le_of_ble_eq_true rfl, Nat.le_of_ble_eq_true rfl⟩, (hts (.static yX9_copy) (List.mem_of_getElem? (i := 5) rfl)), trivial⟩) (zpS hK hP hD hS hA hE [5, 1] [0, 1, 2, 3, 4] rfl (by decide) rfl) rfl rfl hl.1 rfl (lv_room (Nat.le_of_ble_eq_true rfl)) dX6_copyFrom_8 ⟨Nat.le_of_ble_eq_true rfl, Nat.le_of_ble_eq_true rfl⟩) hP hD hS hA [5, 1] [0, 2, 3, 4, 6, 7] [0, 7, 1, 2, 3, 6, 4, 5] rfl rfl (by decide) (fun _ => rfl) (fun u_1 H locs eu_1 hP hD hS => ?_)
  have hP : va_P D vwCl [(h0, .inr (6, [.ref h1, .ref h2, .int v.2.2.1, .int v.2.2.2])), (h1, .inl ((cA 0), 6, .inr (.inl u_1))), (h2, .inr (2, [.ref h3, .int v.2.1.2])), (h3, .inl ((cA 0), 5, .inr (.inl v.2.1.1))), (h4, .inr (6, [.ref h5, .ref h6, .int o.2.2.1, .int o.2.2.2])), (h5, .inl ((cA 0), 6, .inr (.inl o.1))), (h6, .inr (2, [.ref h7, .int o.2.1.2])), (h7, .inl ((cA 0), 5, .inr (.inl o.2.1.1)))] H := hP
  have hD : va_D A [(h0, .inr (6, [.ref h1, .ref h2, .int v.2.2.1, .int v.2.2.2])), (h1, .inl ((cA 0), 6, .inr (.inl u_1))), (h2, .inr (2, [.ref h3, .int v.2.1.2])), (h3, .inl ((cA 0), 5, .inr (.inl v.2.1.1))), (h4, .inr (6, [.ref h5, .ref h6, .int o.2.2.1, .int o.2.2.2])), (h5, .inl ((cA 0), 6, .inr (.inl o.1))), (h6, .inr (2, [.ref h7, .int o.2.1.2])), (h7, .inl ((cA 0), 5, .inr (.inl o.2.1.1)))] := hD
  refine lv_aload_n hx hb dX6_copyFrom_11 rfl (lv_at hl 0 rfl) ?_
  refine va_get (D := D) (ci := 6) (v := .ref h2) (C := RX6) (T := TX6) (N := 4) hx hb hts hinX6 hown hK hP 0 rfl rfl 1 (by decide) (hts (.fieldLink RX6 20 "GyroTrainer$Sights" "checks" "LGyroTrainer$Latest;") (List.mem_of_getElem? (i := 2) rfl)) (fun _ h9 => h9) rfl dX6_copyFrom_12 ?_
  refine lv_aload_n hx hb dX6_copyFrom_15 rfl (lv_at hl 1 rfl) ?_
  refine va_get (D := D) (ci := 6) (v := .ref h6) (C := RX6) (T := TX6) (N := 4) hx hb hts hinX6 hown hK hP 4 rfl rfl 1 (by decide) (hts (.fieldLink RX6 20 "GyroTrainer$Sights" "checks" "LGyroTrainer$Latest;") (List.mem_of_getElem? (i := 2) rfl)) (fun _ h9 => h9) rfl dX6_copyFrom_16 ?_
  refine z_Gv (wr := [(h0, .inr (6, [.ref h1, .ref h2, .int v.2.2.1, .int v.2.2.2])), (h1, .inl ((cA 0), 6, .inr (.inl u_1))), (h4, .inr (6, [.ref h5, .ref h6, .int o.2.2.1, .int o.2.2.2])), (h5, .inl ((cA 0), 6, .inr (.inl o.1)))]) (wt := (fun (u_3 : vX2) => [(h0, .inr (6, [.ref h1, .ref h2, .int v.2.2.1, .int v.2.2.2])), (h1, .inl ((cA 0), 6, .inr (.inl u_1))), (h2, .inr (2, [.ref h3, .int u_3.2])), (h3, .inl ((cA 0), 5, .inr (.inl u_3.1))), (h4, .inr (6, [.ref h5, .ref h6, .int o.2.2.1, .int o.2.2.2])), (h5, .inl ((cA 0), 6, .inr (.inl o.1))), (h6, .inr (2, [.ref h7, .int o.2.1.2])), (h7, .inl ((cA 0), 5, .inr (.inl o.2.1.1)))])) (va_runV (As := [.ref h6]) (rest := []) ⟨hx, hb, hml, hown, hts⟩ (c_X2_copyFrom l D cA h2 h3 h6 h7 H.size 5 v.2.1 o.2.1 (by decide)) (cwV 1 hts gX6_copyFrom_X2_copyFrom rfl rfl rfl (by decide +kernel) ⟨Nat.le_of_ble_eq_true rfl, Nat.le_of_ble_eq_true rfl⟩) (zpV hK hP hD hS hA hE [2, 3, 6, 7] [0, 1, 2, 3, 4] rfl (by decide) rfl 0 rfl rfl) rfl rfl hl.1 rfl (lv_room (Nat.le_of_ble_eq_true rfl)) dX6_copyFrom_19 ⟨Nat.le_of_ble_eq_true rfl, Nat.le_of_ble_eq_true rfl⟩) hP hD hS hA [2, 3, 6, 7] [0, 1, 4, 5] [0, 1, 4, 5, 2, 3, 6, 7] rfl rfl (by decide) (fun _ => rfl) (fun u_3 H locs eu_3 hP hD hS => ?_)
  have hP : va_P D vwCl [(h0, .inr (6, [.ref h1, .ref h2, .int v.2.2.1, .int v.2.2.2])), (h1, .inl ((cA 0), 6, .inr (.inl u_1))), (h2, .inr (2, [.ref h3, .int u_3.2])), (h3, .inl ((cA 0), 5, .inr (.inl u_3.1))), (h4, .inr (6, [.ref h5, .ref h6, .int o.2.2.1, .int o.2.2.2])), (h5, .inl ((cA 0), 6, .inr (.inl o.1))), (h6, .inr (2, [.ref h7, .int o.2.1.2])), (h7, .inl ((cA 0), 5, .inr (.inl o.2.1.1)))] H := hP
  have hD : va_D A [(h0, .inr (6, [.ref h1, .ref h2, .int v.2.2.1, .int v.2.2.2])), (h1, .inl ((cA 0), 6, .inr (.inl u_1))), (h2, .inr (2, [.ref h3, .int u_3.2])), (h3, .inl ((cA 0), 5, .inr (.inl u_3.1))), (h4, .inr (6, [.ref h5, .ref h6, .int o.2.2.1, .int o.2.2.2])), (h5, .inl ((cA 0), 6, .inr (.inl o.1))), (h6, .inr (2, [.ref h7, .int o.2.1.2])), (h7, .inl ((cA 0), 5, .inr (.inl o.2.1.1)))] := hD
  refine lv_aload_n hx hb dX6_copyFrom_22 rfl (lv_at hl 0 rfl) ?_
  refine lv_aload_n hx hb dX6_copyFrom_23 rfl (lv_at hl 1 rfl) ?_
  refine va_get (D := D) (ci := 6) (v := .int o.2.2.1) (C := RX6) (T := TX6) (N := 4) hx hb hts hinX6 hown hK hP 4 rfl rfl 2 (by decide) (hts (.fieldLink RX6 32 "GyroTrainer$Sights" "lines" "I") (List.mem_of_getElem? (i := 3) rfl)) (fun _ h9 => h9) rfl dX6_copyFrom_24 ?_
  refine va_put (D := D) (ci := 6) (v := .int o.2.2.1) (ty := .int) (C := RX6) (T := TX6) (N := 4) hx hb hts hinX6 tyX6 tyX6_ok nmX6 hown hK hP hD hS 0 rfl rfl 2 (by decide) (hts (.fieldLink RX6 32 "GyroTrainer$Sights" "lines" "I") (List.mem_of_getElem? (i := 3) rfl)) (fun _ h9 => h9) rfl (by decide +kernel) rfl rfl (Nat.le_of_ble_eq_true rfl) dX6_copyFrom_27 (fun H locs hP hD hS => ?_)
  have hP : va_P D vwCl [(h0, .inr (6, [.ref h1, .ref h2, .int o.2.2.1, .int v.2.2.2])), (h1, .inl ((cA 0), 6, .inr (.inl u_1))), (h2, .inr (2, [.ref h3, .int u_3.2])), (h3, .inl ((cA 0), 5, .inr (.inl u_3.1))), (h4, .inr (6, [.ref h5, .ref h6, .int o.2.2.1, .int o.2.2.2])), (h5, .inl ((cA 0), 6, .inr (.inl o.1))), (h6, .inr (2, [.ref h7, .int o.2.1.2])), (h7, .inl ((cA 0), 5, .inr (.inl o.2.1.1)))] H := hP
  have hD : va_D A [(h0, .inr (6, [.ref h1, .ref h2, .int o.2.2.1, .int v.2.2.2])), (h1, .inl ((cA 0), 6, .inr (.inl u_1))), (h2, .inr (2, [.ref h3, .int u_3.2])), (h3, .inl ((cA 0), 5, .inr (.inl u_3.1))), (h4, .inr (6, [.ref h5, .ref h6, .int o.2.2.1, .int o.2.2.2])), (h5, .inl ((cA 0), 6, .inr (.inl o.1))), (h6, .inr (2, [.ref h7, .int o.2.1.2])), (h7, .inl ((cA 0), 5, .inr (.inl o.2.1.1)))] := hD
  refine lv_aload_n hx hb dX6_copyFrom_30 rfl (lv_at hl 0 rfl) ?_
  refine lv_aload_n hx hb dX6_copyFrom_31 rfl (lv_at hl 1 rfl) ?_
  refine va_get (D := D) (ci := 6) (v := .int o.2.2.2) (C := RX6) (T := TX6) (N := 4) hx hb hts hinX6 hown hK hP 4 rfl rfl 3 (by decide) (hts (.fieldLink RX6 36 "GyroTrainer$Sights" "observations" "I") (List.mem_of_getElem? (i := 4) rfl)) (fun _ h9 => h9) rfl dX6_copyFrom_32 ?_
  refine va_put (D := D) (ci := 6) (v := .int o.2.2.2) (ty := .int) (C := RX6) (T := TX6) (N := 4) hx hb hts hinX6 tyX6 tyX6_ok nmX6 hown hK hP hD hS 0 rfl rfl 3 (by decide) (hts (.fieldLink RX6 36 "GyroTrainer$Sights" "observations" "I") (List.mem_of_getElem? (i := 4) rfl)) (fun _ h9 => h9) rfl (by decide +kernel) rfl rfl (Nat.le_of_ble_eq_true rfl) dX6_copyFrom_35 (fun H locs hP hD hS => ?_)
  have hP : va_P D vwCl [(h0, .inr (6, [.ref h1, .ref h2, .int o.2.2.1, .int o.2.2.2])), (h1, .inl ((cA 0), 6, .inr (.inl u_1))), (h2, .inr (2, [.ref h3, .int u_3.2])), (h3, .inl ((cA 0), 5, .inr (.inl u_3.1))), (h4, .inr (6, [.ref h5, .ref h6, .int o.2.2.1, .int o.2.2.2])), (h5, .inl ((cA 0), 6, .inr (.inl o.1))), (h6, .inr (2, [.ref h7, .int o.2.1.2])), (h7, .inl ((cA 0), 5, .inr (.inl o.2.1.1)))] H := hP
  have hD : va_D A [(h0, .inr (6, [.ref h1, .ref h2, .int o.2.2.1, .int o.2.2.2])), (h1, .inl ((cA 0), 6, .inr (.inl u_1))), (h2, .inr (2, [.ref h3, .int u_3.2])), (h3, .inl ((cA 0), 5, .inr (.inl u_3.1))), (h4, .inr (6, [.ref h5, .ref h6, .int o.2.2.1, .int o.2.2.2])), (h5, .inl ((cA 0), 6, .inr (.inl o.1))), (h6, .inr (2, [.ref h7, .int o.2.1.2])), (h7, .inl ((cA 0), 5, .inr (.inl o.2.1.1)))] := hD
  have e9 : o = (u_1, u_3, o.2.2.1, o.2.2.2) := by subst eu_1; subst eu_3; rfl
  have hP9 : va_P D vwCl (wX6 cA h0 h1 h2 h3 ((u_1, u_3, o.2.2.1, o.2.2.2) : vX6) ++ wX6 cA h4 h5 h6 h7 o) H := hP
  have hD9 : va_D A (wX6 cA h0 h1 h2 h3 ((u_1, u_3, o.2.2.1, o.2.2.2) : vX6) ++ wX6 cA h4 h5 h6 h7 o) := hD
  subst hQ
  exact W.vret hx hb hr (fun t ht hW => ⟨⟨(u_1, u_3, o.2.2.1, o.2.2.2), rfl, e9.symm, ⟨by rw [ht]; exact hP9, va_K.moved hW.alike hK, hD9⟩⟩, hS.F ht⟩) hS.2.2 dX6_copyFrom_38
set_option maxHeartbeats 4000000 in
set_option maxRecDepth 100000 in
theorem c_X6_addLine (l : Launch) (D : va_G) (cA : Nat → ClassId) (h0 h1 h2 h3 : Nat) (sz : Nat) (v : vX6) (y0 : Int64)  : Met l yX6_addLine wsX6_addLine ({ frames := 1, cells := 0, slots := 0, locals := 23 }) (va_Pc [.ref h0, .long y0] (zPre D (zty cA) (wX6 cA h0 h1 h2 h3 v) sz)) (va_Qi (fun (x : Int32) (u : vX6) => (x, u) = (zf_addLine v y0)) (fun u => zPost D (zty cA) (va_A (wX6 cA h0 h1 h2 h3 v) sz) (wX6 cA h0 h1 h2 h3 u)) (va_A (wX6 cA h0 h1 h2 h3 v) sz)) 0 0 (va_A (wX6 cA h0 h1 h2 h3 v) sz) := by
  refine Met.ofW (cc := cX6_addLine) (maxL := 4) (ret := (some .int)) (by decide) rfl ?_
  intro p e s m args below meth c s₁ B hml hv
  obtain ⟨rfl, hsz, hP, hK, hD0, hE⟩ := hv
  have hx := B.exec
  have hb := B.bytes
  have hr := B.returns
  have hts := atoms_spec (ws := wsX6_addLine) B.pre
  have hown : s.vm.findClass RX6 = some m.cls := findClass_of_methodNamed B.named
  have hlocks := B.notSynchronized
  have hinX6 : ∀ w ∈ u_ws RX6 TX6 4, w ∈ wsX6_addLine := fun w h => List.mem_cons_of_mem _ (List.mem_append_right _ h)
  subst hsz
  have hD := hD0.self (sz := s.heap.size)
  generalize hAe : va_A (wX6 cA h0 h1 h2 h3 v) s.heap.size = A at hD hE ⊢
  have hA : ∀ q : Nat, s.heap.size ≤ q → A q := fun q h => by rw [← hAe]; exact Or.inr h
  have hS : va_S A s.heap s.heap [] := va_S.rf
  have hN : zN s := hE.1
  have hP : va_P D vwCl [(h0, .inr (6, [.ref h1, .ref h2, .int v.2.2.1, .int v.2.2.2])), (h1, .inl ((cA 0), 6, .inr (.inl v.1))), (h2, .inr (2, [.ref h3, .int v.2.1.2])), (h3, .inl ((cA 0), 5, .inr (.inl v.2.1.1)))] s.heap := hP
  have hD : va_D A [(h0, .inr (6, [.ref h1, .ref h2, .int v.2.2.1, .int v.2.2.2])), (h1, .inl ((cA 0), 6, .inr (.inl v.1))), (h2, .inr (2, [.ref h3, .int v.2.1.2])), (h3, .inl ((cA 0), 5, .inr (.inl v.2.1.1)))] := hD
  have hl := lv_entry ([.ref h0, .long y0]) (n := 4) (Nat.le_of_ble_eq_true rfl)
  rw [lg_entry_eq]
  generalize (lg_sl ([.ref h0, .long y0]) ++ List.replicate (4 - (lg_sl ([.ref h0, .long y0])).length) Slot.unset).toArray = ls at hl ⊢
  have hl : lv_has ls 4 [(0, .ref h0), (1, .long y0)] := hl
  refine z_genQ (fun Q hQ => ?_)
  refine lv_aload_n hx hb dX6_addLine_0 rfl (lv_at hl 0 rfl) ?_
  refine va_get (D := D) (ci := 6) (v := .int v.2.2.1) (C := RX6) (T := TX6) (N := 4) hx hb hts hinX6 hown hK hP 0 rfl rfl 2 (by decide) (hts (.fieldLink RX6 32 "GyroTrainer$Sights" "lines" "I") (List.mem_of_getElem? (i := 1) rfl)) (fun _ h9 => h9) rfl dX6_addLine_1 ?_
  refine lv_istore_n (lv' := [(3, .int v.2.2.1), (0, .ref h0), (1, .long y0)]) hx hb dX6_addLine_4 rfl hl (by decide) rfl (fun ls hl => ?_)
  refine lv_aload_n hx hb dX6_addLine_5 rfl (lv_at hl 1 rfl) ?_
  refine va_get (D := D) (ci := 6) (v := .ref h1) (C := RX6) (T := TX6) (N := 4) hx hb hts hinX6 hown hK hP 0 rfl rfl 0 (by decide) (hts (.fieldLink RX6 9 "GyroTrainer$Sights" "bearings" "[J") (List.mem_of_getElem? (i := 2) rfl)) (fun _ h9 => h9) rfl dX6_addLine_6 ?_
  refine lv_iload_n hx hb dX6_addLine_9 rfl (lv_at hl 0 rfl) ?_
  refine lv_lload_n hx hb dX6_addLine_10 rfl (lv_at hl 2 rfl) ?_
  refine z_Gv (wr := [(h0, .inr (6, [.ref h1, .ref h2, .int v.2.2.1, .int v.2.2.2])), (h2, .inr (2, [.ref h3, .int v.2.1.2])), (h3, .inl ((cA 0), 5, .inr (.inl v.2.1.1)))]) (wt := (fun (u_1 : (Nat → Int64)) => [(h0, .inr (6, [.ref h1, .ref h2, .int v.2.2.1, .int v.2.2.2])), (h1, .inl ((cA 0), 6, .inr (.inl u_1))), (h2, .inr (2, [.ref h3, .int v.2.1.2])), (h3, .inl ((cA 0), 5, .inr (.inl v.2.1.1)))])) (va_runSN (As := [.ref h1, .int v.2.2.1, .long y0]) (rest := []) ⟨hx, hb, hml, hown, hts⟩ (c_X9_write l D cA h1 s.heap.size 6 v.1 v.2.2.1 y0 (by decide)) (⟨va_cnB (host := "GyroTrainer") 3 hts gX6_addLine_X9_write_n39 rfl rfl rfl (hN.get 12 rfl) (hts (.initialized RX9) (List.mem_of_getElem? (i := 4) rfl)) (by decide +kernel) ⟨Nat.le_of_ble_eq_true rfl, Nat.le_of_ble_eq_true rfl⟩, (hts (.static yX9_write) (List.mem_of_getElem? (i := 3) rfl)), trivial⟩) (zpS hK hP hD hS hA hE [1] [0, 1, 2, 3, 4] rfl (by decide) rfl) rfl rfl hl.1 rfl (lv_room (Nat.le_of_ble_eq_true rfl)) dX6_addLine_11 ⟨Nat.le_of_ble_eq_true rfl, Nat.le_of_ble_eq_true rfl⟩) hP hD hS hA [1] [0, 2, 3] [0, 3, 1, 2] rfl rfl (by decide) (fun _ => rfl) (fun u_1 H locs eu_1 hP hD hS => ?_)
  have hP : va_P D vwCl [(h0, .inr (6, [.ref h1, .ref h2, .int v.2.2.1, .int v.2.2.2])), (h1, .inl ((cA 0), 6, .inr (.inl u_1))), (h2, .inr (2, [.ref h3, .int v.2.1.2])), (h3, .inl ((cA 0), 5, .inr (.inl v.2.1.1)))] H := hP
  have hD : va_D A [(h0, .inr (6, [.ref h1, .ref h2, .int v.2.2.1, .int v.2.2.2])), (h1, .inl ((cA 0), 6, .inr (.inl u_1))), (h2, .inr (2, [.ref h3, .int v.2.1.2])), (h3, .inl ((cA 0), 5, .inr (.inl v.2.1.1)))] := hD
  refine lv_aload_n hx hb dX6_addLine_14 rfl (lv_at hl 1 rfl) ?_
  refine lv_dup hx hb dX6_addLine_15 rfl ?_
  refine va_get (D := D) (ci := 6) (v := .int v.2.2.1) (C := RX6) (T := TX6) (N := 4) hx hb hts hinX6 hown hK hP 0 rfl rfl 2 (by decide) (hts (.fieldLink RX6 32 "GyroTrainer$Sights" "lines" "I") (List.mem_of_getElem? (i := 1) rfl)) (fun _ h9 => h9) rfl dX6_addLine_16 ?_
  refine lv_iconst (v := 1) hx hb dX6_addLine_19 (by decide) ?_
  refine lv_iadd hx hb dX6_addLine_20 ?_
  refine lv_topi (fun g_3 eg_3 => ?_)
  refine va_put (D := D) (ci := 6) (v := .int g_3) (ty := .int) (C := RX6) (T := TX6) (N := 4) hx hb hts hinX6 tyX6 tyX6_ok nmX6 hown hK hP hD hS 0 rfl rfl 2 (by decide) (hts (.fieldLink RX6 32 "GyroTrainer$Sights" "lines" "I") (List.mem_of_getElem? (i := 1) rfl)) (fun _ h9 => h9) rfl (by decide +kernel) rfl rfl (Nat.le_of_ble_eq_true rfl) dX6_addLine_21 (fun H locs hP hD hS => ?_)
  have hP : va_P D vwCl [(h0, .inr (6, [.ref h1, .ref h2, .int g_3, .int v.2.2.2])), (h1, .inl ((cA 0), 6, .inr (.inl u_1))), (h2, .inr (2, [.ref h3, .int v.2.1.2])), (h3, .inl ((cA 0), 5, .inr (.inl v.2.1.1)))] H := hP
  have hD : va_D A [(h0, .inr (6, [.ref h1, .ref h2, .int g_3, .int v.2.2.2])), (h1, .inl ((cA 0), 6, .inr (.inl u_1))), (h2, .inr (2, [.ref h3, .int v.2.1.2])), (h3, .inl ((cA 0), 5, .inr (.inl v.2.1.1)))] := hD
  refine lv_iload_n hx hb dX6_addLine_24 rfl (lv_at hl 0 rfl) ?_
  have e9 : (zf_addLine v y0) = (v.2.2.1, (u_1, v.2.1, g_3, v.2.2.2)) := by subst eu_1; subst eg_3; rfl
  have hP9 : va_P D vwCl (wX6 cA h0 h1 h2 h3 ((u_1, v.2.1, g_3, v.2.2.2) : vX6)) H := hP
  have hD9 : va_D A (wX6 cA h0 h1 h2 h3 ((u_1, v.2.1, g_3, v.2.2.2) : vX6)) := hD
  subst hQ
  exact W.iret (v := v.2.2.1) hx hb hr (fun t ht hW => ⟨⟨v.2.2.1, (u_1, v.2.1, g_3, v.2.2.2), rfl, e9.symm, ⟨by rw [ht]; exact hP9, va_K.moved hW.alike hK, hD9⟩⟩, hS.F ht⟩) hS.2.2 dX6_addLine_25
set_option maxHeartbeats 4000000 in
set_option maxRecDepth 100000 in
theorem c_X6_addCheck (l : Launch) (D : va_G) (cA : Nat → ClassId) (h0 h1 h2 h3 : Nat) (sz : Nat) (v : vX6) (y0 : Int64)  : Met l yX6_addCheck wsX6_addCheck ({ frames := 2, cells := 0, slots := 0, locals := 46 }) (va_Pc [.ref h0, .long y0] (zPre D (zty cA) (wX6 cA h0 h1 h2 h3 v) sz)) (va_Qv (fun (u : vX6) => u = (zf_addCheck v y0)) (fun u => zPost D (zty cA) (va_A (wX6 cA h0 h1 h2 h3 v) sz) (wX6 cA h0 h1 h2 h3 u)) (va_A (wX6 cA h0 h1 h2 h3 v) sz)) 0 0 (va_A (wX6 cA h0 h1 h2 h3 v) sz) := by
  refine Met.ofW (cc := cX6_addCheck) (maxL := 3) (ret := none) (by decide) rfl ?_
  intro p e s m args below meth c s₁ B hml hv
  obtain ⟨rfl, hsz, hP, hK, hD0, hE⟩ := hv
  have hx := B.exec
  have hb := B.bytes
  have hr := B.returns
  have hts := atoms_spec (ws := wsX6_addCheck) B.pre
  have hown : s.vm.findClass RX6 = some m.cls := findClass_of_methodNamed B.named
  have hlocks := B.notSynchronized
  have hinX6 : ∀ w ∈ u_ws RX6 TX6 4, w ∈ wsX6_addCheck := fun w h => List.mem_cons_of_mem _ (List.mem_append_left _ (List.mem_append_right _ h))
  have hinX2 : ∀ w ∈ u_ws RX2 TX2 2, w ∈ wsX6_addCheck := fun w h => List.mem_cons_of_mem _ (List.mem_append_right _ h)
  subst hsz
  have hD := hD0.self (sz := s.heap.size)
  generalize hAe : va_A (wX6 cA h0 h1 h2 h3 v) s.heap.size = A at hD hE ⊢
  have hA : ∀ q : Nat, s.heap.size ≤ q → A q := fun q h => by rw [← hAe]; exact Or.inr h
  have hS : va_S A s.heap s.heap [] := va_S.rf
  have hN : zN s := hE.1
  have hP : va_P D vwCl [(h0, .inr (6, [.ref h1, .ref h2, .int v.2.2.1, .int v.2.2.2])), (h1, .inl ((cA 0), 6, .inr (.inl v.1))), (h2, .inr (2, [.ref h3, .int v.2.1.2])), (h3, .inl ((cA 0), 5, .inr (.inl v.2.1.1)))] s.heap := hP
  have hD : va_D A [(h0, .inr (6, [.ref h1, .ref h2, .int v.2.2.1, .int v.2.2.2])), (h1, .inl ((cA 0), 6, .inr (.inl v.1))), (h2, .inr (2, [.ref h3, .int v.2.1.2])), (h3, .inl ((cA 0), 5, .inr (.inl v.2.1.1)))] := hD
  have hl := lv_entry ([.ref h0, .long y0]) (n := 3) (Nat.le_of_ble_eq_true rfl)
  rw [lg_entry_eq]
  generalize (lg_sl ([.ref h0, .long y0]) ++ List.replicate (3 - (lg_sl ([.ref h0, .long y0])).length) Slot.unset).toArray = ls at hl ⊢
  have hl : lv_has ls 3 [(0, .ref h0), (1, .long y0)] := hl
  refine z_genQ (fun Q hQ => ?_)
  refine lv_aload_n hx hb dX6_addCheck_0 rfl (lv_at hl 0 rfl) ?_
  refine va_get (D := D) (ci := 6) (v := .ref h2) (C := RX6) (T := TX6) (N := 4) hx hb hts hinX6 hown hK hP 0 rfl rfl 1 (by decide) (hts (.fieldLink RX6 20 "GyroTrainer$Sights" "checks" "LGyroTrainer$Latest;") (List.mem_of_getElem? (i := 1) rfl)) (fun _ h9 => h9) rfl dX6_addCheck_1 ?_
  refine lv_lload_n hx hb dX6_addCheck_4 rfl (lv_at hl 1 rfl) ?_
  refine z_Gv (wr := [(h0, .inr (6, [.ref h1, .ref h2, .int v.2.2.1, .int v.2.2.2])), (h1, .inl ((cA 0), 6, .inr (.inl v.1)))]) (wt := (fun (u_1 : vX2) => [(h0, .inr (6, [.ref h1, .ref h2, .int v.2.2.1, .int v.2.2.2])), (h1, .inl ((cA 0), 6, .inr (.inl v.1))), (h2, .inr (2, [.ref h3, .int u_1.2])), (h3, .inl ((cA 0), 5, .inr (.inl u_1.1)))])) (va_runV (As := [.long y0]) (rest := []) ⟨hx, hb, hml, hown, hts⟩ (c_X2_add l D cA h2 h3 s.heap.size 5 v.2.1 y0 (by decide) (by decide)) (cwV 1 hts gX6_addCheck_X2_add rfl rfl rfl (by decide +kernel) ⟨Nat.le_of_ble_eq_true rfl, Nat.le_of_ble_eq_true rfl⟩) (zpV hK hP hD hS hA hE [2, 3] [0, 1, 2, 3, 4] rfl (by decide) rfl 0 rfl rfl) rfl rfl hl.1 rfl (lv_room (Nat.le_of_ble_eq_true rfl)) dX6_addCheck_5 ⟨Nat.le_of_ble_eq_true rfl, Nat.le_of_ble_eq_true rfl⟩) hP hD hS hA [2, 3] [0, 1] [0, 1, 2, 3] rfl rfl (by decide) (fun _ => rfl) (fun u_1 H locs eu_1 hP hD hS => ?_)
  have hP : va_P D vwCl [(h0, .inr (6, [.ref h1, .ref h2, .int v.2.2.1, .int v.2.2.2])), (h1, .inl ((cA 0), 6, .inr (.inl v.1))), (h2, .inr (2, [.ref h3, .int u_1.2])), (h3, .inl ((cA 0), 5, .inr (.inl u_1.1)))] H := hP
  have hD : va_D A [(h0, .inr (6, [.ref h1, .ref h2, .int v.2.2.1, .int v.2.2.2])), (h1, .inl ((cA 0), 6, .inr (.inl v.1))), (h2, .inr (2, [.ref h3, .int u_1.2])), (h3, .inl ((cA 0), 5, .inr (.inl u_1.1)))] := hD
  refine lv_aload_n hx hb dX6_addCheck_8 rfl (lv_at hl 0 rfl) ?_
  refine lv_dup hx hb dX6_addCheck_9 rfl ?_
  refine va_get (D := D) (ci := 6) (v := .int v.2.2.2) (C := RX6) (T := TX6) (N := 4) hx hb hts hinX6 hown hK hP 0 rfl rfl 3 (by decide) (hts (.fieldLink RX6 36 "GyroTrainer$Sights" "observations" "I") (List.mem_of_getElem? (i := 2) rfl)) (fun _ h9 => h9) rfl dX6_addCheck_10 ?_
  refine lv_iconst (v := 1) hx hb dX6_addCheck_13 (by decide) ?_
  refine lv_iadd hx hb dX6_addCheck_14 ?_
  refine lv_topi (fun g_3 eg_3 => ?_)
  refine va_put (D := D) (ci := 6) (v := .int g_3) (ty := .int) (C := RX6) (T := TX6) (N := 4) hx hb hts hinX6 tyX6 tyX6_ok nmX6 hown hK hP hD hS 0 rfl rfl 3 (by decide) (hts (.fieldLink RX6 36 "GyroTrainer$Sights" "observations" "I") (List.mem_of_getElem? (i := 2) rfl)) (fun _ h9 => h9) rfl (by decide +kernel) rfl rfl (Nat.le_of_ble_eq_true rfl) dX6_addCheck_15 (fun H locs hP hD hS => ?_)
  have hP : va_P D vwCl [(h0, .inr (6, [.ref h1, .ref h2, .int v.2.2.1, .int g_3])), (h1, .inl ((cA 0), 6, .inr (.inl v.1))), (h2, .inr (2, [.ref h3, .int u_1.2])), (h3, .inl ((cA 0), 5, .inr (.inl u_1.1)))] H := hP
  have hD : va_D A [(h0, .inr (6, [.ref h1, .ref h2, .int v.2.2.1, .int g_3])), (h1, .inl ((cA 0), 6, .inr (.inl v.1))), (h2, .inr (2, [.ref h3, .int u_1.2])), (h3, .inl ((cA 0), 5, .inr (.inl u_1.1)))] := hD
  have e9 : (zf_addCheck v y0) = (v.1, u_1, v.2.2.1, g_3) := by subst eu_1; subst eg_3; rfl
  have hP9 : va_P D vwCl (wX6 cA h0 h1 h2 h3 ((v.1, u_1, v.2.2.1, g_3) : vX6)) H := hP
  have hD9 : va_D A (wX6 cA h0 h1 h2 h3 ((v.1, u_1, v.2.2.1, g_3) : vX6)) := hD
  subst hQ
  exact W.vret hx hb hr (fun t ht hW => ⟨⟨(v.1, u_1, v.2.2.1, g_3), rfl, e9.symm, ⟨by rw [ht]; exact hP9, va_K.moved hW.alike hK, hD9⟩⟩, hS.F ht⟩) hS.2.2 dX6_addCheck_18
