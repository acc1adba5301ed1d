/-! worlds cut by what lies side by side: a call over a stretch (or two) of the caller's world -/
theorem zP_iff {D : va_G} {cl : List vw_C} {ws : va_W} {H : Heap} : va_P D cl ws H ↔ ∀ q ∈ ws, va_at D cl q H := by
  constructor
  · intro h q hq
    obtain ⟨i, hi⟩ := List.mem_iff_getElem?.mp hq
    exact h i q hi
  · intro h k q hk
    exact h q (List.mem_iff_getElem?.mpr ⟨k, hk⟩)
theorem zD_iff {A : Nat → Prop} {ws : va_W} : va_D A ws ↔ ws.Pairwise (fun p q => p.1 ≠ q.1) ∧ ∀ q ∈ ws, A q.1 := by
  constructor
  · intro h
    refine ⟨List.pairwise_iff_getElem.mpr (fun i j hi hj hij e => ?_), fun q hq => ?_⟩
    · have := h.1 i j _ _ (List.getElem?_eq_getElem hi) (List.getElem?_eq_getElem hj) e
      omega
    · obtain ⟨i, hi⟩ := List.mem_iff_getElem?.mp hq
      exact h.2 i q hi
  · intro h
    refine ⟨fun i j p q hi hj e => ?_, fun k q hk => h.2 q (List.mem_iff_getElem?.mpr ⟨k, hk⟩)⟩
    obtain ⟨hi1, hi2⟩ := List.getElem?_eq_some_iff.mp hi
    obtain ⟨hj1, hj2⟩ := List.getElem?_eq_some_iff.mp hj
    rcases Nat.lt_trichotomy i j with g | g | g
    · exact absurd (by rw [hi2, hj2]; exact e) (List.pairwise_iff_getElem.mp h.1 i j hi1 hj1 g)
    · exact g
    · exact absurd (by rw [hi2, hj2]; exact e.symm) (List.pairwise_iff_getElem.mp h.1 j i hj1 hi1 g)
theorem zP_perm {D : va_G} {cl : List vw_C} {ws ws' : va_W} {H : Heap} (h : va_P D cl ws H) (hp : ws.Perm ws') : va_P D cl ws' H := zP_iff.mpr (fun q hq => zP_iff.mp h q (hp.mem_iff.mpr hq))
theorem zD_perm {A : Nat → Prop} {ws ws' : va_W} (h : va_D A ws) (hp : ws.Perm ws') : va_D A ws' := by
  have h1 := zD_iff.mp h
  exact zD_iff.mpr ⟨(hp.pairwise_iff (fun {_ _} e => Ne.symm e)).mp h1.1, fun q hq => h1.2 q (hp.mem_iff.mpr hq)⟩
theorem zP_right {D : va_G} {cl : List vw_C} {a b : va_W} {H : Heap} (h : va_P D cl (a ++ b) H) : va_P D cl b H := zP_iff.mpr (fun q hq => zP_iff.mp h q (List.mem_append_right _ hq))
theorem zP_left {D : va_G} {cl : List vw_C} {a b : va_W} {H : Heap} (h : va_P D cl (a ++ b) H) : va_P D cl a H := zP_iff.mpr (fun q hq => zP_iff.mp h q (List.mem_append_left _ hq))
theorem zD_right {A : Nat → Prop} {a b : va_W} (h : va_D A (a ++ b)) : va_D A b := by
  have h1 := zD_iff.mp h
  exact zD_iff.mpr ⟨(List.pairwise_append.mp h1.1).2.1, fun q hq => h1.2 q (List.mem_append_right _ hq)⟩
theorem zD_left {A : Nat → Prop} {a b : va_W} (h : va_D A (a ++ b)) : va_D A a := by
  have h1 := zD_iff.mp h
  exact zD_iff.mpr ⟨(List.pairwise_append.mp h1.1).1, fun q hq => h1.2 q (List.mem_append_left _ hq)⟩
theorem zA_mem {ws : va_W} {sz q : Nat} : va_A ws sz q ↔ (∃ x ∈ ws, x.1 = q) ∨ sz ≤ q := by
  constructor
  · rintro (⟨k, e, h⟩ | h)
    · exact Or.inl ⟨(q, e), List.mem_iff_getElem?.mpr ⟨k, h⟩, rfl⟩
    · exact Or.inr h
  · rintro (⟨x, hx, e⟩ | h)
    · obtain ⟨k, hk⟩ := List.mem_iff_getElem?.mp hx
      exact Or.inl ⟨k, x.2, by rw [hk, ← e]⟩
    · exact Or.inr h
/-- behind a call: the rest is as it was, beside what came back -/
theorem z_aft {A : Nat → Prop} {D : va_G} {wr wc w1 : va_W} {H0 H H1 : Heap} {locs : List Loc} (hP : va_P D vwCl (wr ++ wc) H) (hD : va_D A (wr ++ wc)) (hS : va_S A H0 H locs) (hA : ∀ q, H0.size ≤ q → A q)
    (hk : ∀ q : Nat, q < H.size → ¬ va_A wc H.size q → H1[q]? = H[q]?) (hP1 : va_P D vwCl w1 H1) (hD1 : va_D (va_A wc H.size) w1) : va_P D vwCl (wr ++ w1) H1 ∧ va_D A (wr ++ w1) := by
  have p0 := zP_iff.mp hP
  have d0 := zD_iff.mp hD
  have d1 := zD_iff.mp hD1
  have dp := List.pairwise_append.mp d0.1
  have far : ∀ q ∈ wr, q.1 < H.size ∧ ¬ va_A wc H.size q.1 := by
    intro q hq
    have hl := (p0 q (List.mem_append_left _ hq)).lt
    refine ⟨hl, fun h => ?_⟩
    rcases zA_mem.mp h with ⟨x, hx, e⟩ | h
    · exact dp.2.2 q hq x hx e.symm
    · omega
  have hF : ∀ q, va_A wc H.size q → A q := by
    intro q h
    rcases zA_mem.mp h with ⟨x, hx, e⟩ | h
    · rw [← e]; exact d0.2 x (List.mem_append_right _ hx)
    · exact hA q (Nat.le_trans hS.1 h)
  refine ⟨zP_iff.mpr (fun q hq => ?_), zD_iff.mpr ⟨List.pairwise_append.mpr ⟨dp.1, d1.1, fun x hx y hy e => ?_⟩, fun q hq => ?_⟩⟩
  · rcases List.mem_append.mp hq with h | h
    · exact (p0 q (List.mem_append_left _ h)).kept (hk q.1 (far q h).1 (far q h).2)
    · exact zP_iff.mp hP1 q h
  · exact (far x hx).2 (by rw [e]; exact d1.2 y hy)
  · rcases List.mem_append.mp hq with h | h
    · exact d0.2 q (List.mem_append_left _ h)
    · exact hF q.1 (d1.2 q h)
theorem z_fr {A : Nat → Prop} {wr wc : va_W} {H0 H : Heap} {locs : List Loc} (hD : va_D A (wr ++ wc)) (hS : va_S A H0 H locs) (hA : ∀ q, H0.size ≤ q → A q) : ∀ q, va_A wc H.size q → A q := by
  intro q h
  rcases zA_mem.mp h with ⟨x, hx, e⟩ | h
  · rw [← e]; exact (zD_iff.mp hD).2 x (List.mem_append_right _ hx)
  · exact hA q (Nat.le_trans hS.1 h)
theorem z_c1 {ws a x b : va_W} (h : ws = a ++ (x ++ b)) : ws.Perm ((a ++ b) ++ x) := by
  subst h
  rw [List.append_assoc]
  exact List.Perm.append_left a List.perm_append_comm
theorem z_c1' {wt a x b : va_W} (h : wt = a ++ (x ++ b)) : ((a ++ b) ++ x).Perm wt := (z_c1 h).symm
theorem z_c2 {ws a x b y c : va_W} (h : ws = a ++ (x ++ (b ++ (y ++ c)))) : ws.Perm ((a ++ (b ++ c)) ++ (x ++ y)) := by
  subst h
  rw [List.append_assoc]
  refine List.Perm.append_left a ?_
  refine (List.Perm.append_left x (?_ : (b ++ (y ++ c)).Perm (y ++ (b ++ c)))).trans ?_
  · rw [← List.append_assoc, ← List.append_assoc]
    exact List.Perm.append_right c List.perm_append_comm
  · rw [← List.append_assoc]
    exact List.perm_append_comm
theorem z_c2' {wt a x b y c : va_W} (h : wt = a ++ (x ++ (b ++ (y ++ c)))) : ((a ++ (b ++ c)) ++ (x ++ y)).Perm wt := (z_c2 h).symm
theorem z_c2r {ws a x b y c : va_W} (h : ws = a ++ (x ++ (b ++ (y ++ c)))) : ws.Perm ((a ++ (b ++ c)) ++ (y ++ x)) := (z_c2 h).trans (List.Perm.append_left _ List.perm_append_comm)
theorem z_c2r' {wt a x b y c : va_W} (h : wt = a ++ (x ++ (b ++ (y ++ c)))) : ((a ++ (b ++ c)) ++ (y ++ x)).Perm wt := (z_c2r h).symm
section ZQ
variable {p : Program} {l : Launch} {e : Env} {R : Room} {s : State} {m : MethodId} {args : Array Value} {below : List Frame} {meth : Method} {c : Code} {H : Heap} {locs : List Loc} {cells slots : Nat} {Q : State → Prop}
variable {D : va_G} {A : Nat → Prop} {tys tysc : List (ClassId × FieldType)} {ws wc wr : va_W} {As rest st0 : List Value} {b pc mc ms : Nat} {ls : Array Slot} {a : Array Value} {free : Addr → Prop}
theorem zqre0 (hK : va_K D vwCl tys s) (hP : va_P D vwCl ws H) (hD : va_D A ws) (hS : va_S A s.heap H locs) (hA : ∀ q, s.heap.size ≤ q → A q) (hE : zE A s s.heap) (hp : ws.Perm (wr ++ wc)) (U : State) (hU : U.heap = H) (hW : s.WarmedH U.vm) : zPre D tys wc H.size U := by
  have hP' := zP_perm hP hp
  have hD' := zD_perm hD hp
  refine ⟨by rw [hU], by rw [hU]; exact zP_right hP', va_K.moved hW.alike hK, (zD_right hD').weaken (fun _ _ _ _ => trivial), ?_⟩
  rw [hU]
  exact hE.pass hS (z_fr hD' hS hA) hW
theorem zqV (hK : va_K D vwCl tys s) (hP : va_P D vwCl ws H) (hD : va_D A ws) (hS : va_S A s.heap H locs) (hA : ∀ q, s.heap.size ≤ q → A q) (hE : zE A s s.heap) (hp : ws.Perm (wr ++ wc)) (q0 : Nat) {ci N : Nat} {fs : List Value} {C : String} {T : u_T} (hq : wc[q0]? = some (b, .inr (ci, fs))) (hc : vwCl[ci]? = some (C, T, N)) : PreV s H C b (va_Pc (.ref b :: As) (zPre D tys wc H.size)) As :=
  ⟨zPre.blind, va_recv (q := (C, T, N)) hK (zP_right (zP_perm hP hp)) hc hq, fun U hU hW => ⟨rfl, zqre0 hK hP hD hS hA hE hp U hU hW⟩⟩
theorem zqS (hK : va_K D vwCl tys s) (hP : va_P D vwCl ws H) (hD : va_D A ws) (hS : va_S A s.heap H locs) (hA : ∀ q, s.heap.size ≤ q → A q) (hE : zE A s s.heap) (hp : ws.Perm (wr ++ wc)) : PreS s H (va_Pc As (zPre D tys wc H.size)) As :=
  ⟨zPre.blind, fun U hU hW => ⟨rfl, zqre0 hK hP hD hS hA hE hp U hU hW⟩⟩
theorem zqVR (hK : va_K D vwCl tys s) (hP : va_P D vwCl ws H) (hN : zN s) (hp : ws.Perm (wr ++ wc)) (q0 : Nat) {ci N : Nat} {fs : List Value} {C : String} {T : u_T} (hq : wc[q0]? = some (b, .inr (ci, fs))) (hc : vwCl[ci]? = some (C, T, N)) : PreV s H C b (va_Pc (.ref b :: As) (zPreR D tys wc)) As :=
  ⟨zPreR.blind, va_recv (q := (C, T, N)) hK (zP_right (zP_perm hP hp)) hc hq, fun U hU hW => ⟨rfl, by rw [hU]; exact zP_right (zP_perm hP hp), va_K.moved hW.alike hK, hN.warm hW⟩⟩
theorem zqSR (hK : va_K D vwCl tys s) (hP : va_P D vwCl ws H) (hN : zN s) (hp : ws.Perm (wr ++ wc)) : PreS s H (va_Pc As (zPreR D tys wc)) As :=
  ⟨zPreR.blind, fun U hU hW => ⟨rfl, by rw [hU]; exact zP_right (zP_perm hP hp), va_K.moved hW.alike hK, hN.warm hW⟩⟩
theorem zqSR0 (hK : va_K D vwCl tys s) (hN : zN s) : PreS s H (va_Pc As (zPreR D tys [])) As :=
  ⟨zPreR.blind, fun U hU hW => ⟨rfl, fun k q h => by simp at h, va_K.moved hW.alike hK, hN.warm hW⟩⟩
theorem z_Hv {S : Type} {F : S} {w1 wt : S → va_W} (hr : va_Run p l e R s m args below meth c H locs cells slots mc ms (F0 m pc ls st0) rest (va_Qv (fun (u : S) => u = F) (fun u => zPost D tysc (va_A wc H.size) (w1 u)) (va_A wc H.size) a) (va_A wc H.size)) (hP : va_P D vwCl ws H) (hD : va_D A ws) (hS : va_S A s.heap H locs) (hA : ∀ q, s.heap.size ≤ q → A q) (hp : ws.Perm (wr ++ wc)) (ht : ∀ u, (wr ++ w1 u).Perm (wt u))
    (kk : ∀ (u : S) (H1 : Heap) (locs1 : List Loc), u = F → va_P D vwCl (wt u) H1 → va_D A (wt u) → va_S A s.heap H1 locs1 → W p l e R s m args below meth c H1 locs1 (cells + mc) (slots + ms) Q (F0 m (pc + 3) ls rest)) : W p l e R s m args below meth c H locs cells slots Q (F0 m pc ls st0) := by
  have hF := z_fr (zD_perm hD hp) hS hA
  refine va_callv hr hS (fun q _ h => hF q h) hF (fun u t H1 locs1 ht1 hvm hx hB hz hk hS1 => ?_)
  obtain ⟨hP1, -, hD1⟩ := hB
  rw [ht1] at hP1
  obtain ⟨g1, g2⟩ := z_aft (zP_perm hP hp) (zD_perm hD hp) hS hA hk hP1 hD1
  exact kk u H1 locs1 hx (zP_perm g1 (ht u)) (zD_perm g2 (ht u)) hS1
theorem z_Hi {S : Type} {F : Int32 × S} {w1 wt : S → va_W} (hr : va_Run p l e R s m args below meth c H locs cells slots mc ms (F0 m pc ls st0) rest (va_Qi (fun (x : Int32) (u : S) => (x, u) = F) (fun u => zPost D tysc (va_A wc H.size) (w1 u)) (va_A wc H.size) a) (va_A wc H.size)) (hP : va_P D vwCl ws H) (hD : va_D A ws) (hS : va_S A s.heap H locs) (hA : ∀ q, s.heap.size ≤ q → A q) (hp : ws.Perm (wr ++ wc)) (ht : ∀ u, (wr ++ w1 u).Perm (wt u))
    (kk : ∀ (r : Int32) (u : S) (H1 : Heap) (locs1 : List Loc), (r, u) = F → va_P D vwCl (wt u) H1 → va_D A (wt u) → va_S A s.heap H1 locs1 → W p l e R s m args below meth c H1 locs1 (cells + mc) (slots + ms) Q (F0 m (pc + 3) ls (.int r :: rest))) : W p l e R s m args below meth c H locs cells slots Q (F0 m pc ls st0) := by
  have hF := z_fr (zD_perm hD hp) hS hA
  refine va_calli hr hS (fun q _ h => hF q h) hF (fun x u t H1 locs1 ht1 hvm hx hB hz hk hS1 => ?_)
  obtain ⟨hP1, -, hD1⟩ := hB
  rw [ht1] at hP1
  obtain ⟨g1, g2⟩ := z_aft (zP_perm hP hp) (zD_perm hD hp) hS hA hk hP1 hD1
  exact kk x u H1 locs1 hx (zP_perm g1 (ht u)) (zD_perm g2 (ht u)) hS1
theorem z_Hl {S : Type} {F : Int64 × S} {w1 wt : S → va_W} (hr : va_Run p l e R s m args below meth c H locs cells slots mc ms (F0 m pc ls st0) rest (va_Ql (fun (x : Int64) (u : S) => (x, u) = F) (fun u => zPost D tysc (va_A wc H.size) (w1 u)) (va_A wc H.size) a) (va_A wc H.size)) (hP : va_P D vwCl ws H) (hD : va_D A ws) (hS : va_S A s.heap H locs) (hA : ∀ q, s.heap.size ≤ q → A q) (hp : ws.Perm (wr ++ wc)) (ht : ∀ u, (wr ++ w1 u).Perm (wt u))
    (kk : ∀ (r : Int64) (u : S) (H1 : Heap) (locs1 : List Loc), (r, u) = F → va_P D vwCl (wt u) H1 → va_D A (wt u) → va_S A s.heap H1 locs1 → W p l e R s m args below meth c H1 locs1 (cells + mc) (slots + ms) Q (F0 m (pc + 3) ls (.long r :: rest))) : W p l e R s m args below meth c H locs cells slots Q (F0 m pc ls st0) := by
  have hF := z_fr (zD_perm hD hp) hS hA
  refine va_calll hr hS (fun q _ h => hF q h) hF (fun x u t H1 locs1 ht1 hvm hx hB hz hk hS1 => ?_)
  obtain ⟨hP1, -, hD1⟩ := hB
  rw [ht1] at hP1
  obtain ⟨g1, g2⟩ := z_aft (zP_perm hP hp) (zD_perm hD hp) hS hA hk hP1 hD1
  exact kk x u H1 locs1 hx (zP_perm g1 (ht u)) (zD_perm g2 (ht u)) hS1
end ZQ
