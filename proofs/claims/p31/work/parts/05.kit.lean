/-! own rows: what a method of ours finds and leaves; calls with the frame rule in one row -/
def zNw : List Cond := [.methodLinkNest "GyroTrainer$State" 17 ⟨"GyroTrainer$Ship", "<init>", "()V"⟩ "GyroTrainer", .methodLinkNest "GyroTrainer$State" 24 ⟨"GyroTrainer$Gyro", "<init>", "()V"⟩ "GyroTrainer", .methodLinkNest "GyroTrainer$State" 31 ⟨"GyroTrainer$Swings", "<init>", "()V"⟩ "GyroTrainer", .methodLinkNest "GyroTrainer$State" 38 ⟨"GyroTrainer$Sights", "<init>", "()V"⟩ "GyroTrainer", .methodLinkNest "GyroTrainer$State" 46 ⟨"GyroTrainer", "copy", "([J[J)V"⟩ "GyroTrainer", .methodLinkNest "GyroTrainer" 21 ⟨"GyroTrainer$History", "<init>", "()V"⟩ "GyroTrainer", .methodLinkNest "GyroTrainer" 32 ⟨"GyroTrainer$Pad", "<init>", "()V"⟩ "GyroTrainer", .methodLinkNest "GyroTrainer$History" 21 ⟨"GyroTrainer", "keep", "([LGyroTrainer$State;ILGyroTrainer$State;)V"⟩ "GyroTrainer", .methodLinkNest "GyroTrainer$Legs" 25 ⟨"GyroTrainer", "copy", "([J[J)V"⟩ "GyroTrainer", .methodLinkNest "GyroTrainer$Gyro" 25 ⟨"GyroTrainer", "copy", "([J[J)V"⟩ "GyroTrainer", .methodLinkNest "GyroTrainer$Latest" 19 ⟨"GyroTrainer", "copy", "([J[J)V"⟩ "GyroTrainer", .methodLinkNest "GyroTrainer$Sights" 24 ⟨"GyroTrainer", "copy", "([J[J)V"⟩ "GyroTrainer", .methodLinkNest "GyroTrainer$Sights" 39 ⟨"GyroTrainer", "write", "([JIJ)V"⟩ "GyroTrainer", .methodLinkNest "GyroTrainer$Legs" 35 ⟨"GyroTrainer", "write", "([JIJ)V"⟩ "GyroTrainer", .methodLinkNest "GyroTrainer$Ship" 52 ⟨"GyroTrainer", "at", "([JI)J"⟩ "GyroTrainer", .methodLinkNest "GyroTrainer$State" 80 ⟨"GyroTrainer", "courseOfLatitude", "(J)J"⟩ "GyroTrainer", .methodLinkNest "GyroTrainer$State" 84 ⟨"GyroTrainer", "cosine", "(J)J"⟩ "GyroTrainer", .methodLinkNest "GyroTrainer$State" 87 ⟨"GyroTrainer", "at", "([JI)J"⟩ "GyroTrainer", .methodLinkNest "GyroTrainer$State" 122 ⟨"GyroTrainer", "freeRest", "(JJJJ)J"⟩ "GyroTrainer", .methodLinkNest "GyroTrainer$Gyro" 48 ⟨"GyroTrainer", "at", "([JI)J"⟩ "GyroTrainer", .methodLinkNest "GyroTrainer$Gyro" 54 ⟨"GyroTrainer", "limited", "(JJ)J"⟩ "GyroTrainer", .methodLinkNest "GyroTrainer$Latest" 29 ⟨"GyroTrainer", "write", "([JIJ)V"⟩ "GyroTrainer", .methodLinkNest "GyroTrainer$Ship" 58 ⟨"GyroTrainer", "cosine", "(J)J"⟩ "GyroTrainer", .methodLinkNest "GyroTrainer$Ship" 66 ⟨"GyroTrainer", "limited", "(JJ)J"⟩ "GyroTrainer", .methodLinkNest "GyroTrainer$Ship" 73 ⟨"GyroTrainer", "write", "([JIJ)V"⟩ "GyroTrainer", .methodLinkNest "GyroTrainer$Legs" 39 ⟨"GyroTrainer", "at", "([JI)J"⟩ "GyroTrainer", .methodLinkNest "GyroTrainer$State" 112 ⟨"GyroTrainer", "write", "([JIJ)V"⟩ "GyroTrainer", .methodLinkNest "GyroTrainer$Swings" 55 ⟨"GyroTrainer", "at", "([JI)J"⟩ "GyroTrainer", .methodLinkNest "GyroTrainer$Swings" 63 ⟨"GyroTrainer", "quotient", "(JJ)J"⟩ "GyroTrainer", .methodLinkNest "GyroTrainer$Latest" 36 ⟨"GyroTrainer", "at", "([JI)J"⟩ "GyroTrainer", .fieldLinkNest "GyroTrainer$State" 43 "GyroTrainer" "SETTING_FIRST" "[J" "GyroTrainer", .fieldLinkNest "GyroTrainer$Gyro" 45 "GyroTrainer" "DAMPING" "[J" "GyroTrainer"]
def zWk : Cond → Bool
  | .methodLinkNest .. => true
  | .fieldLinkNest .. => true
  | _ => false
theorem zWk_all : zNw.all zWk = true := by decide +kernel
def zN (U : State) : Prop := ∀ w ∈ zNw, va_Nw w U
theorem zWk_warm {w : Cond} (h : zWk w = true) {s U : State} (hW : s.WarmedH U.vm) (hZ : va_Nw w s) : va_Nw w U := by
  cases w <;> first | exact va_Nw.warmM hW hZ | exact va_Nw.warmF hW hZ | (simp [zWk] at h; done)
theorem zWk_same {w : Cond} (h : zWk w = true) {u U : State} (hv : u.vm = U.vm) (hZ : va_Nw w u) : va_Nw w U := by
  cases w <;> first | exact va_Nw.same rfl hv hZ | (simp [zWk] at h; done)
theorem zN.warm {s U : State} (hW : s.WarmedH U.vm) (h : zN s) : zN U := fun w hw => zWk_warm (List.all_eq_true.mp zWk_all w hw) hW (h w hw)
theorem zN.same {u U : State} (hv : u.vm = U.vm) (h : zN u) : zN U := fun w hw => zWk_same (List.all_eq_true.mp zWk_all w hw) hv (h w hw)
theorem zN.get {U : State} (h : zN U) (i : Nat) {w : Cond} (hi : zNw[i]? = some w) : va_Nw w U := h w (List.mem_of_getElem? hi)

def z_least : Nat → Int64 := fun j => match j with
  | 0 => 1
  | 1 => 1
  | _ => 0
def z_most : Nat → Int64 := fun j => match j with
  | 0 => 100
  | 1 => 1000
  | 2 => 30000
  | 3 => 100000
  | 4 => 20000
  | 5 => 50000
  | 6 => 500
  | 7 => 65535
  | _ => 60
def z_first : Nat → Int64 := fun j => match j with
  | 0 => 20
  | 1 => 250
  | 2 => 15000
  | 3 => 5000
  | 4 => 500
  | 5 => 3000
  | 6 => 20
  | 7 => 1
  | _ => 10
def z_damp : Nat → Int64 := fun j => match j with
  | 0 => 0
  | 1 => 10
  | 2 => 20
  | 3 => 40
  | _ => 80
/-- a static row of the outer type: its cell, apart from A -/
def zT1 (n : String) (N : Nat) (f : Nat → Int64) (A : Nat → Prop) (U : State) (H : Heap) : Prop := ∃ t : Nat, va_Z "GyroTrainer" n "[J" (.ref t) A U H ∧ va_T .long t N (fun j => .long (f j)) A U H
theorem zT1.pass {n : String} {N : Nat} {f : Nat → Int64} {A B : Nat → Prop} {s U : State} {H : Heap} {locs : List Loc} (h : zT1 n N f A s s.heap) (hS : va_S A s.heap H locs) (hAB : ∀ q, B q → A q) (hvm : s.vm.Alike U.vm) : zT1 n N f B U H := by
  obtain ⟨t, h1, h2⟩ := h
  exact ⟨t, ((h1.kept (fun a ha hn => hS.2.1 a ha hn)).moved hvm).narrow hAB, ((h2.kept (fun a ha hn => hS.2.1 a ha hn)).moved hvm).narrow hAB⟩
theorem zT1.moved {n : String} {N : Nat} {f : Nat → Int64} {A : Nat → Prop} {u U : State} {H : Heap} (hvm : u.vm.Alike U.vm) (h : zT1 n N f A u H) : zT1 n N f A U H := by
  obtain ⟨t, h1, h2⟩ := h
  exact ⟨t, h1.moved hvm, h2.moved hvm⟩
def zE (A : Nat → Prop) (U : State) (H : Heap) : Prop := zN U ∧ va_AO "GyroTrainer$State" U ∧ zT1 "SETTING_LEAST" 9 z_least A U H ∧ zT1 "SETTING_MOST" 9 z_most A U H ∧ zT1 "SETTING_FIRST" 9 z_first A U H ∧ zT1 "DAMPING" 5 z_damp A U H
theorem zE.pass {A B : Nat → Prop} {s U : State} {H : Heap} {locs : List Loc} (h : zE A s s.heap) (hS : va_S A s.heap H locs) (hAB : ∀ q, B q → A q) (hW : s.WarmedH U.vm) : zE B U H :=
  ⟨h.1.warm hW, h.2.1.moved hW.alike, h.2.2.1.pass hS hAB hW.alike, h.2.2.2.1.pass hS hAB hW.alike, h.2.2.2.2.1.pass hS hAB hW.alike, h.2.2.2.2.2.pass hS hAB hW.alike⟩
theorem zE.moved {A : Nat → Prop} {u U : State} {H : Heap} (hv : u.vm = U.vm) (h : zE A u H) : zE A U H := by
  have hvm : u.vm.Alike U.vm := hv ▸ Vm.Alike.refl u.vm
  exact ⟨h.1.same hv, h.2.1.moved hvm, h.2.2.1.moved hvm, h.2.2.2.1.moved hvm, h.2.2.2.2.1.moved hvm, h.2.2.2.2.2.moved hvm⟩
/-- the start of a method that may write: its cells, and what it may rest on -/
def zPre (D : va_G) (tys : List (ClassId × FieldType)) (ws : va_W) (sz : Nat) : State → Prop := fun U => U.heap.size = sz ∧ va_P D vwCl ws U.heap ∧ va_K D vwCl tys U ∧ va_D (fun _ => True) ws ∧ zE (va_A ws sz) U U.heap
/-- its end -/
def zPost (D : va_G) (tys : List (ClassId × FieldType)) (A : Nat → Prop) (ws : va_W) : State → Prop := fun t => va_P D vwCl ws t.heap ∧ va_K D vwCl tys t ∧ va_D A ws
/-- the start of a method that only reads -/
def zPreR (D : va_G) (tys : List (ClassId × FieldType)) (ws : va_W) : State → Prop := fun U => va_P D vwCl ws U.heap ∧ va_K D vwCl tys U ∧ zN U
theorem zPre.blind {av : List Value} {D : va_G} {tys : List (ClassId × FieldType)} {ws : va_W} {sz : Nat} : FrameBlind (va_Pc av (zPre D tys ws sz)) := fun a U g mk q => by
  obtain ⟨q0, q1, qP, qK, qD, qE⟩ := q
  exact ⟨q0, q1, qP, va_K.moved (u := U) (U := U.calling g mk a) (Vm.Alike.refl U.vm) qK, qD, zE.moved (u := U) (U := U.calling g mk a) rfl qE⟩
theorem zPreR.blind {av : List Value} {D : va_G} {tys : List (ClassId × FieldType)} {ws : va_W} : FrameBlind (va_Pc av (zPreR D tys ws)) := fun a U g mk q => by
  obtain ⟨q0, qP, qK, qN⟩ := q
  exact ⟨q0, qP, va_K.moved (u := U) (U := U.calling g mk a) (Vm.Alike.refl U.vm) qK, zN.same (u := U) (U := U.calling g mk a) rfl qN⟩
theorem z_fm {α β : Type} {f : α → Option β} : ∀ {is : List α} {w : List β}, is.map f = w.map some → is.filterMap f = w
  | [], [], _ => rfl
  | [], _ :: _, h => by cases h
  | _ :: _, [], h => by cases h
  | i :: is, x :: w, h => by
    simp only [List.map_cons, List.cons.injEq] at h
    rw [List.filterMap_cons, h.1, z_fm h.2]
section ZC
variable {p : Program} {l : Launch} {e : Env} {R : Room} {s : State} {m : MethodId} {args : Array Value} {below : List Frame} {meth : Method} {c : Code} {H : Heap} {locs : List Loc} {cells slots : Nat} {Q : State → Prop}
variable {D : va_G} {A : Nat → Prop} {tys tysc : List (ClassId × FieldType)} {ws wc wr w1 wt : va_W} {As rest st0 : List Value} {b pc mc ms : Nat} {ls : Array Slot} {a : Array Value} {free : Addr → Prop}
/-- the callee's start, out of the caller's world -/
theorem zpre0 (hK : va_K D vwCl tys s) (hP : va_P D vwCl ws H) (hD : va_D A ws) (hS : va_S A s.heap H locs) (hA : ∀ q, s.heap.size ≤ q → A q) (hE : zE A s s.heap) (isC isK : List Nat) (hC : isC.map (fun i => ws[i]?) = wc.map some) (hn : va_nd isC = true) (hk : isK.filterMap (fun i => tys[i]?) = tysc) (U : State) (hU : U.heap = H) (hW : s.WarmedH U.vm) : zPre D tysc wc H.size U := by
  refine ⟨by rw [hU], by rw [hU]; exact hP.sub isC (z_fm hC), va_K.moved hW.alike (hK.sub isK hk), (hD.sub isC hn hC).weaken (fun _ _ _ _ => trivial), ?_⟩
  rw [hU]
  exact hE.pass hS (va_free hD hS hA isC hC) hW
theorem zpV (hK : va_K D vwCl tys s) (hP : va_P D vwCl ws H) (hD : va_D A ws) (hS : va_S A s.heap H locs) (hA : ∀ q, s.heap.size ≤ q → A q) (hE : zE A s s.heap) (isC isK : List Nat) (hC : isC.map (fun i => ws[i]?) = wc.map some) (hn : va_nd isC = true) (hk : isK.filterMap (fun i => tys[i]?) = tysc) (q0 : Nat) {ci N : Nat} {fs : List Value} {C : String} {T : u_T} (hq : wc[q0]? = some (b, .inr (ci, fs))) (hc : vwCl[ci]? = some (C, T, N)) : PreV s H C b (va_Pc (.ref b :: As) (zPre D tysc wc H.size)) As :=
  ⟨zPre.blind, va_recv (q := (C, T, N)) hK (hP.sub isC (z_fm hC)) hc hq, fun U hU hW => ⟨rfl, zpre0 hK hP hD hS hA hE isC isK hC hn hk U hU hW⟩⟩
theorem zpS (hK : va_K D vwCl tys s) (hP : va_P D vwCl ws H) (hD : va_D A ws) (hS : va_S A s.heap H locs) (hA : ∀ q, s.heap.size ≤ q → A q) (hE : zE A s s.heap) (isC isK : List Nat) (hC : isC.map (fun i => ws[i]?) = wc.map some) (hn : va_nd isC = true) (hk : isK.filterMap (fun i => tys[i]?) = tysc) : PreS s H (va_Pc As (zPre D tysc wc H.size)) As :=
  ⟨zPre.blind, fun U hU hW => ⟨rfl, zpre0 hK hP hD hS hA hE isC isK hC hn hk U hU hW⟩⟩
theorem zpVR (hK : va_K D vwCl tys s) (hP : va_P D vwCl ws H) (hN : zN s) (isC isK : List Nat) (hC : isC.map (fun i => ws[i]?) = wc.map some) (hk : isK.filterMap (fun i => tys[i]?) = tysc) (q0 : Nat) {ci N : Nat} {fs : List Value} {C : String} {T : u_T} (hq : wc[q0]? = some (b, .inr (ci, fs))) (hc : vwCl[ci]? = some (C, T, N)) : PreV s H C b (va_Pc (.ref b :: As) (zPreR D tysc wc)) As :=
  ⟨zPreR.blind, va_recv (q := (C, T, N)) hK (hP.sub isC (z_fm hC)) hc hq, fun U hU hW => ⟨rfl, by rw [hU]; exact hP.sub isC (z_fm hC), va_K.moved hW.alike (hK.sub isK hk), hN.warm hW⟩⟩
theorem zpSR (hK : va_K D vwCl tys s) (hP : va_P D vwCl ws H) (hN : zN s) (isC isK : List Nat) (hC : isC.map (fun i => ws[i]?) = wc.map some) (hk : isK.filterMap (fun i => tys[i]?) = tysc) : PreS s H (va_Pc As (zPreR D tysc wc)) As :=
  ⟨zPreR.blind, fun U hU hW => ⟨rfl, by rw [hU]; exact hP.sub isC (z_fm hC), va_K.moved hW.alike (hK.sub isK hk), hN.warm hW⟩⟩
/-- behind a call that only reads -/
theorem z_Ri {r : Int32} (hr : va_Run p l e R s m args below meth c H locs cells slots 0 0 (F0 m pc ls st0) rest (vp_Si (fun x => x = r) a) (fun _ => False)) (kk : W p l e R s m args below meth c H locs cells slots Q (F0 m (pc + 3) ls (.int r :: rest))) : W p l e R s m args below meth c H locs cells slots Q (F0 m pc ls st0) := by
  intro T hT X
  obtain ⟨v, st₀, t, T', L, h0, X', hL, e1, e2, ⟨r', hv, hp, hh⟩, st⟩ := hr T hT X
  cases hv
  subst hp
  obtain ⟨t2, a1, b1⟩ := kk T' (by rw [e1, hh, h0]) (Stand.forget X' (fun q h => (hL q h).elim))
  exact ⟨t2, st t2 a1, b1⟩
theorem z_Rl {r : Int64} (hr : va_Run p l e R s m args below meth c H locs cells slots 0 0 (F0 m pc ls st0) rest (vp_Sl (fun x => x = r) a) (fun _ => False)) (kk : W p l e R s m args below meth c H locs cells slots Q (F0 m (pc + 3) ls (.long r :: rest))) : W p l e R s m args below meth c H locs cells slots Q (F0 m pc ls st0) := by
  intro T hT X
  obtain ⟨v, st₀, t, T', L, h0, X', hL, e1, e2, ⟨r', hv, hp, hh⟩, st⟩ := hr T hT X
  cases hv
  subst hp
  obtain ⟨t2, a1, b1⟩ := kk T' (by rw [e1, hh, h0]) (Stand.forget X' (fun q h => (hL q h).elim))
  exact ⟨t2, st t2 a1, b1⟩
/-- behind a call that may write: the caller's other cells and the callee's, in the caller's order -/
theorem z_after (hP : va_P D vwCl ws H) (hD : va_D A ws) (hS : va_S A s.heap H locs) (hA : ∀ q, s.heap.size ≤ q → A q) (isC isR isT : List Nat) (hC : isC.map (fun i => ws[i]?) = wc.map some) (hR : isR.map (fun i => ws[i]?) = wr.map some) (hn : (va_nd isR && (va_nd isT && isR.all (fun i => decide (i ∉ isC)))) = true) (hT : isT.map (fun i => (wr ++ w1)[i]?) = wt.map some) {H1 : Heap}
    (hk : ∀ q : Nat, q < H.size → ¬ va_A wc H.size q → H1[q]? = H[q]?) {t : State} (ht : t.heap = H1) (hB : zPost D tysc (va_A wc H.size) w1 t) : va_P D vwCl wt H1 ∧ va_D A wt := by
  obtain ⟨hP1, -, hD1⟩ := hB
  rw [ht] at hP1
  simp only [Bool.and_eq_true] at hn
  have hdis : ∀ i ∈ isR, i ∉ isC := fun i hi => of_decide_eq_true (List.all_eq_true.mp hn.2.2 i hi)
  obtain ⟨g1, g2⟩ := va_join hP hD isC isR hC hR hn.1 hdis hk (va_free hD hS hA isC hC) hP1 hD1
  exact ⟨g1.sub isT (z_fm hT), g2.sub isT hn.2.1 hT⟩
theorem z_Mi {r : Int32} (hr : va_Run p l e R s m args below meth c H locs cells slots mc ms (F0 m pc ls st0) rest (va_Qi (fun (x : Int32) (_ : Unit) => x = r) (fun _ => zPost D tysc (va_A wc H.size) w1) (va_A wc H.size) a) (va_A wc H.size)) (hP : va_P D vwCl ws H) (hD : va_D A ws) (hS : va_S A s.heap H locs) (hA : ∀ q, s.heap.size ≤ q → A q) (isC isR isT : List Nat) (hC : isC.map (fun i => ws[i]?) = wc.map some) (hR : isR.map (fun i => ws[i]?) = wr.map some) (hn : (va_nd isR && (va_nd isT && isR.all (fun i => decide (i ∉ isC)))) = true) (hT : isT.map (fun i => (wr ++ w1)[i]?) = wt.map some)
    (kk : ∀ (H1 : Heap) (locs1 : List Loc), va_P D vwCl wt H1 → va_D A wt → va_S A s.heap H1 locs1 → W p l e R s m args below meth c H1 locs1 (cells + mc) (slots + ms) Q (F0 m (pc + 3) ls (.int r :: rest))) : W p l e R s m args below meth c H locs cells slots Q (F0 m pc ls st0) := by
  have hF := va_free hD hS hA isC hC
  refine va_calli hr hS (fun q _ h => hF q h) hF (fun x u t H1 locs1 ht hvm hx hB hz hk hS1 => ?_)
  obtain ⟨g1, g2⟩ := z_after hP hD hS hA isC isR isT hC hR hn hT hk ht hB
  subst hx
  exact kk H1 locs1 g1 g2 hS1
theorem z_Ml {r : Int64} (hr : va_Run p l e R s m args below meth c H locs cells slots mc ms (F0 m pc ls st0) rest (va_Ql (fun (x : Int64) (_ : Unit) => x = r) (fun _ => zPost D tysc (va_A wc H.size) w1) (va_A wc H.size) a) (va_A wc H.size)) (hP : va_P D vwCl ws H) (hD : va_D A ws) (hS : va_S A s.heap H locs) (hA : ∀ q, s.heap.size ≤ q → A q) (isC isR isT : List Nat) (hC : isC.map (fun i => ws[i]?) = wc.map some) (hR : isR.map (fun i => ws[i]?) = wr.map some) (hn : (va_nd isR && (va_nd isT && isR.all (fun i => decide (i ∉ isC)))) = true) (hT : isT.map (fun i => (wr ++ w1)[i]?) = wt.map some)
    (kk : ∀ (H1 : Heap) (locs1 : List Loc), va_P D vwCl wt H1 → va_D A wt → va_S A s.heap H1 locs1 → W p l e R s m args below meth c H1 locs1 (cells + mc) (slots + ms) Q (F0 m (pc + 3) ls (.long r :: rest))) : W p l e R s m args below meth c H locs cells slots Q (F0 m pc ls st0) := by
  have hF := va_free hD hS hA isC hC
  refine va_calll hr hS (fun q _ h => hF q h) hF (fun x u t H1 locs1 ht hvm hx hB hz hk hS1 => ?_)
  obtain ⟨g1, g2⟩ := z_after hP hD hS hA isC isR isT hC hR hn hT hk ht hB
  subst hx
  exact kk H1 locs1 g1 g2 hS1
theorem z_Mv (hr : va_Run p l e R s m args below meth c H locs cells slots mc ms (F0 m pc ls st0) rest (va_Qv (fun (_ : Unit) => True) (fun _ => zPost D tysc (va_A wc H.size) w1) (va_A wc H.size) a) (va_A wc H.size)) (hP : va_P D vwCl ws H) (hD : va_D A ws) (hS : va_S A s.heap H locs) (hA : ∀ q, s.heap.size ≤ q → A q) (isC isR isT : List Nat) (hC : isC.map (fun i => ws[i]?) = wc.map some) (hR : isR.map (fun i => ws[i]?) = wr.map some) (hn : (va_nd isR && (va_nd isT && isR.all (fun i => decide (i ∉ isC)))) = true) (hT : isT.map (fun i => (wr ++ w1)[i]?) = wt.map some)
    (kk : ∀ (H1 : Heap) (locs1 : List Loc), va_P D vwCl wt H1 → va_D A wt → va_S A s.heap H1 locs1 → W p l e R s m args below meth c H1 locs1 (cells + mc) (slots + ms) Q (F0 m (pc + 3) ls rest)) : W p l e R s m args below meth c H locs cells slots Q (F0 m pc ls st0) := by
  have hF := va_free hD hS hA isC hC
  refine va_callv hr hS (fun q _ h => hF q h) hF (fun u t H1 locs1 ht hvm hx hB hz hk hS1 => ?_)
  obtain ⟨g1, g2⟩ := z_after hP hD hS hA isC isR isT hC hR hn hT hk ht hB
  exact kk H1 locs1 g1 g2 hS1
/-- a call that makes cells: where they lie comes with it -/
theorem z_Mn {S : Type} {w1 : S → va_W} {wt : S → va_W} (hr : va_Run p l e R s m args below meth c H locs cells slots mc ms (F0 m pc ls st0) rest (va_Qv (fun (_ : S) => True) (fun u => zPost D tysc (va_A wc H.size) (w1 u)) (va_A wc H.size) a) (va_A wc H.size)) (hP : va_P D vwCl ws H) (hD : va_D A ws) (hS : va_S A s.heap H locs) (hA : ∀ q, s.heap.size ≤ q → A q) (isC isR isT : List Nat) (hC : isC.map (fun i => ws[i]?) = wc.map some) (hR : isR.map (fun i => ws[i]?) = wr.map some) (hn : (va_nd isR && (va_nd isT && isR.all (fun i => decide (i ∉ isC)))) = true) (hT : ∀ u, isT.map (fun i => (wr ++ w1 u)[i]?) = (wt u).map some)
    (kk : ∀ (u : S) (H1 : Heap) (locs1 : List Loc), va_P D vwCl (wt u) H1 → va_D A (wt u) → va_S A s.heap H1 locs1 → W p l e R s m args below meth c H1 locs1 (cells + mc) (slots + ms) Q (F0 m (pc + 3) ls rest)) : W p l e R s m args below meth c H locs cells slots Q (F0 m pc ls st0) := by
  have hF := va_free hD hS hA isC hC
  refine va_callv hr hS (fun q _ h => hF q h) hF (fun u t H1 locs1 ht hvm hx hB hz hk hS1 => ?_)
  obtain ⟨g1, g2⟩ := z_after hP hD hS hA isC isR isT hC hR hn (hT u) hk ht hB
  exact kk u H1 locs1 g1 g2 hS1
end ZC
section ZR
variable {p : Program} {l : Launch} {e : Env} {R : Room} {s : State} {m : MethodId} {args : Array Value} {below : List Frame} {meth : Method} {c : Code} {H : Heap} {locs : List Loc} {cells slots : Nat} {Q : State → Prop}
variable {cc : ByteArray} {pc : Nat} {ls : Array Slot} {rest : List Value} {D : va_G} {cl : List vw_C} {A : Nat → Prop} {a : Nat} {tys : List (ClassId × FieldType)} {ws : va_W} {H0 : Heap}
/-- the place that is read has a number of ours -/
theorem z_iald (hexec : p.tables.exec = Jvm.exec) (hb : c.code = cc) (hK : va_K D cl tys s) (hP : va_P D cl ws H) (q0 t0 : Nat) {cA : ClassId} {n : Nat} {f : Nat → Int32} (ha : ws[q0]? = some (a, .inl (cA, n, .inl f))) (ht : tys[t0]? = some (cA, .int)) {i : Int32} {k : Nat} (hi : i = nI k) (hk : k < n) (hn : n < 2 ^ 31) (hdg : decode cc pc = .ok (.iaload, 1))
    (kk : W p l e R s m args below meth c H locs cells slots Q (F0 m (pc + 1) ls (.int (f k) :: rest))) : W p l e R s m args below meth c H locs cells slots Q (F0 m pc ls (.int i :: .ref a :: rest)) := by
  subst hi
  have e1 : (nI k).toNatClampNeg = k := nI_clamp (by omega)
  refine va_iald hexec hb hK hP q0 t0 ha ht (vp_in_nI hk hn) hdg ?_
  rw [e1]; exact kk
theorem z_zald (hexec : p.tables.exec = Jvm.exec) (hb : c.code = cc) (hK : va_K D cl tys s) (hP : va_P D cl ws H) (q0 t0 : Nat) {cA : ClassId} {n : Nat} {f : Nat → Int32} (ha : ws[q0]? = some (a, .inl (cA, n, .inl f))) (ht : tys[t0]? = some (cA, .boolean)) {i : Int32} {k : Nat} (hi : i = nI k) (hk : k < n) (hn : n < 2 ^ 31) (hdg : decode cc pc = .ok (.baload, 1))
    (kk : W p l e R s m args below meth c H locs cells slots Q (F0 m (pc + 1) ls (.int (f k) :: rest))) : W p l e R s m args below meth c H locs cells slots Q (F0 m pc ls (.int i :: .ref a :: rest)) := by
  subst hi
  have e1 : (nI k).toNatClampNeg = k := nI_clamp (by omega)
  refine va_zald hexec hb hK hP q0 t0 ha ht (vp_in_nI hk hn) hdg ?_
  rw [e1]; exact kk
theorem z_cald (hexec : p.tables.exec = Jvm.exec) (hb : c.code = cc) (hK : va_K D cl tys s) (hP : va_P D cl ws H) (q0 t0 : Nat) {cA : ClassId} {n : Nat} {f : Nat → Int32} (ha : ws[q0]? = some (a, .inl (cA, n, .inl f))) (ht : tys[t0]? = some (cA, .char)) {i : Int32} {k : Nat} (hi : i = nI k) (hk : k < n) (hn : n < 2 ^ 31) (hdg : decode cc pc = .ok (.caload, 1))
    (kk : W p l e R s m args below meth c H locs cells slots Q (F0 m (pc + 1) ls (.int (f k) :: rest))) : W p l e R s m args below meth c H locs cells slots Q (F0 m pc ls (.int i :: .ref a :: rest)) := by
  subst hi
  have e1 : (nI k).toNatClampNeg = k := nI_clamp (by omega)
  refine va_cald hexec hb hK hP q0 t0 ha ht (vp_in_nI hk hn) hdg ?_
  rw [e1]; exact kk
theorem z_lald (hexec : p.tables.exec = Jvm.exec) (hb : c.code = cc) (hK : va_K D cl tys s) (hP : va_P D cl ws H) (q0 t0 : Nat) {cA : ClassId} {n : Nat} {f : Nat → Int64} (ha : ws[q0]? = some (a, .inl (cA, n, .inr (.inl f)))) (ht : tys[t0]? = some (cA, .long)) {i : Int32} {k : Nat} (hi : i = nI k) (hk : k < n) (hn : n < 2 ^ 31) (hdg : decode cc pc = .ok (.laload, 1))
    (kk : W p l e R s m args below meth c H locs cells slots Q (F0 m (pc + 1) ls (.long (f k) :: rest))) : W p l e R s m args below meth c H locs cells slots Q (F0 m pc ls (.int i :: .ref a :: rest)) := by
  subst hi
  have e1 : (nI k).toNatClampNeg = k := nI_clamp (by omega)
  refine va_lald hexec hb hK hP q0 t0 ha ht (vp_in_nI hk hn) hdg ?_
  rw [e1]; exact kk
theorem z_aldq (hexec : p.tables.exec = Jvm.exec) (hb : c.code = cc) (hK : va_K D cl tys s) (hP : va_P D cl ws H) (q0 t0 : Nat) {cA : ClassId} {C : String} {n : Nat} {f : Nat → Option Nat} (ha : ws[q0]? = some (a, .inl (cA, n, .inr (.inr (.inr (.inr f)))))) (ht : tys[t0]? = some (cA, .object C)) {i : Int32} {k : Nat} (hi : i = nI k) (hk : k < n) (hn : n < 2 ^ 31) (hdg : decode cc pc = .ok (.aaload, 1))
    (kk : W p l e R s m args below meth c H locs cells slots Q (F0 m (pc + 1) ls (va_rf (f k) :: rest))) : W p l e R s m args below meth c H locs cells slots Q (F0 m pc ls (.int i :: .ref a :: rest)) := by
  subst hi
  have e1 : (nI k).toNatClampNeg = k := nI_clamp (by omega)
  refine va_aldq hexec hb hK hP q0 t0 ha ht (vp_in_nI hk hn) hdg ?_
  rw [e1]; exact kk
/-- the place that is written has a number of ours; the row behind it gets a name -/
theorem z_iast (hexec : p.tables.exec = Jvm.exec) (hb : c.code = cc) (hK : va_K D cl tys s) (hP : va_P D cl ws H) (hD : va_D A ws) (hS : va_S A H0 H locs) (q0 t0 : Nat) {cA : ClassId} {n : Nat} {f : Nat → Int32} (ha : ws[q0]? = some (a, .inl (cA, n, .inl f))) (ht : tys[t0]? = some (cA, .int)) {i : Int32} {x : Int32} {k : Nat} (hi : i = nI k) (hk : k < n) (hn : n < 2 ^ 31) (hdg : decode cc pc = .ok (.iastore, 1))
    (kk : ∀ (g : Nat → Int32), g = upd f k x → ∀ (H1 : Heap) (locs1 : List Loc), va_P D cl (ws.set q0 (a, .inl (cA, n, .inl g))) H1 → va_D A (ws.set q0 (a, .inl (cA, n, .inl g))) → va_S A H0 H1 locs1 → W p l e R s m args below meth c H1 locs1 cells slots Q (F0 m (pc + 1) ls rest)) : W p l e R s m args below meth c H locs cells slots Q (F0 m pc ls (.int x :: .int i :: .ref a :: rest)) := by
  subst hi
  have e1 : (nI k).toNatClampNeg = k := nI_clamp (by omega)
  refine va_iast hexec hb hK hP hD hS q0 t0 ha ht (vp_in_nI hk hn) hdg ?_
  rw [e1]; exact kk _ rfl
theorem z_zast (hexec : p.tables.exec = Jvm.exec) (hb : c.code = cc) (hK : va_K D cl tys s) (hP : va_P D cl ws H) (hD : va_D A ws) (hS : va_S A H0 H locs) (q0 t0 : Nat) {cA : ClassId} {n : Nat} {f : Nat → Int32} (ha : ws[q0]? = some (a, .inl (cA, n, .inl f))) (ht : tys[t0]? = some (cA, .boolean)) {i : Int32} {x : Int32} {k : Nat} (hx : vp_nar .boolean x = x) (hi : i = nI k) (hk : k < n) (hn : n < 2 ^ 31) (hdg : decode cc pc = .ok (.bastore, 1))
    (kk : ∀ (g : Nat → Int32), g = upd f k x → ∀ (H1 : Heap) (locs1 : List Loc), va_P D cl (ws.set q0 (a, .inl (cA, n, .inl g))) H1 → va_D A (ws.set q0 (a, .inl (cA, n, .inl g))) → va_S A H0 H1 locs1 → W p l e R s m args below meth c H1 locs1 cells slots Q (F0 m (pc + 1) ls rest)) : W p l e R s m args below meth c H locs cells slots Q (F0 m pc ls (.int x :: .int i :: .ref a :: rest)) := by
  subst hi
  have e1 : (nI k).toNatClampNeg = k := nI_clamp (by omega)
  refine va_zast hexec hb hK hP hD hS q0 t0 ha ht (vp_in_nI hk hn) hdg ?_
  rw [e1, hx]; exact kk _ rfl
theorem z_cast (hexec : p.tables.exec = Jvm.exec) (hb : c.code = cc) (hK : va_K D cl tys s) (hP : va_P D cl ws H) (hD : va_D A ws) (hS : va_S A H0 H locs) (q0 t0 : Nat) {cA : ClassId} {n : Nat} {f : Nat → Int32} (ha : ws[q0]? = some (a, .inl (cA, n, .inl f))) (ht : tys[t0]? = some (cA, .char)) {i : Int32} {x : Int32} {k : Nat} (hi : i = nI k) (hk : k < n) (hn : n < 2 ^ 31) (hdg : decode cc pc = .ok (.castore, 1))
    (kk : ∀ (g : Nat → Int32), g = upd f k (vp_nar .char x) → ∀ (H1 : Heap) (locs1 : List Loc), va_P D cl (ws.set q0 (a, .inl (cA, n, .inl g))) H1 → va_D A (ws.set q0 (a, .inl (cA, n, .inl g))) → va_S A H0 H1 locs1 → W p l e R s m args below meth c H1 locs1 cells slots Q (F0 m (pc + 1) ls rest)) : W p l e R s m args below meth c H locs cells slots Q (F0 m pc ls (.int x :: .int i :: .ref a :: rest)) := by
  subst hi
  have e1 : (nI k).toNatClampNeg = k := nI_clamp (by omega)
  refine va_cast hexec hb hK hP hD hS q0 t0 ha ht (vp_in_nI hk hn) hdg ?_
  rw [e1]; exact kk _ rfl
theorem z_last (hexec : p.tables.exec = Jvm.exec) (hb : c.code = cc) (hK : va_K D cl tys s) (hP : va_P D cl ws H) (hD : va_D A ws) (hS : va_S A H0 H locs) (q0 t0 : Nat) {cA : ClassId} {n : Nat} {f : Nat → Int64} (ha : ws[q0]? = some (a, .inl (cA, n, .inr (.inl f)))) (ht : tys[t0]? = some (cA, .long)) {i : Int32} {x : Int64} {k : Nat} (hi : i = nI k) (hk : k < n) (hn : n < 2 ^ 31) (hdg : decode cc pc = .ok (.lastore, 1))
    (kk : ∀ (g : Nat → Int64), g = vp_updL f k x → ∀ (H1 : Heap) (locs1 : List Loc), va_P D cl (ws.set q0 (a, .inl (cA, n, .inr (.inl g)))) H1 → va_D A (ws.set q0 (a, .inl (cA, n, .inr (.inl g)))) → va_S A H0 H1 locs1 → W p l e R s m args below meth c H1 locs1 cells slots Q (F0 m (pc + 1) ls rest)) : W p l e R s m args below meth c H locs cells slots Q (F0 m pc ls (.long x :: .int i :: .ref a :: rest)) := by
  subst hi
  have e1 : (nI k).toNatClampNeg = k := nI_clamp (by omega)
  refine va_last hexec hb hK hP hD hS q0 t0 ha ht (vp_in_nI hk hn) hdg ?_
  rw [e1]; exact kk _ rfl
/-- a new row of numbers: its type is the one that is known already -/
theorem z_newa (hexec : p.tables.exec = Jvm.exec) (hb : c.code = cc) {atype : ArrayType} (harr : (Cond.arrayClass (newarray.typeOf atype)).before args s = true) {ty : FieldType} (hty : newarray.typeOf atype = ty) (hK : va_K D cl tys s) (hP : va_P D cl ws H) (hD : va_D A ws) (hS : va_S A H0 H locs) (hA : ∀ q, H0.size ≤ q → A q) (t0 : Nat) {cX : ClassId} (ht : tys[t0]? = some (cX, ty)) (hra : ∀ cA, va_RA s cA ty → s.vm.findClass ("[" ++ ty.toString) = some cA)
    {n : Int32} {N' : Nat} {a0 : vp_A} (ha : ∀ cA : ClassId, vp_cell cA a0 = arrV cA N' (fun _ => defaultValue ty)) (hn : ¬ n < 0) (hN : n.toNatClampNeg = N') (hbytes : N' * componentBytes ty ≤ 536870912) (hcells : cells + 1 ≤ R.cells) (hslots : slots + N' ≤ R.slots) (hdg : decode cc pc = .ok (.newarray atype, 2))
    (kk : ∀ (q : Nat) (H1 : Heap), va_P D cl (ws ++ [(q, .inl (cX, a0))]) H1 → va_D A (ws ++ [(q, .inl (cX, a0))]) → va_S A H0 H1 locs →
      W p l e R s m args below meth c H1 locs (cells + 1) (slots + N') Q (F0 m (pc + 2) ls (.ref q :: rest))) : W p l e R s m args below meth c H locs cells slots Q (F0 m pc ls (.int n :: rest)) := by
  refine va_newa hexec hb harr hty hK hP hD hS hA ha hn hN hbytes hcells hslots hdg (fun q cA H1 hK1 hP1 hD1 hS1 => ?_)
  have h1 := hra _ (hK1.2 tys.length (cA, ty) (by simp)).2
  have h2 := hra _ (hK.2 t0 (cX, ty) ht).2
  have h3 : cA = cX := Option.some.inj (h1.symm.trans h2)
  subst h3
  exact kk q H1 hP1 hD1 hS1
theorem z_newq (hexec : p.tables.exec = Jvm.exec) (hb : c.code = cc) {own C : String} {index : Nat} (hown : s.vm.findClass own = some m.cls) (hclink : (Cond.classLink own index C).before args s = true) (hover : va_AO C s) (hK : va_K D cl tys s) (hP : va_P D cl ws H) (hD : va_D A ws) (hS : va_S A H0 H locs) (hA : ∀ q, H0.size ≤ q → A q) (t0 : Nat) {cX : ClassId} (ht : tys[t0]? = some (cX, .object C))
    {n : Int32} {N' : Nat} (hn : ¬ n < 0) (hN : n.toNatClampNeg = N') (hbytes : N' * 4 ≤ 536870912) (hcells : cells + 1 ≤ R.cells) (hslots : slots + N' ≤ R.slots) (hdg : decode cc pc = .ok (.anewarray index, 3))
    (kk : ∀ (q : Nat) (H1 : Heap), va_P D cl (ws ++ [(q, .inl (cX, N', .inr (.inr (.inr (.inr (fun _ => none))))))]) H1 → va_D A (ws ++ [(q, .inl (cX, N', .inr (.inr (.inr (.inr (fun _ => none))))))]) → va_S A H0 H1 locs →
      W p l e R s m args below meth c H1 locs (cells + 1) (slots + N') Q (F0 m (pc + 3) ls (.ref q :: rest))) : W p l e R s m args below meth c H locs cells slots Q (F0 m pc ls (.int n :: rest)) := by
  refine va_newq hexec hb hown hclink hover hK hP hD hS hA hn hN hbytes hcells hslots hdg (fun q cA H1 hK1 hP1 hD1 hS1 => ?_)
  obtain ⟨k1, c1, -, -, -, h1⟩ := (hK1.2 tys.length (cA, .object C) (by simp)).2
  obtain ⟨k2, c2, -, -, -, h2⟩ := (hK.2 t0 (cX, .object C) ht).2
  have h3 : cA = cX := Option.some.inj (h1.symm.trans h2)
  subst h3
  exact kk q H1 hP1 hD1 hS1
end ZR
/-- a row's places beyond its end don't matter -/
theorem z_congrL {cA : ClassId} {n : Nat} {f g : Nat → Int64} (h : ∀ j, j < n → f j = g j) : vp_cell cA (n, .inr (.inl f)) = vp_cell cA (n, .inr (.inl g)) := by
  rw [vp_cell_l, vp_cell_l]
  unfold arrV
  congr 1
  apply Array.ext
  · simp
  · intro i h1 h2
    simp only [Array.getElem_ofFn]
    rw [h i (by simpa using h1)]
theorem z_congrI {cA : ClassId} {n : Nat} {f g : Nat → Int32} (h : ∀ j, j < n → f j = g j) : vp_cell cA (n, .inl f) = vp_cell cA (n, .inl g) := by
  rw [vp_cell_i, vp_cell_i]
  unfold arrV
  congr 1
  apply Array.ext
  · simp
  · intro i h1 h2
    simp only [Array.getElem_ofFn]
    rw [h i (by simpa using h1)]
theorem z_reL {D : va_G} {cl : List vw_C} {ws : va_W} {H : Heap} {a k n : Nat} {cA : ClassId} {f g : Nat → Int64} (hP : va_P D cl ws H) (hk : ws[k]? = some (a, .inl (cA, n, .inr (.inl f)))) (h : ∀ j, j < n → f j = g j) : va_P D cl (ws.set k (a, .inl (cA, n, .inr (.inl g)))) H := by
  have hl := (List.getElem?_eq_some_iff.mp hk).1
  intro i q hi
  by_cases e : i = k
  · subst e
    rw [List.getElem?_set_self hl] at hi
    cases hi
    show H[a]? = some (vp_cell cA (n, .inr (.inl g)))
    rw [← z_congrL h]
    exact hP i _ hk
  · rw [List.getElem?_set_ne (Ne.symm e)] at hi
    exact hP i q hi
theorem z_reI {D : va_G} {cl : List vw_C} {ws : va_W} {H : Heap} {a k n : Nat} {cA : ClassId} {f g : Nat → Int32} (hP : va_P D cl ws H) (hk : ws[k]? = some (a, .inl (cA, n, .inl f))) (h : ∀ j, j < n → f j = g j) : va_P D cl (ws.set k (a, .inl (cA, n, .inl g))) H := by
  have hl := (List.getElem?_eq_some_iff.mp hk).1
  intro i q hi
  by_cases e : i = k
  · subst e
    rw [List.getElem?_set_self hl] at hi
    cases hi
    show H[a]? = some (vp_cell cA (n, .inl g))
    rw [← z_congrI h]
    exact hP i _ hk
  · rw [List.getElem?_set_ne (Ne.symm e)] at hi
    exact hP i q hi

section ZG
variable {p : Program} {l : Launch} {e : Env} {R : Room} {s : State} {m : MethodId} {args : Array Value} {below : List Frame} {meth : Method} {c : Code} {H : Heap} {locs : List Loc} {cells slots : Nat} {Q : State → Prop}
variable {D : va_G} {A : Nat → Prop} {tys tysc : List (ClassId × FieldType)} {ws wc wr : va_W} {As rest st0 : List Value} {b pc mc ms : Nat} {ls : Array Slot} {a : Array Value} {free : Addr → Prop}
theorem z_genQ {g : JFrame} (h : ∀ Q' : State → Prop, Q' = Q → W p l e R s m args below meth c H locs cells slots Q' g) : W p l e R s m args below meth c H locs cells slots Q g := h Q rfl
theorem z_pr {α β : Type} {r : α} {u : β} {F : α × β} (h : (r, u) = F) : r = F.1 ∧ u = F.2 := by
  subst h; exact ⟨rfl, rfl⟩
theorem z_Gv {S : Type} {F : S} {w1 wt : S → va_W} (hr : va_Run p l e R s m args below meth c H locs cells slots mc ms (F0 m pc ls st0) rest (va_Qv (fun (u : S) => u = F) (fun u => zPost D tysc (va_A wc H.size) (w1 u)) (va_A wc H.size) a) (va_A wc H.size)) (hP : va_P D vwCl ws H) (hD : va_D A ws) (hS : va_S A s.heap H locs) (hA : ∀ q, s.heap.size ≤ q → A q) (isC isR isT : List Nat) (hC : isC.map (fun i => ws[i]?) = wc.map some) (hR : isR.map (fun i => ws[i]?) = wr.map some) (hn : (va_nd isR && (va_nd isT && isR.all (fun i => decide (i ∉ isC)))) = true) (hT : ∀ u, isT.map (fun i => (wr ++ w1 u)[i]?) = (wt u).map some)
    (kk : ∀ (u : S) (H1 : Heap) (locs1 : List Loc), u = F → va_P D vwCl (wt u) H1 → va_D A (wt u) → va_S A s.heap H1 locs1 → W p l e R s m args below meth c H1 locs1 (cells + mc) (slots + ms) Q (F0 m (pc + 3) ls rest)) : W p l e R s m args below meth c H locs cells slots Q (F0 m pc ls st0) := by
  have hF := va_free hD hS hA isC hC
  refine va_callv hr hS (fun q _ h => hF q h) hF (fun u t H1 locs1 ht hvm hx hB hz hk hS1 => ?_)
  obtain ⟨g1, g2⟩ := z_after hP hD hS hA isC isR isT hC hR hn (hT u) hk ht hB
  exact kk u H1 locs1 hx g1 g2 hS1
theorem z_Gi {S : Type} {F : Int32 × S} {w1 wt : S → va_W} (hr : va_Run p l e R s m args below meth c H locs cells slots mc ms (F0 m pc ls st0) rest (va_Qi (fun (x : Int32) (u : S) => (x, u) = F) (fun u => zPost D tysc (va_A wc H.size) (w1 u)) (va_A wc H.size) a) (va_A wc H.size)) (hP : va_P D vwCl ws H) (hD : va_D A ws) (hS : va_S A s.heap H locs) (hA : ∀ q, s.heap.size ≤ q → A q) (isC isR isT : List Nat) (hC : isC.map (fun i => ws[i]?) = wc.map some) (hR : isR.map (fun i => ws[i]?) = wr.map some) (hn : (va_nd isR && (va_nd isT && isR.all (fun i => decide (i ∉ isC)))) = true) (hT : ∀ u, isT.map (fun i => (wr ++ w1 u)[i]?) = (wt u).map some)
    (kk : ∀ (r : Int32) (u : S) (H1 : Heap) (locs1 : List Loc), (r, u) = F → va_P D vwCl (wt u) H1 → va_D A (wt u) → va_S A s.heap H1 locs1 → W p l e R s m args below meth c H1 locs1 (cells + mc) (slots + ms) Q (F0 m (pc + 3) ls (.int r :: rest))) : W p l e R s m args below meth c H locs cells slots Q (F0 m pc ls st0) := by
  have hF := va_free hD hS hA isC hC
  refine va_calli hr hS (fun q _ h => hF q h) hF (fun x u t H1 locs1 ht hvm hx hB hz hk hS1 => ?_)
  obtain ⟨g1, g2⟩ := z_after hP hD hS hA isC isR isT hC hR hn (hT u) hk ht hB
  exact kk x u H1 locs1 hx g1 g2 hS1
theorem z_Gl {S : Type} {F : Int64 × S} {w1 wt : S → va_W} (hr : va_Run p l e R s m args below meth c H locs cells slots mc ms (F0 m pc ls st0) rest (va_Ql (fun (x : Int64) (u : S) => (x, u) = F) (fun u => zPost D tysc (va_A wc H.size) (w1 u)) (va_A wc H.size) a) (va_A wc H.size)) (hP : va_P D vwCl ws H) (hD : va_D A ws) (hS : va_S A s.heap H locs) (hA : ∀ q, s.heap.size ≤ q → A q) (isC isR isT : List Nat) (hC : isC.map (fun i => ws[i]?) = wc.map some) (hR : isR.map (fun i => ws[i]?) = wr.map some) (hn : (va_nd isR && (va_nd isT && isR.all (fun i => decide (i ∉ isC)))) = true) (hT : ∀ u, isT.map (fun i => (wr ++ w1 u)[i]?) = (wt u).map some)
    (kk : ∀ (r : Int64) (u : S) (H1 : Heap) (locs1 : List Loc), (r, u) = F → va_P D vwCl (wt u) H1 → va_D A (wt u) → va_S A s.heap H1 locs1 → W p l e R s m args below meth c H1 locs1 (cells + mc) (slots + ms) Q (F0 m (pc + 3) ls (.long r :: rest))) : W p l e R s m args below meth c H locs cells slots Q (F0 m pc ls st0) := by
  have hF := va_free hD hS hA isC hC
  refine va_calll hr hS (fun q _ h => hF q h) hF (fun x u t H1 locs1 ht hvm hx hB hz hk hS1 => ?_)
  obtain ⟨g1, g2⟩ := z_after hP hD hS hA isC isR isT hC hR hn (hT u) hk ht hB
  exact kk x u H1 locs1 hx g1 g2 hS1
end ZG
theorem z_sw (x : Int32) (lo hi : Int) : (x.toInt < lo ∨ hi < x.toInt) ∨ ∃ j : Nat, (j : Int) ≤ hi - lo ∧ x = Int32.ofInt (lo + j) := by
  by_cases h : x.toInt < lo ∨ hi < x.toInt
  · exact Or.inl h
  · have h1 : ¬ x.toInt < lo := fun q => h (Or.inl q)
    have h2 : ¬ hi < x.toInt := fun q => h (Or.inr q)
    refine Or.inr ⟨(x.toInt - lo).toNat, by omega, ?_⟩
    have e : lo + ((x.toInt - lo).toNat : Int) = x.toInt := by omega
    rw [e]
    exact (Int32.ofInt_toInt x).symm
theorem z_out {x : Int32} {lo hi : Int} (h : x.toInt < lo ∨ hi < x.toInt) (k : Int32) (hk : lo ≤ k.toInt ∧ k.toInt ≤ hi) : ¬ x = k := by
  intro e; subst e; omega
abbrev zty (cA : Nat → ClassId) : List (ClassId × FieldType) := [(cA 0, .long), (cA 0, .long), (cA 0, .long), (cA 3, .char), (cA 4, .object "GyroTrainer$State")]
abbrev vX2 : Type := (Nat → Int64) × Int32
abbrev wX2 (cA : Nat → ClassId) (n : Nat) (h0 h1 : Nat) (v : vX2) : va_W := [(h0, .inr (2, [.ref h1, .int v.2])), (h1, .inl ((cA 0), n, .inr (.inl v.1)))]
abbrev vX3 : Type := (Nat → Int64) × (Nat → Int64) × (Nat → Int64) × Int32
abbrev wX3 (cA : Nat → ClassId) (n : Nat) (h0 h1 h2 h3 : Nat) (v : vX3) : va_W := [(h0, .inr (3, [.ref h1, .ref h2, .ref h3, .int v.2.2.2])), (h1, .inl ((cA 0), n, .inr (.inl v.1))), (h2, .inl ((cA 0), n, .inr (.inl v.2.1))), (h3, .inl ((cA 0), n, .inr (.inl v.2.2.1)))]
abbrev vX5 : Type := vX3 × Int64 × Int64 × Int64 × Int64
abbrev wX5 (cA : Nat → ClassId) (h0 h1 h2 h3 h4 : Nat) (v : vX5) : va_W := [(h0, .inr (5, [.ref h1, .long v.2.1, .long v.2.2.1, .long v.2.2.2.1, .long v.2.2.2.2])), (h1, .inr (3, [.ref h2, .ref h3, .ref h4, .int v.1.2.2.2])), (h2, .inl ((cA 0), 8, .inr (.inl v.1.1))), (h3, .inl ((cA 0), 8, .inr (.inl v.1.2.1))), (h4, .inl ((cA 0), 8, .inr (.inl v.1.2.2.1)))]
abbrev vX0 : Type := (Nat → Int64) × Int64 × Int64 × Int32 × Int32 × Int32 × Int64
abbrev wX0 (cA : Nat → ClassId) (h0 h1 : Nat) (v : vX0) : va_W := [(h0, .inr (0, [.ref h1, .long v.2.1, .long v.2.2.1, .int v.2.2.2.1, .int v.2.2.2.2.1, .int v.2.2.2.2.2.1, .long v.2.2.2.2.2.2])), (h1, .inl ((cA 0), 5, .inr (.inl v.1)))]
abbrev vX8 : Type := vX2 × vX2 × vX2 × Int64 × Int32 × Int32
abbrev wX8 (cA : Nat → ClassId) (h0 h1 h2 h3 h4 h5 h6 : Nat) (v : vX8) : va_W := [(h0, .inr (8, [.ref h1, .ref h3, .ref h5, .long v.2.2.2.1, .int v.2.2.2.2.1, .int v.2.2.2.2.2])), (h1, .inr (2, [.ref h2, .int v.1.2])), (h2, .inl ((cA 0), 8, .inr (.inl v.1.1))), (h3, .inr (2, [.ref h4, .int v.2.1.2])), (h4, .inl ((cA 0), 8, .inr (.inl v.2.1.1))), (h5, .inr (2, [.ref h6, .int v.2.2.1.2])), (h6, .inl ((cA 0), 8, .inr (.inl v.2.2.1.1)))]
abbrev vX6 : Type := (Nat → Int64) × vX2 × Int32 × Int32
abbrev wX6 (cA : Nat → ClassId) (h0 h1 h2 h3 : Nat) (v : vX6) : va_W := [(h0, .inr (6, [.ref h1, .ref h2, .int v.2.2.1, .int v.2.2.2])), (h1, .inl ((cA 0), 6, .inr (.inl v.1))), (h2, .inr (2, [.ref h3, .int v.2.1.2])), (h3, .inl ((cA 0), 5, .inr (.inl v.2.1.1)))]
abbrev vX7 : Type := (Nat → Int64) × vX5 × vX0 × vX8 × vX6 × Int64 × Int32 × Int64
abbrev wX7 (cA : Nat → ClassId) (h0 h1 h2 h3 h4 h5 h6 h7 h8 h9 h10 h11 h12 h13 h14 h15 h16 h17 h18 h19 : Nat) (v : vX7) : va_W := [(h0, .inr (7, [.ref h1, .ref h2, .ref h7, .ref h9, .ref h16, .long v.2.2.2.2.2.1, .int v.2.2.2.2.2.2.1, .long v.2.2.2.2.2.2.2])), (h1, .inl ((cA 0), 9, .inr (.inl v.1))), (h2, .inr (5, [.ref h3, .long v.2.1.2.1, .long v.2.1.2.2.1, .long v.2.1.2.2.2.1, .long v.2.1.2.2.2.2])), (h3, .inr (3, [.ref h4, .ref h5, .ref h6, .int v.2.1.1.2.2.2])), (h4, .inl ((cA 0), 8, .inr (.inl v.2.1.1.1))), (h5, .inl ((cA 0), 8, .inr (.inl v.2.1.1.2.1))), (h6, .inl ((cA 0), 8, .inr (.inl v.2.1.1.2.2.1))), (h7, .inr (0, [.ref h8, .long v.2.2.1.2.1, .long v.2.2.1.2.2.1, .int v.2.2.1.2.2.2.1, .int v.2.2.1.2.2.2.2.1, .int v.2.2.1.2.2.2.2.2.1, .long v.2.2.1.2.2.2.2.2.2])), (h8, .inl ((cA 0), 5, .inr (.inl v.2.2.1.1))), (h9, .inr (8, [.ref h10, .ref h12, .ref h14, .long v.2.2.2.1.2.2.2.1, .int v.2.2.2.1.2.2.2.2.1, .int v.2.2.2.1.2.2.2.2.2])), (h10, .inr (2, [.ref h11, .int v.2.2.2.1.1.2])), (h11, .inl ((cA 0), 8, .inr (.inl v.2.2.2.1.1.1))), (h12, .inr (2, [.ref h13, .int v.2.2.2.1.2.1.2])), (h13, .inl ((cA 0), 8, .inr (.inl v.2.2.2.1.2.1.1))), (h14, .inr (2, [.ref h15, .int v.2.2.2.1.2.2.1.2])), (h15, .inl ((cA 0), 8, .inr (.inl v.2.2.2.1.2.2.1.1))), (h16, .inr (6, [.ref h17, .ref h18, .int v.2.2.2.2.1.2.2.1, .int v.2.2.2.2.1.2.2.2])), (h17, .inl ((cA 0), 6, .inr (.inl v.2.2.2.2.1.1))), (h18, .inr (2, [.ref h19, .int v.2.2.2.2.1.2.1.2])), (h19, .inl ((cA 0), 5, .inr (.inl v.2.2.2.2.1.2.1.1)))]
abbrev vX4 : Type := (Nat → Int32) × vX3 × Int32 × Int32 × Int64
abbrev wX4 (cA : Nat → ClassId) (h0 h1 h2 h3 h4 h5 : Nat) (v : vX4) : va_W := [(h0, .inr (4, [.ref h1, .ref h2, .int v.2.2.1, .int v.2.2.2.1, .long v.2.2.2.2])), (h1, .inl ((cA 3), 80, .inl v.1)), (h2, .inr (3, [.ref h3, .ref h4, .ref h5, .int v.2.1.2.2.2])), (h3, .inl ((cA 0), 13, .inr (.inl v.2.1.1))), (h4, .inl ((cA 0), 13, .inr (.inl v.2.1.2.1))), (h5, .inl ((cA 0), 13, .inr (.inl v.2.1.2.2.1)))]
abbrev vX10 : Type := (Nat → Int32) × (Nat → Int64) × (Nat → Int32) × (Nat → Int64) × (Nat → Int32) × (Nat → Int64) × Int32 × (Nat → Int32) × (Nat → Int64) × (Nat → Int32) × (Nat → Int32) × Int32 × Int32 × Int32 × (Nat → Int32) × Int32
abbrev wX10 (cA : Nat → ClassId) (h0 h1 h2 h3 h4 h5 h6 h7 h8 h9 h10 h11 : Nat) (v : vX10) : va_W := [(h0, .inr (10, [.ref h1, .ref h2, .ref h3, .ref h4, .ref h5, .ref h6, .int v.2.2.2.2.2.2.1, .ref h7, .ref h8, .ref h9, .ref h10, .int v.2.2.2.2.2.2.2.2.2.2.2.1, .int v.2.2.2.2.2.2.2.2.2.2.2.2.1, .int v.2.2.2.2.2.2.2.2.2.2.2.2.2.1, .ref h11, .int v.2.2.2.2.2.2.2.2.2.2.2.2.2.2.2])), (h1, .inl ((cA 1), 85, .inl v.1)), (h2, .inl ((cA 0), 9, .inr (.inl v.2.1))), (h3, .inl ((cA 1), 85, .inl v.2.2.1)), (h4, .inl ((cA 0), 9, .inr (.inl v.2.2.2.1))), (h5, .inl ((cA 1), 510, .inl v.2.2.2.2.1)), (h6, .inl ((cA 0), 54, .inr (.inl v.2.2.2.2.2.1))), (h7, .inl ((cA 1), 170, .inl v.2.2.2.2.2.2.2.1)), (h8, .inl ((cA 0), 18, .inr (.inl v.2.2.2.2.2.2.2.2.1))), (h9, .inl ((cA 2), 2, .inl v.2.2.2.2.2.2.2.2.2.1)), (h10, .inl ((cA 1), 80, .inl v.2.2.2.2.2.2.2.2.2.2.1)), (h11, .inl ((cA 1), 60, .inl v.2.2.2.2.2.2.2.2.2.2.2.2.2.2.1))]
