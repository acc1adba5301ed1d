/-! THE CLAIM OUT OF ONE WALK OF THE LAW'S BODY. Your part is whole_start (and what it stands on); all else here is the same for every law, but numbers. -/
def R_law : String := "GyroTrainerLaw"
def lw_P (b : Addr) (xs : List Int32) (args : Array Value) (s : State) : Prop := args = #[.ref b] ∧ s.IntsAt b xs ∧ xs.length ≤ 2048 ∧ (Jvm.Cond.and given_1 narrow_1).before args s = true
def lw_Q (_ : Array Value) (s : State) (o : Outcome) (t : State) : Prop := o = .returned (some (.int 1)) ∧ Framed s o t [] 600000 7302250
def lw_Z (below : List Frame) (a : Array Value) (s : State) : State → Prop := fun t => ∃ o, t.status = .running ∧ Ended t below o ∧ lw_Q a s o t
/-- the law's own end, with 1 on the stack, nothing written that was there before, its room as the claim has it -/
theorem lw_ret {p : Program} {l : Launch} {e : Env} {s : State} {m : MethodId} {below : List Frame} {meth : Method} {c : Code} {b : Nat} (hx : p.tables.exec = Jvm.exec) (hb : c.code = code) (hr : meth.sig.returnType = ret) (hlocks : meth.locks = false) {pc : Nat} {H : Heap} {ls : Array Slot} (hdg : decode code pc = .ok (.ireturn, 1)) : W p l e room_1 s m #[Value.ref b] below meth c H [] 600000 7302250 (lw_Z below #[Value.ref b] s) (F0 m pc ls [.int 1]) := by
  intro T hT X
  obtain ⟨fs, hret, hrun, hended, hW, hframe⟩ := X.leave (v := some (.int 1)) (hlocks := hlocks) (fun h => by rw [hr] at h; cases h)
  have hmeth' : T.vm.method? m = some meth := X.method'
  refine ⟨T.setFrames fs, ?_, .returned (some (.int 1)), hrun, hended, rfl, ⟨_, rfl⟩, hW, hframe⟩
  jvm_step X.here [X.here.top, hx, hb, hdg, hmeth', hr, ret, narrow_b1]
  (try refine ⟨rfl, ?_⟩); (try refine ⟨rfl, ?_⟩)
  first | (intro acts; rw [hret _ acts rfl rfl rfl]) | rw [hret _ _ rfl rfl rfl]
  exact Steps.refl _
/-- what holds at the law's entry: the machine, the code, the tables' words (any of lw_tbl by 'hts w (by decide +kernel)'), the script of L ints xs at the cell b, what the Statement gives of the start (any of its parts by flat_of_before) -/
def lw_At (p : Program) (s : State) (m : MethodId) (meth : Method) (c : Code) (b L : Nat) (xs : Nat → Int32) : Prop :=
  p.tables.exec = Jvm.exec ∧ c.code = code ∧ meth.sig.returnType = ret ∧ c.maxLocals = 4 ∧ s.vm.findClass R_law = some m.cls ∧ (∀ w ∈ lw_tbl, w.before #[Value.ref b] s = true) ∧ va_X b L xs s s.heap ∧ b < s.heap.size ∧ meth.locks = false ∧ (Jvm.Cond.and given_1 narrow_1).before #[Value.ref b] s = true
/-! the law's loop -/
theorem z_i4 (j : Nat) : nI (4 * j) + Int32.ofInt 4 = nI (4 * (j + 1)) := by
  rw [show Int32.ofInt 4 = nI 4 from by decide, nI_add]; rfl
theorem z_lt4 {L i : Nat} (hL : L ≤ 2048) (hi : i ≤ L) (h : ¬ (Int32.ofNat L - 4) < nI i) : i + 4 ≤ L := by
  rcases Nat.lt_or_ge L 4 with q | q
  · exfalso
    apply h
    rcases (show L = 0 ∨ L = 1 ∨ L = 2 ∨ L = 3 by omega) with rfl | rfl | rfl | rfl <;> rcases (show i = 0 ∨ i = 1 ∨ i = 2 ∨ i = 3 by omega) with rfl | rfl | rfl | rfl <;> decide
  · have e : Int32.ofNat L - 4 = nI (L - 4) := by
      have e1 : nI L = nI (L - 4) + 4 := by
        rw [show (4 : Int32) = nI 4 from by decide, nI_add, Nat.sub_add_cancel q]
      show nI L - 4 = nI (L - 4)
      rw [e1]; exact Int32.add_sub_cancel _ _
    rw [e] at h
    have := Nat.not_lt.mp (fun r => h ((nI_ltI (a := L - 4) (b := i) (by omega) (by omega)).mpr r))
    omega
section ZLOOP
variable {p : Program} {l : Launch} {e : Env} {s : State} {m : MethodId} {below : List Frame} {meth : Method} {c : Code} {b L : Nat} {xs : Nat → Int32} {D : va_G} {cA : Nat → ClassId}
set_option maxHeartbeats 4000000 in
set_option maxRecDepth 100000 in
theorem law_loop (C0 : LA p s m c b L xs D cA) (hr : meth.sig.returnType = ret) (hlocks : meth.locks = false) (g q : Nat → Nat) :
    ∀ (n j : Nat), 4 * j ≤ L → L + 4 ≤ 4 * (j + n) → ∀ (t : vTv) (w : vX10) (H : Heap) (locs : List Loc), Rel t w → va_P D vwCl (zTr cA g t ++ zMd cA q w) H → va_D (zAl s) (zTr cA g t ++ zMd cA q w) → va_S (zAl s) s.heap H locs → ∀ (ls : Array Slot), lv_has ls 4 (lvL b (g 0) (q 0) j) → W p l e room_1 s m #[Value.ref b] below meth c H locs (62 + 20 * j) (1472 + 115 * j) (lw_Z below #[Value.ref b] s) (F0 m 18 ls []) := by
  obtain ⟨hx, hb, hml, hown, hts, hX, hbl, hL, hK, hE⟩ := id C0
  have hbA : ¬ zAl s b := Nat.not_le.mpr hbl
  intro n
  induction n with
  | zero => intro j h1 h2; exact absurd h2 (by omega)
  | succ n ih =>
    intro j hj hn t w H locs hR hP hD hS ls hl
    refine lv_iload_n hx hb dL_law_18 rfl (lv_at hl 0 rfl) ?_
    refine lv_aload_n hx hb dL_law_19 rfl (lv_at hl 1 rfl) ?_
    refine va_slen hx hb hX hbl hbA hS dL_law_20 ?_
    refine lv_iconst (v := 4) hx hb dL_law_21 (by decide) ?_
    refine lv_isub hx hb dL_law_22 ?_
    refine lv_icmp_gt (tgt := 900) hx hb dL_law_23 (by decide) (fun _ => ?_) (fun c_1 => ?_)
    · refine lv_iconst (v := 1) hx hb dL_law_900 (by decide) ?_
      refine va_forget (fun q hq => hS.2.2 q hq) ?_
      refine W.widen (k := 600000) (n := 7302250) (by omega) (by omega) ?_
      exact lw_ret hx hb hr hlocks dL_law_901
    · have hj4 : 4 * j + 4 ≤ L := z_lt4 hL hj c_1
      have kk : LK p l e s m below meth c b D cA g q j (lw_Z below #[Value.ref b] s) ls := by
        intro t1 w1 H1 locs1 hR1 hP1 hD1 hS1
        refine lv_iinc (v := nI (4 * (j + 1))) (lv' := lvL b (g 0) (q 0) (j + 1)) hx hb dL_law_894 hl (k := 0) rfl (z_i4 j) (by decide) rfl (fun ls hl => ?_)
        refine lv_goto (tgt := 18) hx hb dL_law_897 (by decide) ?_
        refine W.widen (k := 62 + 20 * (j + 1)) (n := 1472 + 115 * (j + 1)) (by omega) (by omega) ?_
        exact ih (j + 1) (by omega) (by omega) t1 w1 H1 locs1 hR1 hP1 hD1 hS1 ls hl
      refine lv_aload_n hx hb dL_law_26 rfl (lv_at hl 1 rfl) ?_
      refine lv_iload_n hx hb dL_law_27 rfl (lv_at hl 0 rfl) ?_
      refine va_sld hx hb hX hbl hbA hS (vp_in_nI (by omega) (by omega)) dL_law_28 ?_
      refine lv_bipush (v := 31) hx hb dL_law_29 (by decide) ?_
      refine lv_iand hx hb dL_law_31 ?_
      refine lv_topi (fun x ex => ?_)
      clear ex
      rcases z_sw x 0 27 with h | ⟨k, hk, rfl⟩
      · refine lv_tableOut (tgt := 894) hx hb dL_law_32 h (by decide) ?_
        refine W.widen (k := 82 + 20 * j) (n := 1587 + 115 * j) (by omega) (by omega) ?_
        exact kk t w H locs hR hP hD hS
      · have hk : k ≤ 27 := by omega
        rcases (show k = 0 ∨ k = 1 ∨ k = 2 ∨ k = 3 ∨ k = 4 ∨ k = 5 ∨ k = 6 ∨ k = 7 ∨ k = 8 ∨ k = 9 ∨ k = 10 ∨ k = 11 ∨ k = 12 ∨ k = 13 ∨ k = 14 ∨ k = 15 ∨ k = 16 ∨ k = 17 ∨ k = 18 ∨ k = 19 ∨ k = 20 ∨ k = 21 ∨ k = 22 ∨ k = 23 ∨ k = 24 ∨ k = 25 ∨ k = 26 ∨ k = 27 by omega) with rfl | rfl | rfl | rfl | rfl | rfl | rfl | rfl | rfl | rfl | rfl | rfl | rfl | rfl | rfl | rfl | rfl | rfl | rfl | rfl | rfl | rfl | rfl | rfl | rfl | rfl | rfl | rfl
        · refine lv_tableIn (off := 128) (tgt := 160) hx hb dL_law_32 (by decide) (by decide) (by decide +kernel) (by decide) ?_
          exact lc_set C0 g q hR hP hD hS hj4 hl kk
        · refine lv_tableIn (off := 161) (tgt := 193) hx hb dL_law_32 (by decide) (by decide) (by decide +kernel) (by decide) ?_
          exact lc_start C0 g q hR hP hD hS hj4 hl kk
        · refine lv_tableIn (off := 194) (tgt := 226) hx hb dL_law_32 (by decide) (by decide) (by decide +kernel) (by decide) ?_
          exact lc_place C0 g q hR hP hD hS hj4 hl kk
        · refine lv_tableIn (off := 217) (tgt := 249) hx hb dL_law_32 (by decide) (by decide) (by decide +kernel) (by decide) ?_
          exact lc_line C0 g q hR hP hD hS hj4 hl kk
        · refine lv_tableIn (off := 240) (tgt := 272) hx hb dL_law_32 (by decide) (by decide) (by decide +kernel) (by decide) ?_
          exact lc_steer C0 g q hR hP hD hS hj4 hl kk
        · refine lv_tableIn (off := 273) (tgt := 305) hx hb dL_law_32 (by decide) (by decide) (by decide +kernel) (by decide) ?_
          exact lc_leg C0 g q hR hP hD hS hj4 hl kk
        · refine lv_tableIn (off := 316) (tgt := 348) hx hb dL_law_32 (by decide) (by decide) (by decide +kernel) (by decide) ?_
          exact lc_pass C0 g q hR hP hD hS hj4 hl kk
        · refine lv_tableIn (off := 339) (tgt := 371) hx hb dL_law_32 (by decide) (by decide) (by decide +kernel) (by decide) ?_
          exact lc_damp C0 g q hR hP hD hS hj4 hl kk
        · refine lv_tableIn (off := 362) (tgt := 394) hx hb dL_law_32 (by decide) (by decide) (by decide +kernel) (by decide) ?_
          exact lc_correct C0 g q hR hP hD hS hj4 hl kk
        · refine lv_tableIn (off := 395) (tgt := 427) hx hb dL_law_32 (by decide) (by decide) (by decide +kernel) (by decide) ?_
          exact lc_forgetSwings C0 g q hR hP hD hS hj4 hl kk
        · refine lv_tableIn (off := 408) (tgt := 440) hx hb dL_law_32 (by decide) (by decide) (by decide +kernel) (by decide) ?_
          exact lc_observe C0 g q hR hP hD hS hj4 hl kk
        · refine lv_tableIn (off := 431) (tgt := 463) hx hb dL_law_32 (by decide) (by decide) (by decide +kernel) (by decide) ?_
          exact lc_guess C0 g q hR hP hD hS hj4 hl kk
        · refine lv_tableIn (off := 454) (tgt := 486) hx hb dL_law_32 (by decide) (by decide) (by decide +kernel) (by decide) ?_
          exact lc_compass C0 g q hR hP hD hS hj4 hl kk
        · refine lv_tableIn (off := 477) (tgt := 509) hx hb dL_law_32 (by decide) (by decide) (by decide +kernel) (by decide) ?_
          exact lc_turn C0 g q hR hP hD hS hj4 hl kk
        · refine lv_tableIn (off := 510) (tgt := 542) hx hb dL_law_32 (by decide) (by decide) (by decide +kernel) (by decide) ?_
          exact lc_check C0 g q hR hP hD hS hj4 hl kk
        · refine lv_tableIn (off := 533) (tgt := 565) hx hb dL_law_32 (by decide) (by decide) (by decide +kernel) (by decide) ?_
          exact lc_reason C0 g q hR hP hD hS hj4 hl kk
        · refine lv_tableIn (off := 546) (tgt := 578) hx hb dL_law_32 (by decide) (by decide) (by decide +kernel) (by decide) ?_
          exact lc_state C0 g q hR hP hD hS hj4 hl kk
        · refine lv_tableIn (off := 569) (tgt := 601) hx hb dL_law_32 (by decide) (by decide) (by decide +kernel) (by decide) ?_
          exact lc_wave C0 g q hR hP hD hS hj4 hl kk
        · refine lv_tableIn (off := 602) (tgt := 634) hx hb dL_law_32 (by decide) (by decide) (by decide +kernel) (by decide) ?_
          exact lc_restAt C0 g q hR hP hD hS hj4 hl kk
        · refine lv_tableIn (off := 645) (tgt := 677) hx hb dL_law_32 (by decide) (by decide) (by decide +kernel) (by decide) ?_
          exact lc_calmIn C0 g q hR hP hD hS hj4 hl kk
        · refine lv_tableIn (off := 678) (tgt := 710) hx hb dL_law_32 (by decide) (by decide) (by decide +kernel) (by decide) ?_
          exact lc_bestLevel C0 g q hR hP hD hS hj4 hl kk
        · refine lv_tableIn (off := 711) (tgt := 743) hx hb dL_law_32 (by decide) (by decide) (by decide +kernel) (by decide) ?_
          exact lc_put C0 g q hR hP hD hS hj4 hl kk
        · refine lv_tableIn (off := 764) (tgt := 796) hx hb dL_law_32 (by decide) (by decide) (by decide +kernel) (by decide) ?_
          exact lc_wipe C0 g q hR hP hD hS hj4 hl kk
        · refine lv_tableIn (off := 777) (tgt := 809) hx hb dL_law_32 (by decide) (by decide) (by decide +kernel) (by decide) ?_
          exact lc_fault C0 g q hR hP hD hS hj4 hl kk
        · refine lv_tableIn (off := 790) (tgt := 822) hx hb dL_law_32 (by decide) (by decide) (by decide +kernel) (by decide) ?_
          exact lc_load C0 g q hR hP hD hS hj4 hl kk
        · refine lv_tableIn (off := 803) (tgt := 835) hx hb dL_law_32 (by decide) (by decide) (by decide +kernel) (by decide) ?_
          exact lc_undo C0 g q hR hP hD hS hj4 hl kk
        · refine lv_tableIn (off := 816) (tgt := 848) hx hb dL_law_32 (by decide) (by decide) (by decide +kernel) (by decide) ?_
          exact lc_save C0 g q hR hP hD hS hj4 hl kk
        · refine lv_tableIn (off := 839) (tgt := 871) hx hb dL_law_32 (by decide) (by decide) (by decide +kernel) (by decide) ?_
          exact lc_restore C0 g q hR hP hD hS hj4 hl kk
end ZLOOP
