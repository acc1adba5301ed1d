/-! legs told by a text: the pad, the loading -/
def tx1 (y1 y2 : Int32) : Int64 := (((((425201762304 : Int64) ||| ((((48 : Int32) + y1).toInt64) <<< ((24 : Int32).toInt64 &&& 63))) ||| (7733248 : Int64)) ||| ((((48 : Int32) + y2).toInt64) <<< ((8 : Int32).toInt64 &&& 63))) ||| (109 : Int64))
def tx2 (y3 : Int32) : Int64 := (((((((48 : Int32) + y3).toInt64) <<< ((24 : Int32).toInt64 &&& 63)) ||| (3866624 : Int64)) ||| (25344 : Int64)) ||| (((48 : Int32) + y3).toInt64))
def tx3 (y1 y2 : Int32) : Int64 := ((((1979711488 : Int64) ||| ((((48 : Int32) + y1).toInt64) <<< ((16 : Int32).toInt64 &&& 63))) ||| (27904 : Int64)) ||| (((48 : Int32) + y2).toInt64))
theorem tx1_all : (List.range 100).all (fun i => decide (1 ≤ i / 10 ∧ 1 ≤ i % 10 → fm_p1 8 0 (tx1 (nI (i / 10)) (nI (i % 10))) = (5, 0) ∧ fm_sg (tx1 (nI (i / 10)) (nI (i % 10))) 5 0 = 99 ∧ fm_sg (tx1 (nI (i / 10)) (nI (i % 10))) 5 1 = nI (48 + i / 10) ∧ fm_sg (tx1 (nI (i / 10)) (nI (i % 10))) 5 2 = 118 ∧ fm_sg (tx1 (nI (i / 10)) (nI (i % 10))) 5 3 = nI (48 + i % 10) ∧ fm_sg (tx1 (nI (i / 10)) (nI (i % 10))) 5 4 = 109)) = true := by decide +kernel
theorem tx2_all : (List.range 10).all (fun i => decide (1 ≤ i → fm_p1 8 0 (tx2 (nI i)) = (4, 0) ∧ fm_sg (tx2 (nI i)) 4 0 = nI (48 + i) ∧ fm_sg (tx2 (nI i)) 4 1 = 59 ∧ fm_sg (tx2 (nI i)) 4 2 = 99 ∧ fm_sg (tx2 (nI i)) 4 3 = nI (48 + i))) = true := by decide +kernel
theorem tx3_all : (List.range 100).all (fun i => decide (1 ≤ i / 10 ∧ 1 ≤ i % 10 → fm_p1 8 0 (tx3 (nI (i / 10)) (nI (i % 10))) = (4, 0) ∧ fm_sg (tx3 (nI (i / 10)) (nI (i % 10))) 4 0 = 118 ∧ fm_sg (tx3 (nI (i / 10)) (nI (i % 10))) 4 1 = nI (48 + i / 10) ∧ fm_sg (tx3 (nI (i / 10)) (nI (i % 10))) 4 2 = 109 ∧ fm_sg (tx3 (nI (i / 10)) (nI (i % 10))) 4 3 = nI (48 + i % 10))) = true := by decide +kernel
section
variable {c s m : Nat}
theorem tx1_k (hc : 1 ≤ c ∧ c ≤ 9) (hs : 1 ≤ s ∧ s ≤ 9) : fm_p1 8 0 (tx1 (nI c) (nI s)) = (5, 0) ∧ fm_sg (tx1 (nI c) (nI s)) 5 0 = 99 ∧ fm_sg (tx1 (nI c) (nI s)) 5 1 = nI (48 + c) ∧ fm_sg (tx1 (nI c) (nI s)) 5 2 = 118 ∧ fm_sg (tx1 (nI c) (nI s)) 5 3 = nI (48 + s) ∧ fm_sg (tx1 (nI c) (nI s)) 5 4 = 109 := by
  have h := co_dec tx1_all (i := 10 * c + s) (by omega)
  rw [show (10 * c + s) / 10 = c by omega, show (10 * c + s) % 10 = s by omega] at h
  exact h ⟨hc.1, hs.1⟩
theorem tx2_k (hm : 1 ≤ m ∧ m ≤ 9) : fm_p1 8 0 (tx2 (nI m)) = (4, 0) ∧ fm_sg (tx2 (nI m)) 4 0 = nI (48 + m) ∧ fm_sg (tx2 (nI m)) 4 1 = 59 ∧ fm_sg (tx2 (nI m)) 4 2 = 99 ∧ fm_sg (tx2 (nI m)) 4 3 = nI (48 + m) := co_dec tx2_all (i := m) (by omega) hm.1
theorem tx3_k (hc : 1 ≤ c ∧ c ≤ 9) (hs : 1 ≤ s ∧ s ≤ 9) : fm_p1 8 0 (tx3 (nI c) (nI s)) = (4, 0) ∧ fm_sg (tx3 (nI c) (nI s)) 4 0 = 118 ∧ fm_sg (tx3 (nI c) (nI s)) 4 1 = nI (48 + c) ∧ fm_sg (tx3 (nI c) (nI s)) 4 2 = 109 ∧ fm_sg (tx3 (nI c) (nI s)) 4 3 = nI (48 + s) := by
  have h := co_dec tx3_all (i := 10 * c + s) (by omega)
  rw [show (10 * c + s) / 10 = c by omega, show (10 * c + s) % 10 = s by omega] at h
  exact h ⟨hc.1, hs.1⟩
theorem fig9 (x : Int32) : ∃ k : Nat, (1 ≤ k ∧ k ≤ 9) ∧ 1 + fl_up x (9 : Int32) = nI k := by
  obtain ⟨k, hk, ek⟩ := up_ex x (n := 9) (by decide) (by decide)
  refine ⟨1 + k, by omega, ?_⟩
  have ek : fl_up x (9 : Int32) = nI k := ek
  rw [ek]
  exact nI_add 1 k
end
section
variable {v u : vX10} {q0 d : Nat} {x : Int64} {r : Int32}
theorem put_ok (hq : fq v = nI q0) (h80 : q0 + d ≤ 80) (hp : fm_p1 8 0 x = (d, 0)) (hd : d ≠ 9 ∧ d ≠ 0) (hu : u = (fm_put (nT (fq v)) v x).2) : u.1 = v.1 ∧ u.2.1 = v.2.1 ∧ fq u = nI (q0 + d) ∧ fp u = zpl q0 d (fp v) (fm_sg x d) := by
  have e : nT (fq v) = q0 := by rw [hq]; exact nT_nI (by omega)
  rw [e] at hu
  unfold fm_put at hu
  rw [hp] at hu
  dsimp only at hu
  rw [if_neg hd.1, if_neg hd.2, if_pos rfl, if_pos h80] at hu
  rw [hu]
  exact ⟨rfl, rfl, rfl, rfl⟩
theorem sp_fp {v w : vX10} (h : hSp v w) : fp w = fp v ∧ fq w = fq v ∧ w.2.1 = v.2.1 := by
  have h2 : w = fm_sp v (fs w) (fw w) (frd w) (frm w) := h
  have h3 := congrArg (fun x : vX10 => fp x) h2
  have h4 := congrArg (fun x : vX10 => fq x) h2
  have h5 := congrArg (fun x : vX10 => x.2.1) h2
  exact ⟨h3, h4, h5⟩
theorem fW_pad (v : vX10) : fp (fm_fW v) = fp v ∧ fq (fm_fW v) = fq v := ⟨(sp_fp (fW_S v)).1, (sp_fp (fW_S v)).2.1⟩
theorem fW_s (v : vX10) : (fm_fW v).2.1 = v.2.1 := (sp_fp (fW_S v)).2.2
/-- the first five signs -/
def pad5 (v : vX10) (c s : Nat) : Prop := fp v 0 = 99 ∧ fp v 1 = nI (48 + c) ∧ fp v 2 = 118 ∧ fp v 3 = nI (48 + s) ∧ fp v 4 = 109
/-- the next four, and the last four -/
def pad9 (v : vX10) (m : Nat) : Prop := fp v 5 = nI (48 + m) ∧ fp v 6 = 59 ∧ fp v 7 = 99 ∧ fp v 8 = nI (48 + m)
def pad13 (v : vX10) (c s : Nat) : Prop := fp v 9 = 118 ∧ fp v 10 = nI (48 + c) ∧ fp v 11 = 109 ∧ fp v 12 = nI (48 + s)
variable {c s m : Nat}
theorem td_p1 (hq : fq v = 0) (hc : 1 ≤ c ∧ c ≤ 9) (hs : 1 ≤ s ∧ s ≤ 9) (hu : u = (fm_put (nT (fq v)) v (tx1 (nI c) (nI s))).2) : u.1 = v.1 ∧ u.2.1 = v.2.1 ∧ fq u = 5 ∧ pad5 u c s := by
  obtain ⟨k0, k1, k2, k3, k4, k5⟩ := tx1_k hc hs
  obtain ⟨e1, e2, e3, e4⟩ := put_ok (q0 := 0) hq (by decide) k0 (by decide) hu
  refine ⟨e1, e2, e3, ?_⟩
  unfold pad5
  rw [e4]
  exact ⟨k1, k2, k3, k4, k5⟩
theorem td_f1 (hq : fq v = 5) (hp : pad5 v c s) (hc : 1 ≤ c ∧ c ≤ 9) (hs : 1 ≤ s ∧ s ≤ 9) (hr : r = (fm_fault v).1) (hu : u = (fm_fault v).2) : r = 5 ∧ u.1 = v.1 ∧ u.2.1 = v.2.1 ∧ fq u = 5 ∧ pad5 u c s := by
  obtain ⟨p1, p2, p3, p4, p5⟩ := id hp
  rw [fau_1] at hu
  refine ⟨by rw [hr]; exact fw_5 hq hc hs p1 p2 p3 p4 p5, by rw [hu]; exact fW_1 v, by rw [hu]; exact fW_s v, by rw [hu, (fW_pad v).2]; exact hq, ?_⟩
  unfold pad5
  rw [hu, (fW_pad v).1]
  exact hp
theorem td_l1 {pm k : Nat} (hq : fq v = 5) (hp : pad5 v c s) (hc : 1 ≤ c ∧ c ≤ 9) (hs : 1 ≤ s ∧ s ≤ 9) (hr : r = (fm_load pm k v).1) (hu : u = (fm_load pm k v).2) : r = -3 ∧ u.1 = v.1 ∧ u.2.1 = v.2.1 ∧ fq u = 5 ∧ pad5 u c s := by
  obtain ⟨p1, p2, p3, p4, p5⟩ := id hp
  have h5 := fw_5 hq hc hs p1 p2 p3 p4 p5
  unfold fm_load at hr hu
  rw [if_neg (by rw [h5]; decide)] at hr hu
  dsimp only at hr hu
  have h9 := td_f1 (r := (fm_fault v).1) hq hp hc hs rfl hu
  exact ⟨hr, h9.2⟩
theorem td_p2 (hq : fq v = 5) (hp : pad5 v c s) (hm : 1 ≤ m ∧ m ≤ 9) (hu : u = (fm_put (nT (fq v)) v (tx2 (nI m))).2) : u.1 = v.1 ∧ u.2.1 = v.2.1 ∧ fq u = 9 ∧ pad5 u c s ∧ pad9 u m := by
  obtain ⟨k0, k1, k2, k3, k4⟩ := tx2_k hm
  obtain ⟨e1, e2, e3, e4⟩ := put_ok (q0 := 5) hq (by decide) k0 (by decide) hu
  refine ⟨e1, e2, e3, ?_, ?_⟩
  · unfold pad5
    rw [e4]
    exact hp
  · unfold pad9
    rw [e4]
    exact ⟨k1, k2, k3, k4⟩
theorem td_p3 (hq : fq v = 9) (hp : pad5 v c s) (hp9 : pad9 v m) (hc : 1 ≤ c ∧ c ≤ 9) (hs : 1 ≤ s ∧ s ≤ 9) (hu : u = (fm_put (nT (fq v)) v (tx3 (nI c) (nI s))).2) : u.1 = v.1 ∧ u.2.1 = v.2.1 ∧ fq u = 13 ∧ leg6 u 0 c s m ∧ fp u 6 = 59 ∧ leg6 u 7 m c s := by
  obtain ⟨k0, k1, k2, k3, k4⟩ := tx3_k hc hs
  obtain ⟨e1, e2, e3, e4⟩ := put_ok (q0 := 9) hq (by decide) k0 (by decide) hu
  obtain ⟨p1, p2, p3, p4, p5⟩ := hp
  obtain ⟨p6, p7, p8, p9⟩ := hp9
  refine ⟨e1, e2, e3, ?_, ?_, ?_⟩
  · unfold leg6
    rw [e4]
    exact ⟨p1, p2, p3, p4, p5, p6⟩
  · rw [e4]; exact p7
  · unfold leg6
    rw [e4]
    exact ⟨p8, p9, k1, k2, k3, k4⟩
theorem td_f2 (hq : fq v = 13) (hc : 1 ≤ c ∧ c ≤ 9) (hs : 1 ≤ s ∧ s ≤ 9) (hm : 1 ≤ m ∧ m ≤ 9) (hl : leg6 v 0 c s m) (h6 : fp v 6 = 59) (hl2 : leg6 v 7 m c s) (hr : r = (fm_fault v).1) (hu : u = (fm_fault v).2) : r = -6 ∧ u.1 = v.1 ∧ u.2.1 = v.2.1 ∧ fq u = 13 ∧ leg6 u 0 c s m ∧ fp u 6 = 59 ∧ leg6 u 7 m c s := by
  rw [fau_1] at hu
  refine ⟨by rw [hr]; exact (fw_13 hq hc hs hm hl h6 hl2).1, by rw [hu]; exact fW_1 v, by rw [hu]; exact fW_s v, by rw [hu, (fW_pad v).2]; exact hq, ?_, ?_, ?_⟩
  · unfold leg6; rw [hu, (fW_pad v).1]; exact hl
  · rw [hu, (fW_pad v).1]; exact h6
  · unfold leg6; rw [hu, (fW_pad v).1]; exact hl2
/-- two legs in the row -/
def two9 (a : Nat → Int32) (c s m : Nat) : Prop := a 3 = 2 ∧ a 34 = 100 * nI c ∧ a 35 = nI s ∧ a 36 = nI m ∧ a 37 = 100 * nI m ∧ a 38 = nI c ∧ a 39 = nI s
theorem td_l2 {pm : Nat} (h3 : v.1 3 = 0) (hq : fq v = 13) (hc : 1 ≤ c ∧ c ≤ 9) (hs : 1 ≤ s ∧ s ≤ 9) (hm : 1 ≤ m ∧ m ≤ 9) (hl : leg6 v 0 c s m) (h6 : fp v 6 = 59) (hl2 : leg6 v 7 m c s) (hr : r = (fm_load pm (nT (v.1 3)) v).1) (hu : u = (fm_load pm (nT (v.1 3)) v).2) : r = 2 ∧ fq u = 0 ∧ two9 u.1 c s m ∧ ∀ i, i ≠ 3 → (i < 34 ∨ 40 ≤ i) → u.1 i = v.1 i := by
  obtain ⟨f1, f2, d0, d1, d2, d3, d4, d5⟩ := fw_13 hq hc hs hm hl h6 hl2
  have n0 : nT (v.1 3) = 0 := by rw [h3]; rfl
  rw [n0] at hr hu
  unfold fm_load at hr hu
  have hW : (fm_fault v).2 = fm_fW v := fau_1 v
  have k1 : (fm_fW v).1 = v.1 := fW_1 v
  rw [if_pos f1, hW, k1, h3, f2, if_pos (by decide)] at hr hu
  dsimp only at hr hu
  clear hW f1
  generalize fm_fW v = W at *
  have eL : fm_ldx 0 (fm_keep pm W) = (fm_lds 0 (frd W) v.1 2, (fm_keep pm W).2) := by
    rw [lds_e 0 2 (fm_keep pm W) (by rw [kp_m]; exact f2) (by decide), kp_1, k1]
    rfl
  rw [eL] at hr hu
  have eu : u.1 = fm_addLeg 1 (fm_addLeg 0 v.1 (frd W 0) (frd W 1) (frd W 2)) (frd W 3) (frd W 4) (frd W 5) := by rw [hu]; rfl
  have e3 : ∀ (k : Nat) (a : Nat → Int32) (x y z : Int32), k ≤ 1 → fm_addLeg k a x y z 3 = a 3 + 1 := fun k a x y z hk => by
    unfold fm_addLeg
    rw [upd_eq, upd_ne (by omega), upd_ne (by omega), upd_ne (by omega)]
  have hr : r = fm_addLeg 1 (fm_addLeg 0 v.1 (frd W 0) (frd W 1) (frd W 2)) (frd W 3) (frd W 4) (frd W 5) 3 := hr
  rw [e3 1 _ _ _ _ (by decide), e3 0 _ _ _ _ (by decide), h3] at hr
  have hr : r = 2 := by rw [hr]; decide
  refine ⟨hr, by rw [hu]; rfl, ⟨?_, ?_, ?_, ?_, ?_, ?_, ?_⟩, fun i p q => ?_⟩
  · rw [eu, e3 1 _ _ _ _ (by decide), e3 0 _ _ _ _ (by decide), h3]; decide
  · rw [eu, ← d0]; rfl
  · rw [eu, ← d1]; rfl
  · rw [eu, ← d2]; rfl
  · rw [eu, ← d3]; rfl
  · rw [eu, ← d4]; rfl
  · rw [eu, ← d5]; rfl
  · rw [eu]
    unfold fm_addLeg
    rw [upd_ne p, upd_ne (by omega), upd_ne (by omega), upd_ne (by omega), upd_ne p, upd_ne (by omega), upd_ne (by omega), upd_ne (by omega)]
end
