/-! the other side: what its changes do to its rows -/
def zsf {α : Type} (k d : Nat) (f : Nat → α) : Nat → α := fun j => if j < k then f (j + d) else f j
theorem zsf_0 {α : Type} (d : Nat) (f : Nat → α) : zsf 0 d f = f := by
  funext j; unfold zsf; rw [if_neg (Nat.not_lt_zero j)]
theorem zsf_s (k d : Nat) (f : Nat → Int32) : upd (zsf k d f) k (zsf k d f (k + d)) = zsf (k + 1) d f := by
  funext j
  unfold upd zsf
  by_cases h : j = k
  · subst h; rw [if_pos rfl, if_neg (by omega), if_pos (by omega)]
  · rw [if_neg h]
    by_cases h2 : j < k
    · rw [if_pos h2, if_pos (by omega)]
    · rw [if_neg h2, if_neg (by omega)]
theorem zsf_sL (k d : Nat) (f : Nat → Int64) : vp_updL (zsf k d f) k (zsf k d f (k + d)) = zsf (k + 1) d f := by
  funext j
  unfold vp_updL zsf
  by_cases h : j = k
  · subst h; rw [if_pos rfl, if_neg (by omega), if_pos (by omega)]
  · rw [if_neg h]
    by_cases h2 : j < k
    · rw [if_pos h2, if_pos (by omega)]
    · rw [if_neg h2, if_neg (by omega)]
def zpl {α : Type} (o k : Nat) (f g : Nat → α) : Nat → α := fun j => if o ≤ j ∧ j < o + k then g (j - o) else f j
theorem zpl_0 {α : Type} (o : Nat) (f g : Nat → α) : zpl o 0 f g = f := by
  funext j; unfold zpl; rw [if_neg (by omega)]
theorem zpl_s (o k : Nat) (f g : Nat → Int32) : upd (zpl o k f g) (o + k) (g k) = zpl o (k + 1) f g := by
  funext j
  unfold upd zpl
  by_cases h : j = o + k
  · subst h; rw [if_pos rfl, if_pos (by omega), show o + k - o = k by omega]
  · rw [if_neg h]
    by_cases h2 : o ≤ j ∧ j < o + k
    · rw [if_pos h2, if_pos (by omega)]
    · rw [if_neg h2, if_neg (by omega)]
theorem zpl_sL (o k : Nat) (f g : Nat → Int64) : vp_updL (zpl o k f g) (o + k) (g k) = zpl o (k + 1) f g := by
  funext j
  unfold vp_updL zpl
  by_cases h : j = o + k
  · subst h; rw [if_pos rfl, if_pos (by omega), show o + k - o = k by omega]
  · rw [if_neg h]
    by_cases h2 : o ≤ j ∧ j < o + k
    · rw [if_pos h2, if_pos (by omega)]
    · rw [if_neg h2, if_neg (by omega)]
def zrd {α : Type} (o : Nat) (f : Nat → α) : Nat → α := fun j => f (o + j)
theorem zm_mk (a m k : Nat) : nI a * nI m + nI k = nI (a * m + k) := by rw [pk_mul, nI_add]
def fm_keep (pm : Nat) (v : vX10) : vX10 :=
  (v.1, v.2.1, v.2.2.1, v.2.2.2.1, zpl (85 * (if pm = 6 then 5 else pm)) 85 (if pm = 6 then zsf 425 85 v.2.2.2.2.1 else v.2.2.2.2.1) v.1, zpl (9 * (if pm = 6 then 5 else pm)) 9 (if pm = 6 then zsf 45 9 v.2.2.2.2.2.1 else v.2.2.2.2.2.1) v.2.1, nI ((if pm = 6 then 5 else pm) + 1), v.2.2.2.2.2.2.2)
def fm_aside (v : vX10) : vX10 := (v.1, v.2.1, v.1, v.2.1, v.2.2.2.2)
def fm_back (v : vX10) : vX10 := (v.2.2.1, v.2.2.2.1, v.2.2)
def fm_start (pm : Nat) (v : vX10) (x y : Int32) : Int32 × vX10 :=
  if fm_in x (-900000) 900000 = 0 then (-1000000002, v) else if fm_in y (-100000) 100000 = 0 then (-1000000002, v)
  else ((fm_keep pm v).1 4, (upd (upd (fm_keep pm v).1 4 x) 5 y, (fm_keep pm v).2))
def fm_place (pm : Nat) (v : vX10) (x : Int32) : Int32 × vX10 :=
  if fm_in x (-70) 70 = 0 then (-2, v) else if v.1 3 ≤ 0 then (upd (fm_keep pm v).1 0 (1000000 * x) 3, (upd (fm_keep pm v).1 0 (1000000 * x), (fm_keep pm v).2)) else (-5, v)
def fm_line (pm n : Nat) (v : vX10) (x : Int32) : Int32 × vX10 :=
  if fm_in x 0 35999 = 0 then (-2, v) else if v.1 19 = 6 then (-4, v)
  else (upd (upd (fm_keep pm v).1 (79 + n) x) 19 (upd (fm_keep pm v).1 (79 + n) x 19 + 1) 19 - 1, (upd (upd (fm_keep pm v).1 (79 + n) x) 19 (upd (fm_keep pm v).1 (79 + n) x 19 + 1), (fm_keep pm v).2))
def fm_steer (pm : Nat) (v : vX10) (x y : Int32) : Int32 × vX10 :=
  if fm_in x 0 35999 = 0 then (-2, v) else if fm_in y 0 400 = 0 then (-2, v)
  else ((fm_keep pm v).1 3, (upd (upd (upd (fm_keep pm v).1 3 0) 1 x) 2 y, (fm_keep pm v).2))
def fm_addLeg (k : Nat) (a : Nat → Int32) (x y z : Int32) : Nat → Int32 := upd (upd (upd (upd a (34 + 3 * k) x) (34 + 3 * k + 1) y) (34 + 3 * k + 2) z) 3 (upd (upd (upd a (34 + 3 * k) x) (34 + 3 * k + 1) y) (34 + 3 * k + 2) z 3 + 1)
def fm_damp (pm : Nat) (v : vX10) (x : Int32) : Int32 × vX10 :=
  if fm_in x 0 4 = 0 then (-2, v)
  else if v.1 9 < 0 then ((fm_keep pm v).1 8, (upd (upd (fm_keep pm v).1 8 x) 9 (upd (fm_keep pm v).1 8 x 10), (fm_keep pm v).2))
  else if v.1 (20 + 8) ≤ v.1 10 - v.1 9 then ((fm_keep pm v).1 8, (upd (upd (fm_keep pm v).1 8 x) 9 (upd (fm_keep pm v).1 8 x 10), (fm_keep pm v).2))
  else (-5, v)
def fm_correct (pm : Nat) (v : vX10) (x y : Int32) : Int32 × vX10 :=
  if fm_in x (-70) 70 = 0 then (-2, v) else if fm_in y 0 400 = 0 then (-2, v)
  else (if fm_rest (upd (upd (fm_keep pm v).1 6 x) 7 y) = fm_rest (fm_keep pm v).1 then 0 else 1, (upd (upd (fm_keep pm v).1 6 x) 7 y, (fm_keep pm v).2))
def fm_forget (pm : Nat) (v : vX10) : Int32 × vX10 := ((fm_keep pm v).1 13, (upd (upd (fm_keep pm v).1 13 0) 12 0, (fm_keep pm v).2))
def fm_guess (pm : Nat) (v : vX10) (x : Int32) : Int32 × vX10 :=
  if fm_in x (-1800000) 1800000 = 0 then (-2, v)
  else (fm_size (x - fm_rest (fm_keep pm v).1), (upd (upd (fm_keep pm v).1 18 ((fm_keep pm v).1 18 + fm_size (x - fm_rest (fm_keep pm v).1))) 17 (upd (fm_keep pm v).1 18 ((fm_keep pm v).1 18 + fm_size (x - fm_rest (fm_keep pm v).1)) 17 + 1), (fm_keep pm v).2))
def fm_wipe (v : vX10) : Int32 × vX10 := (v.2.2.2.2.2.2.2.2.2.2.2.1, (v.1, v.2.1, v.2.2.1, v.2.2.2.1, v.2.2.2.2.1, v.2.2.2.2.2.1, v.2.2.2.2.2.2.1, v.2.2.2.2.2.2.2.1, v.2.2.2.2.2.2.2.2.1, v.2.2.2.2.2.2.2.2.2.1, v.2.2.2.2.2.2.2.2.2.2.1, 0, v.2.2.2.2.2.2.2.2.2.2.2.2))
def fm_undo (pm : Nat) (v : vX10) : Int32 × vX10 := if pm = 0 then (-5, v) else (nI (pm - 1), (zrd (85 * (pm - 1)) v.2.2.2.2.1, zrd (9 * (pm - 1)) v.2.2.2.2.2.1, v.2.2.1, v.2.2.2.1, v.2.2.2.2.1, v.2.2.2.2.2.1, nI (pm - 1), v.2.2.2.2.2.2.2))
def fm_save (q : Nat) (v : vX10) : Int32 × vX10 := (v.1 10, (v.1, v.2.1, v.2.2.1, v.2.2.2.1, v.2.2.2.2.1, v.2.2.2.2.2.1, v.2.2.2.2.2.2.1, zpl (85 * q) 85 v.2.2.2.2.2.2.2.1 v.1, zpl (9 * q) 9 v.2.2.2.2.2.2.2.2.1 v.2.1, upd v.2.2.2.2.2.2.2.2.2.1 q 1, v.2.2.2.2.2.2.2.2.2.2))
def fm_restore (pm q : Nat) (v : vX10) : Int32 × vX10 :=
  if v.2.2.2.2.2.2.2.2.2.1 q = 0 then (-5, v)
  else (zrd (85 * q) (fm_keep pm v).2.2.2.2.2.2.2.1 10, (zrd (85 * q) (fm_keep pm v).2.2.2.2.2.2.2.1, zrd (9 * q) (fm_keep pm v).2.2.2.2.2.2.2.2.1, (fm_keep pm v).2.2))
theorem z_takes {x y : Int32} (h : ¬ fm_takes x y = 0) : ∃ w : Nat, w < 9 ∧ x = nI w := by
  unfold fm_takes at h
  by_cases h0 : x = 0
  · exact ⟨0, by decide, h0⟩
  by_cases h1 : x = 1
  · exact ⟨1, by decide, h1⟩
  by_cases h2 : x = 2
  · exact ⟨2, by decide, h2⟩
  by_cases h3 : x = 3
  · exact ⟨3, by decide, h3⟩
  by_cases h4 : x = 4
  · exact ⟨4, by decide, h4⟩
  by_cases h5 : x = 5
  · exact ⟨5, by decide, h5⟩
  by_cases h6 : x = 6
  · exact ⟨6, by decide, h6⟩
  by_cases h7 : x = 7
  · exact ⟨7, by decide, h7⟩
  by_cases h8 : x = 8
  · exact ⟨8, by decide, h8⟩
  simp only [if_neg h0, if_neg h1, if_neg h2, if_neg h3, if_neg h4, if_neg h5, if_neg h6, if_neg h7, if_neg h8] at h
  exact absurd trivial h
theorem okR_set {a : Nat → Int32} {x y : Int32} (h : okR a) (hx : -70 ≤ x.toInt ∧ x.toInt ≤ 70) : okR (upd (upd a 6 x) 7 y) := ⟨h.1, hx, h.2.2⟩
/-- a stretch of a row moved up by one: the places b + k + 1 .. b + m hold their neighbours -/
def zcu {α : Type} (b m k : Nat) (f : Nat → α) : Nat → α := fun j => if b + k < j ∧ j ≤ b + m then f (j - 1) else f j
theorem zcu_0 {α : Type} (b m : Nat) (f : Nat → α) : zcu b m m f = f := by
  funext j; unfold zcu; rw [if_neg (by omega)]
theorem zcu_s {b m k : Nat} {f : Nat → Int32} (h : 0 < k) (hm : k ≤ m) : upd (zcu b m k f) (b + k) (zcu b m k f (b + k - 1)) = zcu b m (k - 1) f := by
  funext j
  unfold upd zcu
  by_cases hj : j = b + k
  · subst hj; rw [if_pos rfl, if_neg (by omega), if_pos (by omega)]
  · rw [if_neg hj]
    by_cases h2 : b + k < j ∧ j ≤ b + m
    · rw [if_pos h2, if_pos (by omega)]
    · rw [if_neg h2, if_neg (by omega)]
theorem zcu_s1 {m k : Nat} {f : Nat → Int64} (h : 0 < k) (hm : k ≤ m) : vp_updL (zcu 1 m k f) (1 + k) (zcu 1 m k f k) = zcu 1 m (k - 1) f := by
  funext j
  unfold vp_updL zcu
  by_cases hj : j = 1 + k
  · subst hj; rw [if_pos rfl, if_neg (by omega), if_pos (by omega), show 1 + k - 1 = k by omega]
  · rw [if_neg hj]
    by_cases h2 : 1 + k < j ∧ j ≤ 1 + m
    · rw [if_pos h2, if_pos (by omega)]
    · rw [if_neg h2, if_neg (by omega)]
/-- the turning points moved up by one (two places each) -/
def ztu (m k : Nat) (f : Nat → Int32) : Nat → Int32 := fun j => if 60 + 2 * k ≤ j ∧ j ≤ 59 + 2 * m then f (j - 2) else f j
theorem ztu_0 (m : Nat) (f : Nat → Int32) : ztu m m f = f := by
  funext j; unfold ztu; rw [if_neg (by omega)]
theorem ztu_s {m k : Nat} {f : Nat → Int32} (h : 0 < k) (hm : k ≤ m) : upd (upd (ztu m k f) (58 + 2 * k) (ztu m k f (58 + 2 * k - 2))) (58 + 2 * k + 1) (upd (ztu m k f) (58 + 2 * k) (ztu m k f (58 + 2 * k - 2)) (58 + 2 * k - 1)) = ztu m (k - 1) f := by
  funext j
  unfold upd ztu
  by_cases hj : j = 58 + 2 * k + 1
  · subst hj; rw [if_pos rfl, if_neg (by omega), if_neg (by omega), if_pos (by omega), show 58 + 2 * k + 1 - 2 = 58 + 2 * k - 1 by omega]
  · rw [if_neg hj]
    by_cases hj2 : j = 58 + 2 * k
    · subst hj2; rw [if_pos rfl, if_neg (by omega), if_pos (by omega)]
    · rw [if_neg hj2]
      by_cases h2 : 60 + 2 * k ≤ j ∧ j ≤ 59 + 2 * m
      · rw [if_pos h2, if_pos (by omega)]
      · rw [if_neg h2, if_neg (by omega)]
/-- the legs moved down by one (three places each) -/
def zcl (k : Nat) (f : Nat → Int32) : Nat → Int32 := fun j => if 34 ≤ j ∧ j < 34 + k then f (j + 3) else f j
theorem zcl_0 (f : Nat → Int32) : zcl 0 f = f := by
  funext j; unfold zcl; rw [if_neg (by omega)]
theorem zcl_s (k : Nat) (f : Nat → Int32) : upd (zcl k f) (34 + k) (zcl k f (34 + k + 3)) = zcl (k + 1) f := by
  funext j
  unfold upd zcl
  by_cases h : j = 34 + k
  · subst h; rw [if_pos rfl, if_neg (by omega), if_pos (by omega)]
  · rw [if_neg h]
    by_cases h2 : 34 ≤ j ∧ j < 34 + k
    · rw [if_pos h2, if_pos (by omega)]
    · rw [if_neg h2, if_neg (by omega)]
theorem zcl_3 (k : Nat) (f : Nat → Int32) : zcl k f 3 = f 3 := by
  unfold zcl; rw [if_neg (by omega)]
def fm_addL (k : Nat) (v : vX10) (x y z : Int32) : vX10 := (fm_addLeg k v.1 x y z, v.2)
def fm_leg (pm k : Nat) (v : vX10) (x y z : Int32) : Int32 × vX10 :=
  if fm_in x 0 35999 = 0 then (-2, v) else if fm_in y 0 400 = 0 then (-2, v) else if fm_in z 1 600 = 0 then (-2, v) else if v.1 3 = 8 then (-4, v)
  else ((fm_addL k (fm_keep pm v) x y z).1 3, fm_addL k (fm_keep pm v) x y z)
def fm_set (pm : Nat) (v : vX10) (x y : Int32) : Int32 × vX10 := if fm_takes x y = 0 then (-2, v) else ((fm_keep pm v).1 (20 + x.toNatClampNeg), (upd (fm_keep pm v).1 (20 + x.toNatClampNeg) y, (fm_keep pm v).2))
/-- a check more: c are kept -/
def fm_chk (c : Nat) (a : Nat → Int32) (d : Int32) : Nat → Int32 := upd (upd (zcu 74 (if c < 5 then c else 4) 0 a) 74 d) 15 (nI ((if c < 5 then c else 4) + 1))
def fm_chkv (c : Nat) (v : vX10) (d : Int32) : vX10 := (fm_chk c v.1 d, v.2)
def fm_seed (a : Nat → Int32) : Int32 := 75 * a (20 + 7) + 74 - (75 * a (20 + 7) + 74) / 65537 * 65537
def fm_ob1 (a : Nat → Int32) : Nat → Int32 := upd a 27 (if fm_seed a = 65536 then 0 else fm_seed a)
def fm_diff (b : Nat → Int32) : Int32 := b 4 / 100 + (b (20 + 7) - b (20 + 7) / (2 * b (20 + 6) + 1) * (2 * b (20 + 6) + 1)) - b (20 + 6)
def fm_ob2 (c : Nat) (v : vX10) : vX10 := fm_chkv c (fm_ob1 v.1, v.2) (fm_diff (fm_ob1 v.1))
def fm_obs (pm c : Nat) (v : vX10) (x : Int32) : Int32 × vX10 :=
  if x < 0 then (-1, v) else if x < v.1 19 then
    (let w := fm_ob2 c (fm_keep pm v)
     let a := upd w.1 16 (w.1 16 + 1)
     let y := a (79 + x.toNatClampNeg) + fm_diff (fm_ob1 (fm_keep pm v).1)
     let z := y - y / 36000 * 36000 + 36000
     (z - z / 36000 * 36000, (a, w.2)))
  else (-1, v)
def fm_damp1 (a : Nat → Int32) : Int64 := if (a 8).toInt64 = 0 then 0 else 10 <<< ((a 8 - 1).toInt64 &&& 63)
def fm_tilt (a : Nat → Int32) : Int64 := (a 5).toInt64 - (a (20 + 0)).toInt64 * (a 4 - fm_rest a).toInt64 / 1000 * fm_cosOf (a 0) / 1000000
def fm_sw1 (a : Nat → Int32) : Nat → Int32 := upd a 5 (fm_lim (fm_tilt a - fm_tilt a * fm_damp1 a / 1000) 900000)
def fm_sw2 (b : Nat → Int32) : Nat → Int32 := upd b 4 (fm_lim ((b 4).toInt64 + (b (20 + 1)).toInt64 * (b 5).toInt64 / 1000) 1800000)
def fm_swing (v : vX10) : vX10 := (fm_sw2 (fm_sw1 v.1), v.2)
/-- a turning point more: t are kept -/
def fm_tn1 (t : Nat) (a : Nat → Int32) (e : Int32) : Nat → Int32 := upd (ztu (if t < 8 then t else 7) 0 a) 58 e
def fm_tn2 (t : Nat) (b : Nat → Int32) : Nat → Int32 := upd (upd (upd b 59 (b 10)) 13 (nI ((if t < 8 then t else 7) + 1))) 14 (upd (upd b 59 (b 10)) 13 (nI ((if t < 8 then t else 7) + 1)) 14 + 1)
def fm_tns (t : Nat) (s : Nat → Int64) : Nat → Int64 := vp_updL (zcu 1 (if t < 8 then t else 7) 0 s) 1 (zcu 1 (if t < 8 then t else 7) 0 s 0)
def fm_addTurn (t : Nat) (v : vX10) (e : Int32) : vX10 := (fm_tn2 t (fm_tn1 t v.1 e), fm_tns t v.2.1, v.2.2)
/-- the first leg is done: c are left -/
def fm_end (c : Nat) (a : Nat → Int32) : Nat → Int32 := upd (zcl (3 * c) (upd a 3 (nI c))) 2 (if zcl (3 * c) (upd a 3 (nI c)) 3 = 0 then 0 else zcl (3 * c) (upd a 3 (nI c)) 2)
def fm_endLeg (c : Nat) (v : vX10) : vX10 := (fm_end c v.1, v.2)
def fm_saveX (v : vX10) (x : Int32) : Int32 × vX10 := if fm_in x 0 1 = 0 then (-2, v) else fm_save x.toNatClampNeg v
def fm_restX (pm : Nat) (v : vX10) (x : Int32) : Int32 × vX10 := if fm_in x 0 1 = 0 then (-2, v) else fm_restore pm x.toNatClampNeg v

set_option maxHeartbeats 4000000 in
set_option maxRecDepth 100000 in
theorem c_X10_keep (l : Launch) (D : va_G) (cA : Nat → ClassId) (h0 h1 h2 h3 h4 h5 h6 h7 h8 h9 h10 h11 : Nat) (sz : Nat) (pm : Nat) (v : vX10) (hpm : v.2.2.2.2.2.2.1 = nI pm) (hp6 : pm ≤ 6) : Met l yX10_keep wsX10_keep ({ frames := 0, cells := 0, slots := 0, locals := 0 }) (va_Pc [.ref h0] (zPre D (zty cA) (wX10 cA h0 h1 h2 h3 h4 h5 h6 h7 h8 h9 h10 h11 v) sz)) (va_Qv (fun (u : vX10) => u = (fm_keep pm v)) (fun u => zPost D (zty cA) (va_A (wX10 cA h0 h1 h2 h3 h4 h5 h6 h7 h8 h9 h10 h11 v) sz) (wX10 cA h0 h1 h2 h3 h4 h5 h6 h7 h8 h9 h10 h11 u)) (va_A (wX10 cA h0 h1 h2 h3 h4 h5 h6 h7 h8 h9 h10 h11 v) sz)) 0 0 (va_A (wX10 cA h0 h1 h2 h3 h4 h5 h6 h7 h8 h9 h10 h11 v) sz) := by
  refine Met.ofW (cc := cX10_keep) (maxL := 2) (ret := none) (by decide) rfl ?_
  intro p e s m args below meth c s₁ B hml hv
  obtain ⟨rfl, hsz, hP, hK, hD0, hE⟩ := hv
  have hx := B.exec
  have hb := B.bytes
  have hr := B.returns
  have hts := atoms_spec (ws := wsX10_keep) B.pre
  have hown : s.vm.findClass RX10 = some m.cls := findClass_of_methodNamed B.named
  have hlocks := B.notSynchronized
  have hinX10 : ∀ w ∈ u_ws RX10 TX10 16, w ∈ wsX10_keep := fun w h => List.mem_cons_of_mem _ (List.mem_append_right _ h)
  subst hsz
  have hD := hD0.self (sz := s.heap.size)
  generalize hAe : va_A (wX10 cA h0 h1 h2 h3 h4 h5 h6 h7 h8 h9 h10 h11 v) s.heap.size = A at hD hE ⊢
  have hA : ∀ q : Nat, s.heap.size ≤ q → A q := fun q h => by rw [← hAe]; exact Or.inr h
  have hS : va_S A s.heap s.heap [] := va_S.rf
  have hN : zN s := hE.1
  have hP : va_P D vwCl [(h0, .inr (10, [.ref h1, .ref h2, .ref h3, .ref h4, .ref h5, .ref h6, .int v.2.2.2.2.2.2.1, .ref h7, .ref h8, .ref h9, .ref h10, .int v.2.2.2.2.2.2.2.2.2.2.2.1, .int v.2.2.2.2.2.2.2.2.2.2.2.2.1, .int v.2.2.2.2.2.2.2.2.2.2.2.2.2.1, .ref h11, .int v.2.2.2.2.2.2.2.2.2.2.2.2.2.2.2])), (h1, .inl ((cA 1), 85, .inl v.1)), (h2, .inl ((cA 0), 9, .inr (.inl v.2.1))), (h3, .inl ((cA 1), 85, .inl v.2.2.1)), (h4, .inl ((cA 0), 9, .inr (.inl v.2.2.2.1))), (h5, .inl ((cA 1), 510, .inl v.2.2.2.2.1)), (h6, .inl ((cA 0), 54, .inr (.inl v.2.2.2.2.2.1))), (h7, .inl ((cA 1), 170, .inl v.2.2.2.2.2.2.2.1)), (h8, .inl ((cA 0), 18, .inr (.inl v.2.2.2.2.2.2.2.2.1))), (h9, .inl ((cA 2), 2, .inl v.2.2.2.2.2.2.2.2.2.1)), (h10, .inl ((cA 1), 80, .inl v.2.2.2.2.2.2.2.2.2.2.1)), (h11, .inl ((cA 1), 60, .inl v.2.2.2.2.2.2.2.2.2.2.2.2.2.2.1))] s.heap := hP
  have hD : va_D A [(h0, .inr (10, [.ref h1, .ref h2, .ref h3, .ref h4, .ref h5, .ref h6, .int v.2.2.2.2.2.2.1, .ref h7, .ref h8, .ref h9, .ref h10, .int v.2.2.2.2.2.2.2.2.2.2.2.1, .int v.2.2.2.2.2.2.2.2.2.2.2.2.1, .int v.2.2.2.2.2.2.2.2.2.2.2.2.2.1, .ref h11, .int v.2.2.2.2.2.2.2.2.2.2.2.2.2.2.2])), (h1, .inl ((cA 1), 85, .inl v.1)), (h2, .inl ((cA 0), 9, .inr (.inl v.2.1))), (h3, .inl ((cA 1), 85, .inl v.2.2.1)), (h4, .inl ((cA 0), 9, .inr (.inl v.2.2.2.1))), (h5, .inl ((cA 1), 510, .inl v.2.2.2.2.1)), (h6, .inl ((cA 0), 54, .inr (.inl v.2.2.2.2.2.1))), (h7, .inl ((cA 1), 170, .inl v.2.2.2.2.2.2.2.1)), (h8, .inl ((cA 0), 18, .inr (.inl v.2.2.2.2.2.2.2.2.1))), (h9, .inl ((cA 2), 2, .inl v.2.2.2.2.2.2.2.2.2.1)), (h10, .inl ((cA 1), 80, .inl v.2.2.2.2.2.2.2.2.2.2.1)), (h11, .inl ((cA 1), 60, .inl v.2.2.2.2.2.2.2.2.2.2.2.2.2.2.1))] := hD
  have hl := lv_entry ([.ref h0]) (n := 2) (Nat.le_of_ble_eq_true rfl)
  rw [lg_entry_eq]
  generalize (lg_sl ([.ref h0]) ++ List.replicate (2 - (lg_sl ([.ref h0])).length) Slot.unset).toArray = ls at hl ⊢
  have hl : lv_has ls 2 [(0, .ref h0)] := hl
  refine z_genQ (fun Q hQ => ?_)
  refine lv_aload_n hx hb dX10_keep_0 rfl (lv_at hl 0 rfl) ?_
  refine va_get (D := D) (ci := 10) (v := .int v.2.2.2.2.2.2.1) (C := RX10) (T := TX10) (N := 16) hx hb hts hinX10 hown hK hP 0 rfl rfl 6 (by decide) (hts (.fieldLink RX10 45 "GyroTrainerModel" "pastMany" "I") (List.mem_of_getElem? (i := 1) rfl)) (fun _ h9 => h9) rfl dX10_keep_1 ?_
  refine lv_bipush (v := 6) hx hb dX10_keep_4 (by decide) ?_
  refine lv_icmp_ne (tgt := 78) hx hb dX10_keep_6 (by decide) (fun c_1 => ?_) (fun c_1 => ?_)
  · skip
    have hne6 : ¬ pm = 6 := fun h => c_1 (by rw [hpm, h]; rfl)
    rw [hpm] at hP hD
    have hP : va_P D vwCl [(h0, .inr (10, [.ref h1, .ref h2, .ref h3, .ref h4, .ref h5, .ref h6, .int (nI pm), .ref h7, .ref h8, .ref h9, .ref h10, .int v.2.2.2.2.2.2.2.2.2.2.2.1, .int v.2.2.2.2.2.2.2.2.2.2.2.2.1, .int v.2.2.2.2.2.2.2.2.2.2.2.2.2.1, .ref h11, .int v.2.2.2.2.2.2.2.2.2.2.2.2.2.2.2])), (h1, .inl ((cA 1), 85, .inl v.1)), (h2, .inl ((cA 0), 9, .inr (.inl v.2.1))), (h3, .inl ((cA 1), 85, .inl v.2.2.1)), (h4, .inl ((cA 0), 9, .inr (.inl v.2.2.2.1))), (h5, .inl ((cA 1), 510, .inl v.2.2.2.2.1)), (h6, .inl ((cA 0), 54, .inr (.inl v.2.2.2.2.2.1))), (h7, .inl ((cA 1), 170, .inl v.2.2.2.2.2.2.2.1)), (h8, .inl ((cA 0), 18, .inr (.inl v.2.2.2.2.2.2.2.2.1))), (h9, .inl ((cA 2), 2, .inl v.2.2.2.2.2.2.2.2.2.1)), (h10, .inl ((cA 1), 80, .inl v.2.2.2.2.2.2.2.2.2.2.1)), (h11, .inl ((cA 1), 60, .inl v.2.2.2.2.2.2.2.2.2.2.2.2.2.2.1))] s.heap := hP
    have hD : va_D A [(h0, .inr (10, [.ref h1, .ref h2, .ref h3, .ref h4, .ref h5, .ref h6, .int (nI pm), .ref h7, .ref h8, .ref h9, .ref h10, .int v.2.2.2.2.2.2.2.2.2.2.2.1, .int v.2.2.2.2.2.2.2.2.2.2.2.2.1, .int v.2.2.2.2.2.2.2.2.2.2.2.2.2.1, .ref h11, .int v.2.2.2.2.2.2.2.2.2.2.2.2.2.2.2])), (h1, .inl ((cA 1), 85, .inl v.1)), (h2, .inl ((cA 0), 9, .inr (.inl v.2.1))), (h3, .inl ((cA 1), 85, .inl v.2.2.1)), (h4, .inl ((cA 0), 9, .inr (.inl v.2.2.2.1))), (h5, .inl ((cA 1), 510, .inl v.2.2.2.2.1)), (h6, .inl ((cA 0), 54, .inr (.inl v.2.2.2.2.2.1))), (h7, .inl ((cA 1), 170, .inl v.2.2.2.2.2.2.2.1)), (h8, .inl ((cA 0), 18, .inr (.inl v.2.2.2.2.2.2.2.2.1))), (h9, .inl ((cA 2), 2, .inl v.2.2.2.2.2.2.2.2.2.1)), (h10, .inl ((cA 1), 80, .inl v.2.2.2.2.2.2.2.2.2.2.1)), (h11, .inl ((cA 1), 60, .inl v.2.2.2.2.2.2.2.2.2.2.2.2.2.2.1))] := hD
    refine lv_iconst (v := 0) hx hb dX10_keep_78 (by decide) ?_
    refine lv_istore_n (lv' := [(1, .int (0 : Int32)), (0, .ref h0)]) hx hb dX10_keep_79 rfl hl (by decide) rfl (fun ls hl => ?_)
    have L80 : ∀ (zn : Nat) (k : Nat), 85 - k < zn → (k ≤ 85) → ∀ (H : Heap) (locs : List Loc), va_P D vwCl [(h0, .inr (10, [.ref h1, .ref h2, .ref h3, .ref h4, .ref h5, .ref h6, .int (nI pm), .ref h7, .ref h8, .ref h9, .ref h10, .int v.2.2.2.2.2.2.2.2.2.2.2.1, .int v.2.2.2.2.2.2.2.2.2.2.2.2.1, .int v.2.2.2.2.2.2.2.2.2.2.2.2.2.1, .ref h11, .int v.2.2.2.2.2.2.2.2.2.2.2.2.2.2.2])), (h1, .inl ((cA 1), 85, .inl v.1)), (h2, .inl ((cA 0), 9, .inr (.inl v.2.1))), (h3, .inl ((cA 1), 85, .inl v.2.2.1)), (h4, .inl ((cA 0), 9, .inr (.inl v.2.2.2.1))), (h5, .inl ((cA 1), 510, .inl (zpl (85 * pm) k v.2.2.2.2.1 v.1))), (h6, .inl ((cA 0), 54, .inr (.inl v.2.2.2.2.2.1))), (h7, .inl ((cA 1), 170, .inl v.2.2.2.2.2.2.2.1)), (h8, .inl ((cA 0), 18, .inr (.inl v.2.2.2.2.2.2.2.2.1))), (h9, .inl ((cA 2), 2, .inl v.2.2.2.2.2.2.2.2.2.1)), (h10, .inl ((cA 1), 80, .inl v.2.2.2.2.2.2.2.2.2.2.1)), (h11, .inl ((cA 1), 60, .inl v.2.2.2.2.2.2.2.2.2.2.2.2.2.2.1))] H → va_D A [(h0, .inr (10, [.ref h1, .ref h2, .ref h3, .ref h4, .ref h5, .ref h6, .int (nI pm), .ref h7, .ref h8, .ref h9, .ref h10, .int v.2.2.2.2.2.2.2.2.2.2.2.1, .int v.2.2.2.2.2.2.2.2.2.2.2.2.1, .int v.2.2.2.2.2.2.2.2.2.2.2.2.2.1, .ref h11, .int v.2.2.2.2.2.2.2.2.2.2.2.2.2.2.2])), (h1, .inl ((cA 1), 85, .inl v.1)), (h2, .inl ((cA 0), 9, .inr (.inl v.2.1))), (h3, .inl ((cA 1), 85, .inl v.2.2.1)), (h4, .inl ((cA 0), 9, .inr (.inl v.2.2.2.1))), (h5, .inl ((cA 1), 510, .inl (zpl (85 * pm) k v.2.2.2.2.1 v.1))), (h6, .inl ((cA 0), 54, .inr (.inl v.2.2.2.2.2.1))), (h7, .inl ((cA 1), 170, .inl v.2.2.2.2.2.2.2.1)), (h8, .inl ((cA 0), 18, .inr (.inl v.2.2.2.2.2.2.2.2.1))), (h9, .inl ((cA 2), 2, .inl v.2.2.2.2.2.2.2.2.2.1)), (h10, .inl ((cA 1), 80, .inl v.2.2.2.2.2.2.2.2.2.2.1)), (h11, .inl ((cA 1), 60, .inl v.2.2.2.2.2.2.2.2.2.2.2.2.2.2.1))] → va_S A s.heap H locs → ∀ (ls : Array Slot), lv_has ls 2 [(1, .int (nI k)), (0, .ref h0)] → W p l e (headSpec wsX10_keep ({ frames := 0, cells := 0, slots := 0, locals := 0 })).room s m (([.ref h0] : List Value).toArray) below meth c H locs 0 0 Q (F0 m 80 ls []) := by
      intro zn
      induction zn with
      | zero =>
        intro k hm
        exact absurd hm (Nat.not_lt_zero _)
      | succ zn ih =>
        intro k hm hk H locs hP hD hS ls hl
        refine lv_iload_n hx hb dX10_keep_80 rfl (lv_at hl 0 rfl) ?_
        refine lv_bipush (v := 85) hx hb dX10_keep_81 (by decide) ?_
        refine lv_icmp_ge (tgt := 112) hx hb dX10_keep_83 (by decide) (fun c_2 => ?_) (fun c_2 => ?_)
        · skip
          obtain rfl : k = 85 := Nat.le_antisymm hk ((nI_leI (a := 85) (b := k) (by decide) (by omega)).mp c_2)
          refine lv_iconst (v := 0) hx hb dX10_keep_112 (by decide) ?_
          refine lv_istore_n (lv' := [(1, .int (0 : Int32)), (0, .ref h0)]) hx hb dX10_keep_113 rfl hl (by decide) rfl (fun ls hl => ?_)
          have L114 : ∀ (zn : Nat) (k : Nat), 9 - k < zn → (k ≤ 9) → ∀ (H : Heap) (locs : List Loc), va_P D vwCl [(h0, .inr (10, [.ref h1, .ref h2, .ref h3, .ref h4, .ref h5, .ref h6, .int (nI pm), .ref h7, .ref h8, .ref h9, .ref h10, .int v.2.2.2.2.2.2.2.2.2.2.2.1, .int v.2.2.2.2.2.2.2.2.2.2.2.2.1, .int v.2.2.2.2.2.2.2.2.2.2.2.2.2.1, .ref h11, .int v.2.2.2.2.2.2.2.2.2.2.2.2.2.2.2])), (h1, .inl ((cA 1), 85, .inl v.1)), (h2, .inl ((cA 0), 9, .inr (.inl v.2.1))), (h3, .inl ((cA 1), 85, .inl v.2.2.1)), (h4, .inl ((cA 0), 9, .inr (.inl v.2.2.2.1))), (h5, .inl ((cA 1), 510, .inl (zpl (85 * pm) 85 v.2.2.2.2.1 v.1))), (h6, .inl ((cA 0), 54, .inr (.inl (zpl (9 * pm) k v.2.2.2.2.2.1 v.2.1)))), (h7, .inl ((cA 1), 170, .inl v.2.2.2.2.2.2.2.1)), (h8, .inl ((cA 0), 18, .inr (.inl v.2.2.2.2.2.2.2.2.1))), (h9, .inl ((cA 2), 2, .inl v.2.2.2.2.2.2.2.2.2.1)), (h10, .inl ((cA 1), 80, .inl v.2.2.2.2.2.2.2.2.2.2.1)), (h11, .inl ((cA 1), 60, .inl v.2.2.2.2.2.2.2.2.2.2.2.2.2.2.1))] H → va_D A [(h0, .inr (10, [.ref h1, .ref h2, .ref h3, .ref h4, .ref h5, .ref h6, .int (nI pm), .ref h7, .ref h8, .ref h9, .ref h10, .int v.2.2.2.2.2.2.2.2.2.2.2.1, .int v.2.2.2.2.2.2.2.2.2.2.2.2.1, .int v.2.2.2.2.2.2.2.2.2.2.2.2.2.1, .ref h11, .int v.2.2.2.2.2.2.2.2.2.2.2.2.2.2.2])), (h1, .inl ((cA 1), 85, .inl v.1)), (h2, .inl ((cA 0), 9, .inr (.inl v.2.1))), (h3, .inl ((cA 1), 85, .inl v.2.2.1)), (h4, .inl ((cA 0), 9, .inr (.inl v.2.2.2.1))), (h5, .inl ((cA 1), 510, .inl (zpl (85 * pm) 85 v.2.2.2.2.1 v.1))), (h6, .inl ((cA 0), 54, .inr (.inl (zpl (9 * pm) k v.2.2.2.2.2.1 v.2.1)))), (h7, .inl ((cA 1), 170, .inl v.2.2.2.2.2.2.2.1)), (h8, .inl ((cA 0), 18, .inr (.inl v.2.2.2.2.2.2.2.2.1))), (h9, .inl ((cA 2), 2, .inl v.2.2.2.2.2.2.2.2.2.1)), (h10, .inl ((cA 1), 80, .inl v.2.2.2.2.2.2.2.2.2.2.1)), (h11, .inl ((cA 1), 60, .inl v.2.2.2.2.2.2.2.2.2.2.2.2.2.2.1))] → va_S A s.heap H locs → ∀ (ls : Array Slot), lv_has ls 2 [(1, .int (nI k)), (0, .ref h0)] → W p l e (headSpec wsX10_keep ({ frames := 0, cells := 0, slots := 0, locals := 0 })).room s m (([.ref h0] : List Value).toArray) below meth c H locs 0 0 Q (F0 m 114 ls []) := by
            intro zn
            induction zn with
            | zero =>
              intro k hm
              exact absurd hm (Nat.not_lt_zero _)
            | succ zn ih =>
              intro k hm hk H locs hP hD hS ls hl
              refine lv_iload_n hx hb dX10_keep_114 rfl (lv_at hl 0 rfl) ?_
              refine lv_bipush (v := 9) hx hb dX10_keep_115 (by decide) ?_
              refine lv_icmp_ge (tgt := 146) hx hb dX10_keep_117 (by decide) (fun c_3 => ?_) (fun c_3 => ?_)
              · skip
                obtain rfl : k = 9 := Nat.le_antisymm hk ((nI_leI (a := 9) (b := k) (by decide) (by omega)).mp c_3)
                refine lv_aload_n hx hb dX10_keep_146 rfl (lv_at hl 1 rfl) ?_
                refine lv_dup hx hb dX10_keep_147 rfl ?_
                refine va_get (D := D) (ci := 10) (v := .int (nI pm)) (C := RX10) (T := TX10) (N := 16) hx hb hts hinX10 hown hK hP 0 rfl rfl 6 (by decide) (hts (.fieldLink RX10 45 "GyroTrainerModel" "pastMany" "I") (List.mem_of_getElem? (i := 1) rfl)) (fun _ h9 => h9) rfl dX10_keep_148 ?_
                refine lv_iconst (v := 1) hx hb dX10_keep_151 (by decide) ?_
                refine lv_iadd hx hb dX10_keep_152 ?_
                rw [show ((nI pm) + (1 : Int32)) = nI (pm + 1) from nI_1 _]
                refine va_put (D := D) (ci := 10) (v := .int (nI (pm + 1))) (ty := .int) (C := RX10) (T := TX10) (N := 16) hx hb hts hinX10 tyX10 tyX10_ok nmX10 hown hK hP hD hS 0 rfl rfl 6 (by decide) (hts (.fieldLink RX10 45 "GyroTrainerModel" "pastMany" "I") (List.mem_of_getElem? (i := 1) rfl)) (fun _ h9 => h9) rfl (by decide +kernel) rfl rfl (Nat.le_of_ble_eq_true rfl) dX10_keep_153 (fun H locs hP hD hS => ?_)
                have hP : va_P D vwCl [(h0, .inr (10, [.ref h1, .ref h2, .ref h3, .ref h4, .ref h5, .ref h6, .int (nI (pm + 1)), .ref h7, .ref h8, .ref h9, .ref h10, .int v.2.2.2.2.2.2.2.2.2.2.2.1, .int v.2.2.2.2.2.2.2.2.2.2.2.2.1, .int v.2.2.2.2.2.2.2.2.2.2.2.2.2.1, .ref h11, .int v.2.2.2.2.2.2.2.2.2.2.2.2.2.2.2])), (h1, .inl ((cA 1), 85, .inl v.1)), (h2, .inl ((cA 0), 9, .inr (.inl v.2.1))), (h3, .inl ((cA 1), 85, .inl v.2.2.1)), (h4, .inl ((cA 0), 9, .inr (.inl v.2.2.2.1))), (h5, .inl ((cA 1), 510, .inl (zpl (85 * pm) 85 v.2.2.2.2.1 v.1))), (h6, .inl ((cA 0), 54, .inr (.inl (zpl (9 * pm) 9 v.2.2.2.2.2.1 v.2.1)))), (h7, .inl ((cA 1), 170, .inl v.2.2.2.2.2.2.2.1)), (h8, .inl ((cA 0), 18, .inr (.inl v.2.2.2.2.2.2.2.2.1))), (h9, .inl ((cA 2), 2, .inl v.2.2.2.2.2.2.2.2.2.1)), (h10, .inl ((cA 1), 80, .inl v.2.2.2.2.2.2.2.2.2.2.1)), (h11, .inl ((cA 1), 60, .inl v.2.2.2.2.2.2.2.2.2.2.2.2.2.2.1))] H := hP
                have hD : va_D A [(h0, .inr (10, [.ref h1, .ref h2, .ref h3, .ref h4, .ref h5, .ref h6, .int (nI (pm + 1)), .ref h7, .ref h8, .ref h9, .ref h10, .int v.2.2.2.2.2.2.2.2.2.2.2.1, .int v.2.2.2.2.2.2.2.2.2.2.2.2.1, .int v.2.2.2.2.2.2.2.2.2.2.2.2.2.1, .ref h11, .int v.2.2.2.2.2.2.2.2.2.2.2.2.2.2.2])), (h1, .inl ((cA 1), 85, .inl v.1)), (h2, .inl ((cA 0), 9, .inr (.inl v.2.1))), (h3, .inl ((cA 1), 85, .inl v.2.2.1)), (h4, .inl ((cA 0), 9, .inr (.inl v.2.2.2.1))), (h5, .inl ((cA 1), 510, .inl (zpl (85 * pm) 85 v.2.2.2.2.1 v.1))), (h6, .inl ((cA 0), 54, .inr (.inl (zpl (9 * pm) 9 v.2.2.2.2.2.1 v.2.1)))), (h7, .inl ((cA 1), 170, .inl v.2.2.2.2.2.2.2.1)), (h8, .inl ((cA 0), 18, .inr (.inl v.2.2.2.2.2.2.2.2.1))), (h9, .inl ((cA 2), 2, .inl v.2.2.2.2.2.2.2.2.2.1)), (h10, .inl ((cA 1), 80, .inl v.2.2.2.2.2.2.2.2.2.2.1)), (h11, .inl ((cA 1), 60, .inl v.2.2.2.2.2.2.2.2.2.2.2.2.2.2.1))] := hD
                have e9 : (fm_keep pm v) = (v.1, v.2.1, v.2.2.1, v.2.2.2.1, (zpl (85 * pm) 85 v.2.2.2.2.1 v.1), (zpl (9 * pm) 9 v.2.2.2.2.2.1 v.2.1), (nI (pm + 1)), v.2.2.2.2.2.2.2) := by unfold fm_keep; simp only [if_neg hne6]
                have hP9 : va_P D vwCl (wX10 cA h0 h1 h2 h3 h4 h5 h6 h7 h8 h9 h10 h11 ((v.1, v.2.1, v.2.2.1, v.2.2.2.1, (zpl (85 * pm) 85 v.2.2.2.2.1 v.1), (zpl (9 * pm) 9 v.2.2.2.2.2.1 v.2.1), (nI (pm + 1)), v.2.2.2.2.2.2.2) : vX10)) H := hP
                have hD9 : va_D A (wX10 cA h0 h1 h2 h3 h4 h5 h6 h7 h8 h9 h10 h11 ((v.1, v.2.1, v.2.2.1, v.2.2.2.1, (zpl (85 * pm) 85 v.2.2.2.2.1 v.1), (zpl (9 * pm) 9 v.2.2.2.2.2.1 v.2.1), (nI (pm + 1)), v.2.2.2.2.2.2.2) : vX10)) := hD
                subst hQ
                exact W.vret hx hb hr (fun t ht hW => ⟨⟨(v.1, v.2.1, v.2.2.1, v.2.2.2.1, (zpl (85 * pm) 85 v.2.2.2.2.1 v.1), (zpl (9 * pm) 9 v.2.2.2.2.2.1 v.2.1), (nI (pm + 1)), v.2.2.2.2.2.2.2), rfl, e9.symm, ⟨by rw [ht]; exact hP9, va_K.moved hW.alike hK, hD9⟩⟩, hS.F ht⟩) hS.2.2 dX10_keep_156
              · skip
                have hkl : k < 9 := Nat.lt_of_not_le (fun h => c_3 (nI_le (a := 9) (b := k) h (by omega)))
                refine lv_aload_n hx hb dX10_keep_120 rfl (lv_at hl 1 rfl) ?_
                refine va_get (D := D) (ci := 10) (v := .ref h6) (C := RX10) (T := TX10) (N := 16) hx hb hts hinX10 hown hK hP 0 rfl rfl 5 (by decide) (hts (.fieldLink RX10 26 "GyroTrainerModel" "pastSums" "[J") (List.mem_of_getElem? (i := 3) rfl)) (fun _ h9 => h9) rfl dX10_keep_121 ?_
                refine lv_bipush (v := 9) hx hb dX10_keep_124 (by decide) ?_
                refine lv_aload_n hx hb dX10_keep_126 rfl (lv_at hl 1 rfl) ?_
                refine va_get (D := D) (ci := 10) (v := .int (nI pm)) (C := RX10) (T := TX10) (N := 16) hx hb hts hinX10 hown hK hP 0 rfl rfl 6 (by decide) (hts (.fieldLink RX10 45 "GyroTrainerModel" "pastMany" "I") (List.mem_of_getElem? (i := 1) rfl)) (fun _ h9 => h9) rfl dX10_keep_127 ?_
                refine lv_imul hx hb dX10_keep_130 ?_
                refine lv_iload_n hx hb dX10_keep_131 rfl (lv_at hl 0 rfl) ?_
                refine lv_iadd hx hb dX10_keep_132 ?_
                refine lv_aload_n hx hb dX10_keep_133 rfl (lv_at hl 1 rfl) ?_
                refine va_get (D := D) (ci := 10) (v := .ref h2) (C := RX10) (T := TX10) (N := 16) hx hb hts hinX10 hown hK hP 0 rfl rfl 1 (by decide) (hts (.fieldLink RX10 13 "GyroTrainerModel" "sums" "[J") (List.mem_of_getElem? (i := 5) rfl)) (fun _ h9 => h9) rfl dX10_keep_134 ?_
                refine lv_iload_n hx hb dX10_keep_137 rfl (lv_at hl 0 rfl) ?_
                refine z_lald (k := k) hx hb hK hP 2 0 rfl rfl rfl (by omega) (by decide) dX10_keep_138 ?_
                refine z_last (k := (9 * pm + k)) hx hb hK hP hD hS 6 0 rfl rfl (zm_mk 9 pm k) (by omega) (by decide) dX10_keep_139 (fun g_4 eg_4 H locs hP hD hS => ?_)
                have hP : va_P D vwCl [(h0, .inr (10, [.ref h1, .ref h2, .ref h3, .ref h4, .ref h5, .ref h6, .int (nI pm), .ref h7, .ref h8, .ref h9, .ref h10, .int v.2.2.2.2.2.2.2.2.2.2.2.1, .int v.2.2.2.2.2.2.2.2.2.2.2.2.1, .int v.2.2.2.2.2.2.2.2.2.2.2.2.2.1, .ref h11, .int v.2.2.2.2.2.2.2.2.2.2.2.2.2.2.2])), (h1, .inl ((cA 1), 85, .inl v.1)), (h2, .inl ((cA 0), 9, .inr (.inl v.2.1))), (h3, .inl ((cA 1), 85, .inl v.2.2.1)), (h4, .inl ((cA 0), 9, .inr (.inl v.2.2.2.1))), (h5, .inl ((cA 1), 510, .inl (zpl (85 * pm) 85 v.2.2.2.2.1 v.1))), (h6, .inl ((cA 0), 54, .inr (.inl g_4))), (h7, .inl ((cA 1), 170, .inl v.2.2.2.2.2.2.2.1)), (h8, .inl ((cA 0), 18, .inr (.inl v.2.2.2.2.2.2.2.2.1))), (h9, .inl ((cA 2), 2, .inl v.2.2.2.2.2.2.2.2.2.1)), (h10, .inl ((cA 1), 80, .inl v.2.2.2.2.2.2.2.2.2.2.1)), (h11, .inl ((cA 1), 60, .inl v.2.2.2.2.2.2.2.2.2.2.2.2.2.2.1))] H := hP
                have hD : va_D A [(h0, .inr (10, [.ref h1, .ref h2, .ref h3, .ref h4, .ref h5, .ref h6, .int (nI pm), .ref h7, .ref h8, .ref h9, .ref h10, .int v.2.2.2.2.2.2.2.2.2.2.2.1, .int v.2.2.2.2.2.2.2.2.2.2.2.2.1, .int v.2.2.2.2.2.2.2.2.2.2.2.2.2.1, .ref h11, .int v.2.2.2.2.2.2.2.2.2.2.2.2.2.2.2])), (h1, .inl ((cA 1), 85, .inl v.1)), (h2, .inl ((cA 0), 9, .inr (.inl v.2.1))), (h3, .inl ((cA 1), 85, .inl v.2.2.1)), (h4, .inl ((cA 0), 9, .inr (.inl v.2.2.2.1))), (h5, .inl ((cA 1), 510, .inl (zpl (85 * pm) 85 v.2.2.2.2.1 v.1))), (h6, .inl ((cA 0), 54, .inr (.inl g_4))), (h7, .inl ((cA 1), 170, .inl v.2.2.2.2.2.2.2.1)), (h8, .inl ((cA 0), 18, .inr (.inl v.2.2.2.2.2.2.2.2.1))), (h9, .inl ((cA 2), 2, .inl v.2.2.2.2.2.2.2.2.2.1)), (h10, .inl ((cA 1), 80, .inl v.2.2.2.2.2.2.2.2.2.2.1)), (h11, .inl ((cA 1), 60, .inl v.2.2.2.2.2.2.2.2.2.2.2.2.2.2.1))] := hD
                refine lv_iinc (v := (nI (k + 1))) (lv' := [(1, .int (nI (k + 1))), (0, .ref h0)]) hx hb dX10_keep_140 hl (k := 0) rfl (nI_1 k) (by decide) rfl (fun ls hl => ?_)
                refine lv_goto (tgt := 114) hx hb dX10_keep_143 (by decide) ?_
                exact ih (k + 1) (by omega) (by omega) _ _ (by rw [← zpl_sL, ← eg_4]; exact hP) (by rw [← zpl_sL, ← eg_4]; exact hD) hS ls (lv_sub hl [0, 1] rfl)
          exact L114 (9 + 1) (0) (by omega) (Nat.zero_le _) _ _ (by rw [zpl_0]; exact hP) (by rw [zpl_0]; exact hD) hS ls (lv_sub hl [0, 1] rfl)
        · skip
          have hkl : k < 85 := Nat.lt_of_not_le (fun h => c_2 (nI_le (a := 85) (b := k) h (by omega)))
          refine lv_aload_n hx hb dX10_keep_86 rfl (lv_at hl 1 rfl) ?_
          refine va_get (D := D) (ci := 10) (v := .ref h5) (C := RX10) (T := TX10) (N := 16) hx hb hts hinX10 hown hK hP 0 rfl rfl 4 (by decide) (hts (.fieldLink RX10 23 "GyroTrainerModel" "past" "[I") (List.mem_of_getElem? (i := 2) rfl)) (fun _ h9 => h9) rfl dX10_keep_87 ?_
          refine lv_bipush (v := 85) hx hb dX10_keep_90 (by decide) ?_
          refine lv_aload_n hx hb dX10_keep_92 rfl (lv_at hl 1 rfl) ?_
          refine va_get (D := D) (ci := 10) (v := .int (nI pm)) (C := RX10) (T := TX10) (N := 16) hx hb hts hinX10 hown hK hP 0 rfl rfl 6 (by decide) (hts (.fieldLink RX10 45 "GyroTrainerModel" "pastMany" "I") (List.mem_of_getElem? (i := 1) rfl)) (fun _ h9 => h9) rfl dX10_keep_93 ?_
          refine lv_imul hx hb dX10_keep_96 ?_
          refine lv_iload_n hx hb dX10_keep_97 rfl (lv_at hl 0 rfl) ?_
          refine lv_iadd hx hb dX10_keep_98 ?_
          refine lv_aload_n hx hb dX10_keep_99 rfl (lv_at hl 1 rfl) ?_
          refine va_get (D := D) (ci := 10) (v := .ref h1) (C := RX10) (T := TX10) (N := 16) hx hb hts hinX10 hown hK hP 0 rfl rfl 0 (by decide) (hts (.fieldLink RX10 7 "GyroTrainerModel" "at" "[I") (List.mem_of_getElem? (i := 4) rfl)) (fun _ h9 => h9) rfl dX10_keep_100 ?_
          refine lv_iload_n hx hb dX10_keep_103 rfl (lv_at hl 0 rfl) ?_
          refine z_iald (k := k) hx hb hK hP 1 1 rfl rfl rfl (by omega) (by decide) dX10_keep_104 ?_
          refine z_iast (k := (85 * pm + k)) hx hb hK hP hD hS 5 1 rfl rfl (zm_mk 85 pm k) (by omega) (by decide) dX10_keep_105 (fun g_5 eg_5 H locs hP hD hS => ?_)
          have hP : va_P D vwCl [(h0, .inr (10, [.ref h1, .ref h2, .ref h3, .ref h4, .ref h5, .ref h6, .int (nI pm), .ref h7, .ref h8, .ref h9, .ref h10, .int v.2.2.2.2.2.2.2.2.2.2.2.1, .int v.2.2.2.2.2.2.2.2.2.2.2.2.1, .int v.2.2.2.2.2.2.2.2.2.2.2.2.2.1, .ref h11, .int v.2.2.2.2.2.2.2.2.2.2.2.2.2.2.2])), (h1, .inl ((cA 1), 85, .inl v.1)), (h2, .inl ((cA 0), 9, .inr (.inl v.2.1))), (h3, .inl ((cA 1), 85, .inl v.2.2.1)), (h4, .inl ((cA 0), 9, .inr (.inl v.2.2.2.1))), (h5, .inl ((cA 1), 510, .inl g_5)), (h6, .inl ((cA 0), 54, .inr (.inl v.2.2.2.2.2.1))), (h7, .inl ((cA 1), 170, .inl v.2.2.2.2.2.2.2.1)), (h8, .inl ((cA 0), 18, .inr (.inl v.2.2.2.2.2.2.2.2.1))), (h9, .inl ((cA 2), 2, .inl v.2.2.2.2.2.2.2.2.2.1)), (h10, .inl ((cA 1), 80, .inl v.2.2.2.2.2.2.2.2.2.2.1)), (h11, .inl ((cA 1), 60, .inl v.2.2.2.2.2.2.2.2.2.2.2.2.2.2.1))] H := hP
          have hD : va_D A [(h0, .inr (10, [.ref h1, .ref h2, .ref h3, .ref h4, .ref h5, .ref h6, .int (nI pm), .ref h7, .ref h8, .ref h9, .ref h10, .int v.2.2.2.2.2.2.2.2.2.2.2.1, .int v.2.2.2.2.2.2.2.2.2.2.2.2.1, .int v.2.2.2.2.2.2.2.2.2.2.2.2.2.1, .ref h11, .int v.2.2.2.2.2.2.2.2.2.2.2.2.2.2.2])), (h1, .inl ((cA 1), 85, .inl v.1)), (h2, .inl ((cA 0), 9, .inr (.inl v.2.1))), (h3, .inl ((cA 1), 85, .inl v.2.2.1)), (h4, .inl ((cA 0), 9, .inr (.inl v.2.2.2.1))), (h5, .inl ((cA 1), 510, .inl g_5)), (h6, .inl ((cA 0), 54, .inr (.inl v.2.2.2.2.2.1))), (h7, .inl ((cA 1), 170, .inl v.2.2.2.2.2.2.2.1)), (h8, .inl ((cA 0), 18, .inr (.inl v.2.2.2.2.2.2.2.2.1))), (h9, .inl ((cA 2), 2, .inl v.2.2.2.2.2.2.2.2.2.1)), (h10, .inl ((cA 1), 80, .inl v.2.2.2.2.2.2.2.2.2.2.1)), (h11, .inl ((cA 1), 60, .inl v.2.2.2.2.2.2.2.2.2.2.2.2.2.2.1))] := hD
          refine lv_iinc (v := (nI (k + 1))) (lv' := [(1, .int (nI (k + 1))), (0, .ref h0)]) hx hb dX10_keep_106 hl (k := 0) rfl (nI_1 k) (by decide) rfl (fun ls hl => ?_)
          refine lv_goto (tgt := 80) hx hb dX10_keep_109 (by decide) ?_
          exact ih (k + 1) (by omega) (by omega) _ _ (by rw [← zpl_s, ← eg_5]; exact hP) (by rw [← zpl_s, ← eg_5]; exact hD) hS ls (lv_sub hl [0, 1] rfl)
    exact L80 (85 + 1) (0) (by omega) (Nat.zero_le _) _ _ (by rw [zpl_0]; exact hP) (by rw [zpl_0]; exact hD) hS ls (lv_sub hl [0, 1] rfl)
  · skip
    have e6 : pm = 6 := (nI_eq (a := pm) (b := 6) (by omega) (by decide)).mp (hpm.symm.trans c_1)
    refine lv_iconst (v := 0) hx hb dX10_keep_9 (by decide) ?_
    refine lv_istore_n (lv' := [(1, .int (0 : Int32)), (0, .ref h0)]) hx hb dX10_keep_10 rfl hl (by decide) rfl (fun ls hl => ?_)
    have L11 : ∀ (zn : Nat) (k : Nat), 425 - k < zn → (k ≤ 425) → ∀ (H : Heap) (locs : List Loc), va_P D vwCl [(h0, .inr (10, [.ref h1, .ref h2, .ref h3, .ref h4, .ref h5, .ref h6, .int v.2.2.2.2.2.2.1, .ref h7, .ref h8, .ref h9, .ref h10, .int v.2.2.2.2.2.2.2.2.2.2.2.1, .int v.2.2.2.2.2.2.2.2.2.2.2.2.1, .int v.2.2.2.2.2.2.2.2.2.2.2.2.2.1, .ref h11, .int v.2.2.2.2.2.2.2.2.2.2.2.2.2.2.2])), (h1, .inl ((cA 1), 85, .inl v.1)), (h2, .inl ((cA 0), 9, .inr (.inl v.2.1))), (h3, .inl ((cA 1), 85, .inl v.2.2.1)), (h4, .inl ((cA 0), 9, .inr (.inl v.2.2.2.1))), (h5, .inl ((cA 1), 510, .inl (zsf k 85 v.2.2.2.2.1))), (h6, .inl ((cA 0), 54, .inr (.inl v.2.2.2.2.2.1))), (h7, .inl ((cA 1), 170, .inl v.2.2.2.2.2.2.2.1)), (h8, .inl ((cA 0), 18, .inr (.inl v.2.2.2.2.2.2.2.2.1))), (h9, .inl ((cA 2), 2, .inl v.2.2.2.2.2.2.2.2.2.1)), (h10, .inl ((cA 1), 80, .inl v.2.2.2.2.2.2.2.2.2.2.1)), (h11, .inl ((cA 1), 60, .inl v.2.2.2.2.2.2.2.2.2.2.2.2.2.2.1))] H → va_D A [(h0, .inr (10, [.ref h1, .ref h2, .ref h3, .ref h4, .ref h5, .ref h6, .int v.2.2.2.2.2.2.1, .ref h7, .ref h8, .ref h9, .ref h10, .int v.2.2.2.2.2.2.2.2.2.2.2.1, .int v.2.2.2.2.2.2.2.2.2.2.2.2.1, .int v.2.2.2.2.2.2.2.2.2.2.2.2.2.1, .ref h11, .int v.2.2.2.2.2.2.2.2.2.2.2.2.2.2.2])), (h1, .inl ((cA 1), 85, .inl v.1)), (h2, .inl ((cA 0), 9, .inr (.inl v.2.1))), (h3, .inl ((cA 1), 85, .inl v.2.2.1)), (h4, .inl ((cA 0), 9, .inr (.inl v.2.2.2.1))), (h5, .inl ((cA 1), 510, .inl (zsf k 85 v.2.2.2.2.1))), (h6, .inl ((cA 0), 54, .inr (.inl v.2.2.2.2.2.1))), (h7, .inl ((cA 1), 170, .inl v.2.2.2.2.2.2.2.1)), (h8, .inl ((cA 0), 18, .inr (.inl v.2.2.2.2.2.2.2.2.1))), (h9, .inl ((cA 2), 2, .inl v.2.2.2.2.2.2.2.2.2.1)), (h10, .inl ((cA 1), 80, .inl v.2.2.2.2.2.2.2.2.2.2.1)), (h11, .inl ((cA 1), 60, .inl v.2.2.2.2.2.2.2.2.2.2.2.2.2.2.1))] → va_S A s.heap H locs → ∀ (ls : Array Slot), lv_has ls 2 [(1, .int (nI k)), (0, .ref h0)] → W p l e (headSpec wsX10_keep ({ frames := 0, cells := 0, slots := 0, locals := 0 })).room s m (([.ref h0] : List Value).toArray) below meth c H locs 0 0 Q (F0 m 11 ls []) := by
      intro zn
      induction zn with
      | zero =>
        intro k hm
        exact absurd hm (Nat.not_lt_zero _)
      | succ zn ih =>
        intro k hm hk H locs hP hD hS ls hl
        refine lv_iload_n hx hb dX10_keep_11 rfl (lv_at hl 0 rfl) ?_
        refine lv_sipush (v := 425) hx hb dX10_keep_12 (by decide) ?_
        refine lv_icmp_ge (tgt := 39) hx hb dX10_keep_15 (by decide) (fun c_6 => ?_) (fun c_6 => ?_)
        · skip
          obtain rfl : k = 425 := Nat.le_antisymm hk ((nI_leI (a := 425) (b := k) (by decide) (by omega)).mp c_6)
          refine lv_iconst (v := 0) hx hb dX10_keep_39 (by decide) ?_
          refine lv_istore_n (lv' := [(1, .int (0 : Int32)), (0, .ref h0)]) hx hb dX10_keep_40 rfl hl (by decide) rfl (fun ls hl => ?_)
          have L41 : ∀ (zn : Nat) (k : Nat), 45 - k < zn → (k ≤ 45) → ∀ (H : Heap) (locs : List Loc), va_P D vwCl [(h0, .inr (10, [.ref h1, .ref h2, .ref h3, .ref h4, .ref h5, .ref h6, .int v.2.2.2.2.2.2.1, .ref h7, .ref h8, .ref h9, .ref h10, .int v.2.2.2.2.2.2.2.2.2.2.2.1, .int v.2.2.2.2.2.2.2.2.2.2.2.2.1, .int v.2.2.2.2.2.2.2.2.2.2.2.2.2.1, .ref h11, .int v.2.2.2.2.2.2.2.2.2.2.2.2.2.2.2])), (h1, .inl ((cA 1), 85, .inl v.1)), (h2, .inl ((cA 0), 9, .inr (.inl v.2.1))), (h3, .inl ((cA 1), 85, .inl v.2.2.1)), (h4, .inl ((cA 0), 9, .inr (.inl v.2.2.2.1))), (h5, .inl ((cA 1), 510, .inl (zsf 425 85 v.2.2.2.2.1))), (h6, .inl ((cA 0), 54, .inr (.inl (zsf k 9 v.2.2.2.2.2.1)))), (h7, .inl ((cA 1), 170, .inl v.2.2.2.2.2.2.2.1)), (h8, .inl ((cA 0), 18, .inr (.inl v.2.2.2.2.2.2.2.2.1))), (h9, .inl ((cA 2), 2, .inl v.2.2.2.2.2.2.2.2.2.1)), (h10, .inl ((cA 1), 80, .inl v.2.2.2.2.2.2.2.2.2.2.1)), (h11, .inl ((cA 1), 60, .inl v.2.2.2.2.2.2.2.2.2.2.2.2.2.2.1))] H → va_D A [(h0, .inr (10, [.ref h1, .ref h2, .ref h3, .ref h4, .ref h5, .ref h6, .int v.2.2.2.2.2.2.1, .ref h7, .ref h8, .ref h9, .ref h10, .int v.2.2.2.2.2.2.2.2.2.2.2.1, .int v.2.2.2.2.2.2.2.2.2.2.2.2.1, .int v.2.2.2.2.2.2.2.2.2.2.2.2.2.1, .ref h11, .int v.2.2.2.2.2.2.2.2.2.2.2.2.2.2.2])), (h1, .inl ((cA 1), 85, .inl v.1)), (h2, .inl ((cA 0), 9, .inr (.inl v.2.1))), (h3, .inl ((cA 1), 85, .inl v.2.2.1)), (h4, .inl ((cA 0), 9, .inr (.inl v.2.2.2.1))), (h5, .inl ((cA 1), 510, .inl (zsf 425 85 v.2.2.2.2.1))), (h6, .inl ((cA 0), 54, .inr (.inl (zsf k 9 v.2.2.2.2.2.1)))), (h7, .inl ((cA 1), 170, .inl v.2.2.2.2.2.2.2.1)), (h8, .inl ((cA 0), 18, .inr (.inl v.2.2.2.2.2.2.2.2.1))), (h9, .inl ((cA 2), 2, .inl v.2.2.2.2.2.2.2.2.2.1)), (h10, .inl ((cA 1), 80, .inl v.2.2.2.2.2.2.2.2.2.2.1)), (h11, .inl ((cA 1), 60, .inl v.2.2.2.2.2.2.2.2.2.2.2.2.2.2.1))] → va_S A s.heap H locs → ∀ (ls : Array Slot), lv_has ls 2 [(1, .int (nI k)), (0, .ref h0)] → W p l e (headSpec wsX10_keep ({ frames := 0, cells := 0, slots := 0, locals := 0 })).room s m (([.ref h0] : List Value).toArray) below meth c H locs 0 0 Q (F0 m 41 ls []) := by
            intro zn
            induction zn with
            | zero =>
              intro k hm
              exact absurd hm (Nat.not_lt_zero _)
            | succ zn ih =>
              intro k hm hk H locs hP hD hS ls hl
              refine lv_iload_n hx hb dX10_keep_41 rfl (lv_at hl 0 rfl) ?_
              refine lv_bipush (v := 45) hx hb dX10_keep_42 (by decide) ?_
              refine lv_icmp_ge (tgt := 68) hx hb dX10_keep_44 (by decide) (fun c_7 => ?_) (fun c_7 => ?_)
              · skip
                obtain rfl : k = 45 := Nat.le_antisymm hk ((nI_leI (a := 45) (b := k) (by decide) (by omega)).mp c_7)
                refine lv_aload_n hx hb dX10_keep_68 rfl (lv_at hl 1 rfl) ?_
                refine lv_dup hx hb dX10_keep_69 rfl ?_
                refine va_get (D := D) (ci := 10) (v := .int v.2.2.2.2.2.2.1) (C := RX10) (T := TX10) (N := 16) hx hb hts hinX10 hown hK hP 0 rfl rfl 6 (by decide) (hts (.fieldLink RX10 45 "GyroTrainerModel" "pastMany" "I") (List.mem_of_getElem? (i := 1) rfl)) (fun _ h9 => h9) rfl dX10_keep_70 ?_
                refine lv_iconst (v := 1) hx hb dX10_keep_73 (by decide) ?_
                refine lv_isub hx hb dX10_keep_74 ?_
                have e75 : (v.2.2.2.2.2.2.1 - (1 : Int32)) = nI 5 := by rw [c_1]; decide
                rw [e75]
                refine va_put (D := D) (ci := 10) (v := .int (nI 5)) (ty := .int) (C := RX10) (T := TX10) (N := 16) hx hb hts hinX10 tyX10 tyX10_ok nmX10 hown hK hP hD hS 0 rfl rfl 6 (by decide) (hts (.fieldLink RX10 45 "GyroTrainerModel" "pastMany" "I") (List.mem_of_getElem? (i := 1) rfl)) (fun _ h9 => h9) rfl (by decide +kernel) rfl rfl (Nat.le_of_ble_eq_true rfl) dX10_keep_75 (fun H locs hP hD hS => ?_)
                have hP : va_P D vwCl [(h0, .inr (10, [.ref h1, .ref h2, .ref h3, .ref h4, .ref h5, .ref h6, .int (nI 5), .ref h7, .ref h8, .ref h9, .ref h10, .int v.2.2.2.2.2.2.2.2.2.2.2.1, .int v.2.2.2.2.2.2.2.2.2.2.2.2.1, .int v.2.2.2.2.2.2.2.2.2.2.2.2.2.1, .ref h11, .int v.2.2.2.2.2.2.2.2.2.2.2.2.2.2.2])), (h1, .inl ((cA 1), 85, .inl v.1)), (h2, .inl ((cA 0), 9, .inr (.inl v.2.1))), (h3, .inl ((cA 1), 85, .inl v.2.2.1)), (h4, .inl ((cA 0), 9, .inr (.inl v.2.2.2.1))), (h5, .inl ((cA 1), 510, .inl (zsf 425 85 v.2.2.2.2.1))), (h6, .inl ((cA 0), 54, .inr (.inl (zsf 45 9 v.2.2.2.2.2.1)))), (h7, .inl ((cA 1), 170, .inl v.2.2.2.2.2.2.2.1)), (h8, .inl ((cA 0), 18, .inr (.inl v.2.2.2.2.2.2.2.2.1))), (h9, .inl ((cA 2), 2, .inl v.2.2.2.2.2.2.2.2.2.1)), (h10, .inl ((cA 1), 80, .inl v.2.2.2.2.2.2.2.2.2.2.1)), (h11, .inl ((cA 1), 60, .inl v.2.2.2.2.2.2.2.2.2.2.2.2.2.2.1))] H := hP
                have hD : va_D A [(h0, .inr (10, [.ref h1, .ref h2, .ref h3, .ref h4, .ref h5, .ref h6, .int (nI 5), .ref h7, .ref h8, .ref h9, .ref h10, .int v.2.2.2.2.2.2.2.2.2.2.2.1, .int v.2.2.2.2.2.2.2.2.2.2.2.2.1, .int v.2.2.2.2.2.2.2.2.2.2.2.2.2.1, .ref h11, .int v.2.2.2.2.2.2.2.2.2.2.2.2.2.2.2])), (h1, .inl ((cA 1), 85, .inl v.1)), (h2, .inl ((cA 0), 9, .inr (.inl v.2.1))), (h3, .inl ((cA 1), 85, .inl v.2.2.1)), (h4, .inl ((cA 0), 9, .inr (.inl v.2.2.2.1))), (h5, .inl ((cA 1), 510, .inl (zsf 425 85 v.2.2.2.2.1))), (h6, .inl ((cA 0), 54, .inr (.inl (zsf 45 9 v.2.2.2.2.2.1)))), (h7, .inl ((cA 1), 170, .inl v.2.2.2.2.2.2.2.1)), (h8, .inl ((cA 0), 18, .inr (.inl v.2.2.2.2.2.2.2.2.1))), (h9, .inl ((cA 2), 2, .inl v.2.2.2.2.2.2.2.2.2.1)), (h10, .inl ((cA 1), 80, .inl v.2.2.2.2.2.2.2.2.2.2.1)), (h11, .inl ((cA 1), 60, .inl v.2.2.2.2.2.2.2.2.2.2.2.2.2.2.1))] := hD
                refine lv_iconst (v := 0) hx hb dX10_keep_78 (by decide) ?_
                refine lv_istore_n (lv' := [(1, .int (0 : Int32)), (0, .ref h0)]) hx hb dX10_keep_79 rfl hl (by decide) rfl (fun ls hl => ?_)
                have L80 : ∀ (zn : Nat) (k : Nat), 85 - k < zn → (k ≤ 85) → ∀ (H : Heap) (locs : List Loc), va_P D vwCl [(h0, .inr (10, [.ref h1, .ref h2, .ref h3, .ref h4, .ref h5, .ref h6, .int (nI 5), .ref h7, .ref h8, .ref h9, .ref h10, .int v.2.2.2.2.2.2.2.2.2.2.2.1, .int v.2.2.2.2.2.2.2.2.2.2.2.2.1, .int v.2.2.2.2.2.2.2.2.2.2.2.2.2.1, .ref h11, .int v.2.2.2.2.2.2.2.2.2.2.2.2.2.2.2])), (h1, .inl ((cA 1), 85, .inl v.1)), (h2, .inl ((cA 0), 9, .inr (.inl v.2.1))), (h3, .inl ((cA 1), 85, .inl v.2.2.1)), (h4, .inl ((cA 0), 9, .inr (.inl v.2.2.2.1))), (h5, .inl ((cA 1), 510, .inl (zpl (85 * 5) k (zsf 425 85 v.2.2.2.2.1) v.1))), (h6, .inl ((cA 0), 54, .inr (.inl (zsf 45 9 v.2.2.2.2.2.1)))), (h7, .inl ((cA 1), 170, .inl v.2.2.2.2.2.2.2.1)), (h8, .inl ((cA 0), 18, .inr (.inl v.2.2.2.2.2.2.2.2.1))), (h9, .inl ((cA 2), 2, .inl v.2.2.2.2.2.2.2.2.2.1)), (h10, .inl ((cA 1), 80, .inl v.2.2.2.2.2.2.2.2.2.2.1)), (h11, .inl ((cA 1), 60, .inl v.2.2.2.2.2.2.2.2.2.2.2.2.2.2.1))] H → va_D A [(h0, .inr (10, [.ref h1, .ref h2, .ref h3, .ref h4, .ref h5, .ref h6, .int (nI 5), .ref h7, .ref h8, .ref h9, .ref h10, .int v.2.2.2.2.2.2.2.2.2.2.2.1, .int v.2.2.2.2.2.2.2.2.2.2.2.2.1, .int v.2.2.2.2.2.2.2.2.2.2.2.2.2.1, .ref h11, .int v.2.2.2.2.2.2.2.2.2.2.2.2.2.2.2])), (h1, .inl ((cA 1), 85, .inl v.1)), (h2, .inl ((cA 0), 9, .inr (.inl v.2.1))), (h3, .inl ((cA 1), 85, .inl v.2.2.1)), (h4, .inl ((cA 0), 9, .inr (.inl v.2.2.2.1))), (h5, .inl ((cA 1), 510, .inl (zpl (85 * 5) k (zsf 425 85 v.2.2.2.2.1) v.1))), (h6, .inl ((cA 0), 54, .inr (.inl (zsf 45 9 v.2.2.2.2.2.1)))), (h7, .inl ((cA 1), 170, .inl v.2.2.2.2.2.2.2.1)), (h8, .inl ((cA 0), 18, .inr (.inl v.2.2.2.2.2.2.2.2.1))), (h9, .inl ((cA 2), 2, .inl v.2.2.2.2.2.2.2.2.2.1)), (h10, .inl ((cA 1), 80, .inl v.2.2.2.2.2.2.2.2.2.2.1)), (h11, .inl ((cA 1), 60, .inl v.2.2.2.2.2.2.2.2.2.2.2.2.2.2.1))] → va_S A s.heap H locs → ∀ (ls : Array Slot), lv_has ls 2 [(1, .int (nI k)), (0, .ref h0)] → W p l e (headSpec wsX10_keep ({ frames := 0, cells := 0, slots := 0, locals := 0 })).room s m (([.ref h0] : List Value).toArray) below meth c H locs 0 0 Q (F0 m 80 ls []) := by
                  intro zn
                  induction zn with
                  | zero =>
                    intro k hm
                    exact absurd hm (Nat.not_lt_zero _)
                  | succ zn ih =>
                    intro k hm hk H locs hP hD hS ls hl
                    refine lv_iload_n hx hb dX10_keep_80 rfl (lv_at hl 0 rfl) ?_
                    refine lv_bipush (v := 85) hx hb dX10_keep_81 (by decide) ?_
                    refine lv_icmp_ge (tgt := 112) hx hb dX10_keep_83 (by decide) (fun c_8 => ?_) (fun c_8 => ?_)
                    · skip
                      obtain rfl : k = 85 := Nat.le_antisymm hk ((nI_leI (a := 85) (b := k) (by decide) (by omega)).mp c_8)
                      refine lv_iconst (v := 0) hx hb dX10_keep_112 (by decide) ?_
                      refine lv_istore_n (lv' := [(1, .int (0 : Int32)), (0, .ref h0)]) hx hb dX10_keep_113 rfl hl (by decide) rfl (fun ls hl => ?_)
                      have L114 : ∀ (zn : Nat) (k : Nat), 9 - k < zn → (k ≤ 9) → ∀ (H : Heap) (locs : List Loc), va_P D vwCl [(h0, .inr (10, [.ref h1, .ref h2, .ref h3, .ref h4, .ref h5, .ref h6, .int (nI 5), .ref h7, .ref h8, .ref h9, .ref h10, .int v.2.2.2.2.2.2.2.2.2.2.2.1, .int v.2.2.2.2.2.2.2.2.2.2.2.2.1, .int v.2.2.2.2.2.2.2.2.2.2.2.2.2.1, .ref h11, .int v.2.2.2.2.2.2.2.2.2.2.2.2.2.2.2])), (h1, .inl ((cA 1), 85, .inl v.1)), (h2, .inl ((cA 0), 9, .inr (.inl v.2.1))), (h3, .inl ((cA 1), 85, .inl v.2.2.1)), (h4, .inl ((cA 0), 9, .inr (.inl v.2.2.2.1))), (h5, .inl ((cA 1), 510, .inl (zpl (85 * 5) 85 (zsf 425 85 v.2.2.2.2.1) v.1))), (h6, .inl ((cA 0), 54, .inr (.inl (zpl (9 * 5) k (zsf 45 9 v.2.2.2.2.2.1) v.2.1)))), (h7, .inl ((cA 1), 170, .inl v.2.2.2.2.2.2.2.1)), (h8, .inl ((cA 0), 18, .inr (.inl v.2.2.2.2.2.2.2.2.1))), (h9, .inl ((cA 2), 2, .inl v.2.2.2.2.2.2.2.2.2.1)), (h10, .inl ((cA 1), 80, .inl v.2.2.2.2.2.2.2.2.2.2.1)), (h11, .inl ((cA 1), 60, .inl v.2.2.2.2.2.2.2.2.2.2.2.2.2.2.1))] H → va_D A [(h0, .inr (10, [.ref h1, .ref h2, .ref h3, .ref h4, .ref h5, .ref h6, .int (nI 5), .ref h7, .ref h8, .ref h9, .ref h10, .int v.2.2.2.2.2.2.2.2.2.2.2.1, .int v.2.2.2.2.2.2.2.2.2.2.2.2.1, .int v.2.2.2.2.2.2.2.2.2.2.2.2.2.1, .ref h11, .int v.2.2.2.2.2.2.2.2.2.2.2.2.2.2.2])), (h1, .inl ((cA 1), 85, .inl v.1)), (h2, .inl ((cA 0), 9, .inr (.inl v.2.1))), (h3, .inl ((cA 1), 85, .inl v.2.2.1)), (h4, .inl ((cA 0), 9, .inr (.inl v.2.2.2.1))), (h5, .inl ((cA 1), 510, .inl (zpl (85 * 5) 85 (zsf 425 85 v.2.2.2.2.1) v.1))), (h6, .inl ((cA 0), 54, .inr (.inl (zpl (9 * 5) k (zsf 45 9 v.2.2.2.2.2.1) v.2.1)))), (h7, .inl ((cA 1), 170, .inl v.2.2.2.2.2.2.2.1)), (h8, .inl ((cA 0), 18, .inr (.inl v.2.2.2.2.2.2.2.2.1))), (h9, .inl ((cA 2), 2, .inl v.2.2.2.2.2.2.2.2.2.1)), (h10, .inl ((cA 1), 80, .inl v.2.2.2.2.2.2.2.2.2.2.1)), (h11, .inl ((cA 1), 60, .inl v.2.2.2.2.2.2.2.2.2.2.2.2.2.2.1))] → va_S A s.heap H locs → ∀ (ls : Array Slot), lv_has ls 2 [(1, .int (nI k)), (0, .ref h0)] → W p l e (headSpec wsX10_keep ({ frames := 0, cells := 0, slots := 0, locals := 0 })).room s m (([.ref h0] : List Value).toArray) below meth c H locs 0 0 Q (F0 m 114 ls []) := by
                        intro zn
                        induction zn with
                        | zero =>
                          intro k hm
                          exact absurd hm (Nat.not_lt_zero _)
                        | succ zn ih =>
                          intro k hm hk H locs hP hD hS ls hl
                          refine lv_iload_n hx hb dX10_keep_114 rfl (lv_at hl 0 rfl) ?_
                          refine lv_bipush (v := 9) hx hb dX10_keep_115 (by decide) ?_
                          refine lv_icmp_ge (tgt := 146) hx hb dX10_keep_117 (by decide) (fun c_9 => ?_) (fun c_9 => ?_)
                          · skip
                            obtain rfl : k = 9 := Nat.le_antisymm hk ((nI_leI (a := 9) (b := k) (by decide) (by omega)).mp c_9)
                            refine lv_aload_n hx hb dX10_keep_146 rfl (lv_at hl 1 rfl) ?_
                            refine lv_dup hx hb dX10_keep_147 rfl ?_
                            refine va_get (D := D) (ci := 10) (v := .int (nI 5)) (C := RX10) (T := TX10) (N := 16) hx hb hts hinX10 hown hK hP 0 rfl rfl 6 (by decide) (hts (.fieldLink RX10 45 "GyroTrainerModel" "pastMany" "I") (List.mem_of_getElem? (i := 1) rfl)) (fun _ h9 => h9) rfl dX10_keep_148 ?_
                            refine lv_iconst (v := 1) hx hb dX10_keep_151 (by decide) ?_
                            refine lv_iadd hx hb dX10_keep_152 ?_
                            rw [show ((nI 5) + (1 : Int32)) = nI (5 + 1) from nI_1 _]
                            refine va_put (D := D) (ci := 10) (v := .int (nI (5 + 1))) (ty := .int) (C := RX10) (T := TX10) (N := 16) hx hb hts hinX10 tyX10 tyX10_ok nmX10 hown hK hP hD hS 0 rfl rfl 6 (by decide) (hts (.fieldLink RX10 45 "GyroTrainerModel" "pastMany" "I") (List.mem_of_getElem? (i := 1) rfl)) (fun _ h9 => h9) rfl (by decide +kernel) rfl rfl (Nat.le_of_ble_eq_true rfl) dX10_keep_153 (fun H locs hP hD hS => ?_)
                            have hP : va_P D vwCl [(h0, .inr (10, [.ref h1, .ref h2, .ref h3, .ref h4, .ref h5, .ref h6, .int (nI (5 + 1)), .ref h7, .ref h8, .ref h9, .ref h10, .int v.2.2.2.2.2.2.2.2.2.2.2.1, .int v.2.2.2.2.2.2.2.2.2.2.2.2.1, .int v.2.2.2.2.2.2.2.2.2.2.2.2.2.1, .ref h11, .int v.2.2.2.2.2.2.2.2.2.2.2.2.2.2.2])), (h1, .inl ((cA 1), 85, .inl v.1)), (h2, .inl ((cA 0), 9, .inr (.inl v.2.1))), (h3, .inl ((cA 1), 85, .inl v.2.2.1)), (h4, .inl ((cA 0), 9, .inr (.inl v.2.2.2.1))), (h5, .inl ((cA 1), 510, .inl (zpl (85 * 5) 85 (zsf 425 85 v.2.2.2.2.1) v.1))), (h6, .inl ((cA 0), 54, .inr (.inl (zpl (9 * 5) 9 (zsf 45 9 v.2.2.2.2.2.1) v.2.1)))), (h7, .inl ((cA 1), 170, .inl v.2.2.2.2.2.2.2.1)), (h8, .inl ((cA 0), 18, .inr (.inl v.2.2.2.2.2.2.2.2.1))), (h9, .inl ((cA 2), 2, .inl v.2.2.2.2.2.2.2.2.2.1)), (h10, .inl ((cA 1), 80, .inl v.2.2.2.2.2.2.2.2.2.2.1)), (h11, .inl ((cA 1), 60, .inl v.2.2.2.2.2.2.2.2.2.2.2.2.2.2.1))] H := hP
                            have hD : va_D A [(h0, .inr (10, [.ref h1, .ref h2, .ref h3, .ref h4, .ref h5, .ref h6, .int (nI (5 + 1)), .ref h7, .ref h8, .ref h9, .ref h10, .int v.2.2.2.2.2.2.2.2.2.2.2.1, .int v.2.2.2.2.2.2.2.2.2.2.2.2.1, .int v.2.2.2.2.2.2.2.2.2.2.2.2.2.1, .ref h11, .int v.2.2.2.2.2.2.2.2.2.2.2.2.2.2.2])), (h1, .inl ((cA 1), 85, .inl v.1)), (h2, .inl ((cA 0), 9, .inr (.inl v.2.1))), (h3, .inl ((cA 1), 85, .inl v.2.2.1)), (h4, .inl ((cA 0), 9, .inr (.inl v.2.2.2.1))), (h5, .inl ((cA 1), 510, .inl (zpl (85 * 5) 85 (zsf 425 85 v.2.2.2.2.1) v.1))), (h6, .inl ((cA 0), 54, .inr (.inl (zpl (9 * 5) 9 (zsf 45 9 v.2.2.2.2.2.1) v.2.1)))), (h7, .inl ((cA 1), 170, .inl v.2.2.2.2.2.2.2.1)), (h8, .inl ((cA 0), 18, .inr (.inl v.2.2.2.2.2.2.2.2.1))), (h9, .inl ((cA 2), 2, .inl v.2.2.2.2.2.2.2.2.2.1)), (h10, .inl ((cA 1), 80, .inl v.2.2.2.2.2.2.2.2.2.2.1)), (h11, .inl ((cA 1), 60, .inl v.2.2.2.2.2.2.2.2.2.2.2.2.2.2.1))] := hD
                            have e9 : (fm_keep pm v) = (v.1, v.2.1, v.2.2.1, v.2.2.2.1, (zpl (85 * 5) 85 (zsf 425 85 v.2.2.2.2.1) v.1), (zpl (9 * 5) 9 (zsf 45 9 v.2.2.2.2.2.1) v.2.1), (nI (5 + 1)), v.2.2.2.2.2.2.2) := by rw [e6]; rfl
                            have hP9 : va_P D vwCl (wX10 cA h0 h1 h2 h3 h4 h5 h6 h7 h8 h9 h10 h11 ((v.1, v.2.1, v.2.2.1, v.2.2.2.1, (zpl (85 * 5) 85 (zsf 425 85 v.2.2.2.2.1) v.1), (zpl (9 * 5) 9 (zsf 45 9 v.2.2.2.2.2.1) v.2.1), (nI (5 + 1)), v.2.2.2.2.2.2.2) : vX10)) H := hP
                            have hD9 : va_D A (wX10 cA h0 h1 h2 h3 h4 h5 h6 h7 h8 h9 h10 h11 ((v.1, v.2.1, v.2.2.1, v.2.2.2.1, (zpl (85 * 5) 85 (zsf 425 85 v.2.2.2.2.1) v.1), (zpl (9 * 5) 9 (zsf 45 9 v.2.2.2.2.2.1) v.2.1), (nI (5 + 1)), v.2.2.2.2.2.2.2) : vX10)) := hD
                            subst hQ
                            exact W.vret hx hb hr (fun t ht hW => ⟨⟨(v.1, v.2.1, v.2.2.1, v.2.2.2.1, (zpl (85 * 5) 85 (zsf 425 85 v.2.2.2.2.1) v.1), (zpl (9 * 5) 9 (zsf 45 9 v.2.2.2.2.2.1) v.2.1), (nI (5 + 1)), v.2.2.2.2.2.2.2), rfl, e9.symm, ⟨by rw [ht]; exact hP9, va_K.moved hW.alike hK, hD9⟩⟩, hS.F ht⟩) hS.2.2 dX10_keep_156
                          · skip
                            have hkl : k < 9 := Nat.lt_of_not_le (fun h => c_9 (nI_le (a := 9) (b := k) h (by omega)))
                            refine lv_aload_n hx hb dX10_keep_120 rfl (lv_at hl 1 rfl) ?_
                            refine va_get (D := D) (ci := 10) (v := .ref h6) (C := RX10) (T := TX10) (N := 16) hx hb hts hinX10 hown hK hP 0 rfl rfl 5 (by decide) (hts (.fieldLink RX10 26 "GyroTrainerModel" "pastSums" "[J") (List.mem_of_getElem? (i := 3) rfl)) (fun _ h9 => h9) rfl dX10_keep_121 ?_
                            refine lv_bipush (v := 9) hx hb dX10_keep_124 (by decide) ?_
                            refine lv_aload_n hx hb dX10_keep_126 rfl (lv_at hl 1 rfl) ?_
                            refine va_get (D := D) (ci := 10) (v := .int (nI 5)) (C := RX10) (T := TX10) (N := 16) hx hb hts hinX10 hown hK hP 0 rfl rfl 6 (by decide) (hts (.fieldLink RX10 45 "GyroTrainerModel" "pastMany" "I") (List.mem_of_getElem? (i := 1) rfl)) (fun _ h9 => h9) rfl dX10_keep_127 ?_
                            refine lv_imul hx hb dX10_keep_130 ?_
                            refine lv_iload_n hx hb dX10_keep_131 rfl (lv_at hl 0 rfl) ?_
                            refine lv_iadd hx hb dX10_keep_132 ?_
                            refine lv_aload_n hx hb dX10_keep_133 rfl (lv_at hl 1 rfl) ?_
                            refine va_get (D := D) (ci := 10) (v := .ref h2) (C := RX10) (T := TX10) (N := 16) hx hb hts hinX10 hown hK hP 0 rfl rfl 1 (by decide) (hts (.fieldLink RX10 13 "GyroTrainerModel" "sums" "[J") (List.mem_of_getElem? (i := 5) rfl)) (fun _ h9 => h9) rfl dX10_keep_134 ?_
                            refine lv_iload_n hx hb dX10_keep_137 rfl (lv_at hl 0 rfl) ?_
                            refine z_lald (k := k) hx hb hK hP 2 0 rfl rfl rfl (by omega) (by decide) dX10_keep_138 ?_
                            refine z_last (k := (9 * 5 + k)) hx hb hK hP hD hS 6 0 rfl rfl (zm_mk 9 5 k) (by omega) (by decide) dX10_keep_139 (fun g_10 eg_10 H locs hP hD hS => ?_)
                            have hP : va_P D vwCl [(h0, .inr (10, [.ref h1, .ref h2, .ref h3, .ref h4, .ref h5, .ref h6, .int (nI 5), .ref h7, .ref h8, .ref h9, .ref h10, .int v.2.2.2.2.2.2.2.2.2.2.2.1, .int v.2.2.2.2.2.2.2.2.2.2.2.2.1, .int v.2.2.2.2.2.2.2.2.2.2.2.2.2.1, .ref h11, .int v.2.2.2.2.2.2.2.2.2.2.2.2.2.2.2])), (h1, .inl ((cA 1), 85, .inl v.1)), (h2, .inl ((cA 0), 9, .inr (.inl v.2.1))), (h3, .inl ((cA 1), 85, .inl v.2.2.1)), (h4, .inl ((cA 0), 9, .inr (.inl v.2.2.2.1))), (h5, .inl ((cA 1), 510, .inl (zpl (85 * 5) 85 (zsf 425 85 v.2.2.2.2.1) v.1))), (h6, .inl ((cA 0), 54, .inr (.inl g_10))), (h7, .inl ((cA 1), 170, .inl v.2.2.2.2.2.2.2.1)), (h8, .inl ((cA 0), 18, .inr (.inl v.2.2.2.2.2.2.2.2.1))), (h9, .inl ((cA 2), 2, .inl v.2.2.2.2.2.2.2.2.2.1)), (h10, .inl ((cA 1), 80, .inl v.2.2.2.2.2.2.2.2.2.2.1)), (h11, .inl ((cA 1), 60, .inl v.2.2.2.2.2.2.2.2.2.2.2.2.2.2.1))] H := hP
                            have hD : va_D A [(h0, .inr (10, [.ref h1, .ref h2, .ref h3, .ref h4, .ref h5, .ref h6, .int (nI 5), .ref h7, .ref h8, .ref h9, .ref h10, .int v.2.2.2.2.2.2.2.2.2.2.2.1, .int v.2.2.2.2.2.2.2.2.2.2.2.2.1, .int v.2.2.2.2.2.2.2.2.2.2.2.2.2.1, .ref h11, .int v.2.2.2.2.2.2.2.2.2.2.2.2.2.2.2])), (h1, .inl ((cA 1), 85, .inl v.1)), (h2, .inl ((cA 0), 9, .inr (.inl v.2.1))), (h3, .inl ((cA 1), 85, .inl v.2.2.1)), (h4, .inl ((cA 0), 9, .inr (.inl v.2.2.2.1))), (h5, .inl ((cA 1), 510, .inl (zpl (85 * 5) 85 (zsf 425 85 v.2.2.2.2.1) v.1))), (h6, .inl ((cA 0), 54, .inr (.inl g_10))), (h7, .inl ((cA 1), 170, .inl v.2.2.2.2.2.2.2.1)), (h8, .inl ((cA 0), 18, .inr (.inl v.2.2.2.2.2.2.2.2.1))), (h9, .inl ((cA 2), 2, .inl v.2.2.2.2.2.2.2.2.2.1)), (h10, .inl ((cA 1), 80, .inl v.2.2.2.2.2.2.2.2.2.2.1)), (h11, .inl ((cA 1), 60, .inl v.2.2.2.2.2.2.2.2.2.2.2.2.2.2.1))] := hD
                            refine lv_iinc (v := (nI (k + 1))) (lv' := [(1, .int (nI (k + 1))), (0, .ref h0)]) hx hb dX10_keep_140 hl (k := 0) rfl (nI_1 k) (by decide) rfl (fun ls hl => ?_)
                            refine lv_goto (tgt := 114) hx hb dX10_keep_143 (by decide) ?_
                            exact ih (k + 1) (by omega) (by omega) _ _ (by rw [← zpl_sL, ← eg_10]; exact hP) (by rw [← zpl_sL, ← eg_10]; exact hD) hS ls (lv_sub hl [0, 1] rfl)
                      exact L114 (9 + 1) (0) (by omega) (Nat.zero_le _) _ _ (by rw [zpl_0]; exact hP) (by rw [zpl_0]; exact hD) hS ls (lv_sub hl [0, 1] rfl)
                    · skip
                      have hkl : k < 85 := Nat.lt_of_not_le (fun h => c_8 (nI_le (a := 85) (b := k) h (by omega)))
                      refine lv_aload_n hx hb dX10_keep_86 rfl (lv_at hl 1 rfl) ?_
                      refine va_get (D := D) (ci := 10) (v := .ref h5) (C := RX10) (T := TX10) (N := 16) hx hb hts hinX10 hown hK hP 0 rfl rfl 4 (by decide) (hts (.fieldLink RX10 23 "GyroTrainerModel" "past" "[I") (List.mem_of_getElem? (i := 2) rfl)) (fun _ h9 => h9) rfl dX10_keep_87 ?_
                      refine lv_bipush (v := 85) hx hb dX10_keep_90 (by decide) ?_
                      refine lv_aload_n hx hb dX10_keep_92 rfl (lv_at hl 1 rfl) ?_
                      refine va_get (D := D) (ci := 10) (v := .int (nI 5)) (C := RX10) (T := TX10) (N := 16) hx hb hts hinX10 hown hK hP 0 rfl rfl 6 (by decide) (hts (.fieldLink RX10 45 "GyroTrainerModel" "pastMany" "I") (List.mem_of_getElem? (i := 1) rfl)) (fun _ h9 => h9) rfl dX10_keep_93 ?_
                      refine lv_imul hx hb dX10_keep_96 ?_
                      refine lv_iload_n hx hb dX10_keep_97 rfl (lv_at hl 0 rfl) ?_
                      refine lv_iadd hx hb dX10_keep_98 ?_
                      refine lv_aload_n hx hb dX10_keep_99 rfl (lv_at hl 1 rfl) ?_
                      refine va_get (D := D) (ci := 10) (v := .ref h1) (C := RX10) (T := TX10) (N := 16) hx hb hts hinX10 hown hK hP 0 rfl rfl 0 (by decide) (hts (.fieldLink RX10 7 "GyroTrainerModel" "at" "[I") (List.mem_of_getElem? (i := 4) rfl)) (fun _ h9 => h9) rfl dX10_keep_100 ?_
                      refine lv_iload_n hx hb dX10_keep_103 rfl (lv_at hl 0 rfl) ?_
                      refine z_iald (k := k) hx hb hK hP 1 1 rfl rfl rfl (by omega) (by decide) dX10_keep_104 ?_
                      refine z_iast (k := (85 * 5 + k)) hx hb hK hP hD hS 5 1 rfl rfl (zm_mk 85 5 k) (by omega) (by decide) dX10_keep_105 (fun g_11 eg_11 H locs hP hD hS => ?_)
                      have hP : va_P D vwCl [(h0, .inr (10, [.ref h1, .ref h2, .ref h3, .ref h4, .ref h5, .ref h6, .int (nI 5), .ref h7, .ref h8, .ref h9, .ref h10, .int v.2.2.2.2.2.2.2.2.2.2.2.1, .int v.2.2.2.2.2.2.2.2.2.2.2.2.1, .int v.2.2.2.2.2.2.2.2.2.2.2.2.2.1, .ref h11, .int v.2.2.2.2.2.2.2.2.2.2.2.2.2.2.2])), (h1, .inl ((cA 1), 85, .inl v.1)), (h2, .inl ((cA 0), 9, .inr (.inl v.2.1))), (h3, .inl ((cA 1), 85, .inl v.2.2.1)), (h4, .inl ((cA 0), 9, .inr (.inl v.2.2.2.1))), (h5, .inl ((cA 1), 510, .inl g_11)), (h6, .inl ((cA 0), 54, .inr (.inl (zsf 45 9 v.2.2.2.2.2.1)))), (h7, .inl ((cA 1), 170, .inl v.2.2.2.2.2.2.2.1)), (h8, .inl ((cA 0), 18, .inr (.inl v.2.2.2.2.2.2.2.2.1))), (h9, .inl ((cA 2), 2, .inl v.2.2.2.2.2.2.2.2.2.1)), (h10, .inl ((cA 1), 80, .inl v.2.2.2.2.2.2.2.2.2.2.1)), (h11, .inl ((cA 1), 60, .inl v.2.2.2.2.2.2.2.2.2.2.2.2.2.2.1))] H := hP
                      have hD : va_D A [(h0, .inr (10, [.ref h1, .ref h2, .ref h3, .ref h4, .ref h5, .ref h6, .int (nI 5), .ref h7, .ref h8, .ref h9, .ref h10, .int v.2.2.2.2.2.2.2.2.2.2.2.1, .int v.2.2.2.2.2.2.2.2.2.2.2.2.1, .int v.2.2.2.2.2.2.2.2.2.2.2.2.2.1, .ref h11, .int v.2.2.2.2.2.2.2.2.2.2.2.2.2.2.2])), (h1, .inl ((cA 1), 85, .inl v.1)), (h2, .inl ((cA 0), 9, .inr (.inl v.2.1))), (h3, .inl ((cA 1), 85, .inl v.2.2.1)), (h4, .inl ((cA 0), 9, .inr (.inl v.2.2.2.1))), (h5, .inl ((cA 1), 510, .inl g_11)), (h6, .inl ((cA 0), 54, .inr (.inl (zsf 45 9 v.2.2.2.2.2.1)))), (h7, .inl ((cA 1), 170, .inl v.2.2.2.2.2.2.2.1)), (h8, .inl ((cA 0), 18, .inr (.inl v.2.2.2.2.2.2.2.2.1))), (h9, .inl ((cA 2), 2, .inl v.2.2.2.2.2.2.2.2.2.1)), (h10, .inl ((cA 1), 80, .inl v.2.2.2.2.2.2.2.2.2.2.1)), (h11, .inl ((cA 1), 60, .inl v.2.2.2.2.2.2.2.2.2.2.2.2.2.2.1))] := hD
                      refine lv_iinc (v := (nI (k + 1))) (lv' := [(1, .int (nI (k + 1))), (0, .ref h0)]) hx hb dX10_keep_106 hl (k := 0) rfl (nI_1 k) (by decide) rfl (fun ls hl => ?_)
                      refine lv_goto (tgt := 80) hx hb dX10_keep_109 (by decide) ?_
                      exact ih (k + 1) (by omega) (by omega) _ _ (by rw [← zpl_s, ← eg_11]; exact hP) (by rw [← zpl_s, ← eg_11]; exact hD) hS ls (lv_sub hl [0, 1] rfl)
                exact L80 (85 + 1) (0) (by omega) (Nat.zero_le _) _ _ (by rw [zpl_0]; exact hP) (by rw [zpl_0]; exact hD) hS ls (lv_sub hl [0, 1] rfl)
              · skip
                have hkl : k < 45 := Nat.lt_of_not_le (fun h => c_7 (nI_le (a := 45) (b := k) h (by omega)))
                refine lv_aload_n hx hb dX10_keep_47 rfl (lv_at hl 1 rfl) ?_
                refine va_get (D := D) (ci := 10) (v := .ref h6) (C := RX10) (T := TX10) (N := 16) hx hb hts hinX10 hown hK hP 0 rfl rfl 5 (by decide) (hts (.fieldLink RX10 26 "GyroTrainerModel" "pastSums" "[J") (List.mem_of_getElem? (i := 3) rfl)) (fun _ h9 => h9) rfl dX10_keep_48 ?_
                refine lv_iload_n hx hb dX10_keep_51 rfl (lv_at hl 0 rfl) ?_
                refine lv_aload_n hx hb dX10_keep_52 rfl (lv_at hl 1 rfl) ?_
                refine va_get (D := D) (ci := 10) (v := .ref h6) (C := RX10) (T := TX10) (N := 16) hx hb hts hinX10 hown hK hP 0 rfl rfl 5 (by decide) (hts (.fieldLink RX10 26 "GyroTrainerModel" "pastSums" "[J") (List.mem_of_getElem? (i := 3) rfl)) (fun _ h9 => h9) rfl dX10_keep_53 ?_
                refine lv_iload_n hx hb dX10_keep_56 rfl (lv_at hl 0 rfl) ?_
                refine lv_bipush (v := 9) hx hb dX10_keep_57 (by decide) ?_
                refine lv_iadd hx hb dX10_keep_59 ?_
                refine z_lald (k := (k + 9)) hx hb hK hP 6 0 rfl rfl (nI_add k 9) (by omega) (by decide) dX10_keep_60 ?_
                refine z_last (k := k) hx hb hK hP hD hS 6 0 rfl rfl rfl (by omega) (by decide) dX10_keep_61 (fun g_12 eg_12 H locs hP hD hS => ?_)
                have hP : va_P D vwCl [(h0, .inr (10, [.ref h1, .ref h2, .ref h3, .ref h4, .ref h5, .ref h6, .int v.2.2.2.2.2.2.1, .ref h7, .ref h8, .ref h9, .ref h10, .int v.2.2.2.2.2.2.2.2.2.2.2.1, .int v.2.2.2.2.2.2.2.2.2.2.2.2.1, .int v.2.2.2.2.2.2.2.2.2.2.2.2.2.1, .ref h11, .int v.2.2.2.2.2.2.2.2.2.2.2.2.2.2.2])), (h1, .inl ((cA 1), 85, .inl v.1)), (h2, .inl ((cA 0), 9, .inr (.inl v.2.1))), (h3, .inl ((cA 1), 85, .inl v.2.2.1)), (h4, .inl ((cA 0), 9, .inr (.inl v.2.2.2.1))), (h5, .inl ((cA 1), 510, .inl (zsf 425 85 v.2.2.2.2.1))), (h6, .inl ((cA 0), 54, .inr (.inl g_12))), (h7, .inl ((cA 1), 170, .inl v.2.2.2.2.2.2.2.1)), (h8, .inl ((cA 0), 18, .inr (.inl v.2.2.2.2.2.2.2.2.1))), (h9, .inl ((cA 2), 2, .inl v.2.2.2.2.2.2.2.2.2.1)), (h10, .inl ((cA 1), 80, .inl v.2.2.2.2.2.2.2.2.2.2.1)), (h11, .inl ((cA 1), 60, .inl v.2.2.2.2.2.2.2.2.2.2.2.2.2.2.1))] H := hP
                have hD : va_D A [(h0, .inr (10, [.ref h1, .ref h2, .ref h3, .ref h4, .ref h5, .ref h6, .int v.2.2.2.2.2.2.1, .ref h7, .ref h8, .ref h9, .ref h10, .int v.2.2.2.2.2.2.2.2.2.2.2.1, .int v.2.2.2.2.2.2.2.2.2.2.2.2.1, .int v.2.2.2.2.2.2.2.2.2.2.2.2.2.1, .ref h11, .int v.2.2.2.2.2.2.2.2.2.2.2.2.2.2.2])), (h1, .inl ((cA 1), 85, .inl v.1)), (h2, .inl ((cA 0), 9, .inr (.inl v.2.1))), (h3, .inl ((cA 1), 85, .inl v.2.2.1)), (h4, .inl ((cA 0), 9, .inr (.inl v.2.2.2.1))), (h5, .inl ((cA 1), 510, .inl (zsf 425 85 v.2.2.2.2.1))), (h6, .inl ((cA 0), 54, .inr (.inl g_12))), (h7, .inl ((cA 1), 170, .inl v.2.2.2.2.2.2.2.1)), (h8, .inl ((cA 0), 18, .inr (.inl v.2.2.2.2.2.2.2.2.1))), (h9, .inl ((cA 2), 2, .inl v.2.2.2.2.2.2.2.2.2.1)), (h10, .inl ((cA 1), 80, .inl v.2.2.2.2.2.2.2.2.2.2.1)), (h11, .inl ((cA 1), 60, .inl v.2.2.2.2.2.2.2.2.2.2.2.2.2.2.1))] := hD
                refine lv_iinc (v := (nI (k + 1))) (lv' := [(1, .int (nI (k + 1))), (0, .ref h0)]) hx hb dX10_keep_62 hl (k := 0) rfl (nI_1 k) (by decide) rfl (fun ls hl => ?_)
                refine lv_goto (tgt := 41) hx hb dX10_keep_65 (by decide) ?_
                exact ih (k + 1) (by omega) (by omega) _ _ (by rw [← zsf_sL, ← eg_12]; exact hP) (by rw [← zsf_sL, ← eg_12]; exact hD) hS ls (lv_sub hl [0, 1] rfl)
          exact L41 (45 + 1) (0) (by omega) (Nat.zero_le _) _ _ (by rw [zsf_0]; exact hP) (by rw [zsf_0]; exact hD) hS ls (lv_sub hl [0, 1] rfl)
        · skip
          have hkl : k < 425 := Nat.lt_of_not_le (fun h => c_6 (nI_le (a := 425) (b := k) h (by omega)))
          refine lv_aload_n hx hb dX10_keep_18 rfl (lv_at hl 1 rfl) ?_
          refine va_get (D := D) (ci := 10) (v := .ref h5) (C := RX10) (T := TX10) (N := 16) hx hb hts hinX10 hown hK hP 0 rfl rfl 4 (by decide) (hts (.fieldLink RX10 23 "GyroTrainerModel" "past" "[I") (List.mem_of_getElem? (i := 2) rfl)) (fun _ h9 => h9) rfl dX10_keep_19 ?_
          refine lv_iload_n hx hb dX10_keep_22 rfl (lv_at hl 0 rfl) ?_
          refine lv_aload_n hx hb dX10_keep_23 rfl (lv_at hl 1 rfl) ?_
          refine va_get (D := D) (ci := 10) (v := .ref h5) (C := RX10) (T := TX10) (N := 16) hx hb hts hinX10 hown hK hP 0 rfl rfl 4 (by decide) (hts (.fieldLink RX10 23 "GyroTrainerModel" "past" "[I") (List.mem_of_getElem? (i := 2) rfl)) (fun _ h9 => h9) rfl dX10_keep_24 ?_
          refine lv_iload_n hx hb dX10_keep_27 rfl (lv_at hl 0 rfl) ?_
          refine lv_bipush (v := 85) hx hb dX10_keep_28 (by decide) ?_
          refine lv_iadd hx hb dX10_keep_30 ?_
          refine z_iald (k := (k + 85)) hx hb hK hP 5 1 rfl rfl (nI_add k 85) (by omega) (by decide) dX10_keep_31 ?_
          refine z_iast (k := k) hx hb hK hP hD hS 5 1 rfl rfl rfl (by omega) (by decide) dX10_keep_32 (fun g_13 eg_13 H locs hP hD hS => ?_)
          have hP : va_P D vwCl [(h0, .inr (10, [.ref h1, .ref h2, .ref h3, .ref h4, .ref h5, .ref h6, .int v.2.2.2.2.2.2.1, .ref h7, .ref h8, .ref h9, .ref h10, .int v.2.2.2.2.2.2.2.2.2.2.2.1, .int v.2.2.2.2.2.2.2.2.2.2.2.2.1, .int v.2.2.2.2.2.2.2.2.2.2.2.2.2.1, .ref h11, .int v.2.2.2.2.2.2.2.2.2.2.2.2.2.2.2])), (h1, .inl ((cA 1), 85, .inl v.1)), (h2, .inl ((cA 0), 9, .inr (.inl v.2.1))), (h3, .inl ((cA 1), 85, .inl v.2.2.1)), (h4, .inl ((cA 0), 9, .inr (.inl v.2.2.2.1))), (h5, .inl ((cA 1), 510, .inl g_13)), (h6, .inl ((cA 0), 54, .inr (.inl v.2.2.2.2.2.1))), (h7, .inl ((cA 1), 170, .inl v.2.2.2.2.2.2.2.1)), (h8, .inl ((cA 0), 18, .inr (.inl v.2.2.2.2.2.2.2.2.1))), (h9, .inl ((cA 2), 2, .inl v.2.2.2.2.2.2.2.2.2.1)), (h10, .inl ((cA 1), 80, .inl v.2.2.2.2.2.2.2.2.2.2.1)), (h11, .inl ((cA 1), 60, .inl v.2.2.2.2.2.2.2.2.2.2.2.2.2.2.1))] H := hP
          have hD : va_D A [(h0, .inr (10, [.ref h1, .ref h2, .ref h3, .ref h4, .ref h5, .ref h6, .int v.2.2.2.2.2.2.1, .ref h7, .ref h8, .ref h9, .ref h10, .int v.2.2.2.2.2.2.2.2.2.2.2.1, .int v.2.2.2.2.2.2.2.2.2.2.2.2.1, .int v.2.2.2.2.2.2.2.2.2.2.2.2.2.1, .ref h11, .int v.2.2.2.2.2.2.2.2.2.2.2.2.2.2.2])), (h1, .inl ((cA 1), 85, .inl v.1)), (h2, .inl ((cA 0), 9, .inr (.inl v.2.1))), (h3, .inl ((cA 1), 85, .inl v.2.2.1)), (h4, .inl ((cA 0), 9, .inr (.inl v.2.2.2.1))), (h5, .inl ((cA 1), 510, .inl g_13)), (h6, .inl ((cA 0), 54, .inr (.inl v.2.2.2.2.2.1))), (h7, .inl ((cA 1), 170, .inl v.2.2.2.2.2.2.2.1)), (h8, .inl ((cA 0), 18, .inr (.inl v.2.2.2.2.2.2.2.2.1))), (h9, .inl ((cA 2), 2, .inl v.2.2.2.2.2.2.2.2.2.1)), (h10, .inl ((cA 1), 80, .inl v.2.2.2.2.2.2.2.2.2.2.1)), (h11, .inl ((cA 1), 60, .inl v.2.2.2.2.2.2.2.2.2.2.2.2.2.2.1))] := hD
          refine lv_iinc (v := (nI (k + 1))) (lv' := [(1, .int (nI (k + 1))), (0, .ref h0)]) hx hb dX10_keep_33 hl (k := 0) rfl (nI_1 k) (by decide) rfl (fun ls hl => ?_)
          refine lv_goto (tgt := 11) hx hb dX10_keep_36 (by decide) ?_
          exact ih (k + 1) (by omega) (by omega) _ _ (by rw [← zsf_s, ← eg_13]; exact hP) (by rw [← zsf_s, ← eg_13]; exact hD) hS ls (lv_sub hl [0, 1] rfl)
    exact L11 (425 + 1) (0) (by omega) (Nat.zero_le _) _ _ (by rw [zsf_0]; exact hP) (by rw [zsf_0]; exact hD) hS ls (lv_sub hl [0, 1] rfl)
set_option maxHeartbeats 4000000 in
set_option maxRecDepth 100000 in
theorem c_X10_putAside (l : Launch) (D : va_G) (cA : Nat → ClassId) (h0 h1 h2 h3 h4 h5 h6 h7 h8 h9 h10 h11 : Nat) (sz : Nat) (v : vX10)  : Met l yX10_putAside wsX10_putAside ({ frames := 0, cells := 0, slots := 0, locals := 0 }) (va_Pc [.ref h0] (zPre D (zty cA) (wX10 cA h0 h1 h2 h3 h4 h5 h6 h7 h8 h9 h10 h11 v) sz)) (va_Qv (fun (u : vX10) => u = (fm_aside v)) (fun u => zPost D (zty cA) (va_A (wX10 cA h0 h1 h2 h3 h4 h5 h6 h7 h8 h9 h10 h11 v) sz) (wX10 cA h0 h1 h2 h3 h4 h5 h6 h7 h8 h9 h10 h11 u)) (va_A (wX10 cA h0 h1 h2 h3 h4 h5 h6 h7 h8 h9 h10 h11 v) sz)) 0 0 (va_A (wX10 cA h0 h1 h2 h3 h4 h5 h6 h7 h8 h9 h10 h11 v) sz) := by
  refine Met.ofW (cc := cX10_putAside) (maxL := 2) (ret := none) (by decide) rfl ?_
  intro p e s m args below meth c s₁ B hml hv
  obtain ⟨rfl, hsz, hP, hK, hD0, hE⟩ := hv
  have hx := B.exec
  have hb := B.bytes
  have hr := B.returns
  have hts := atoms_spec (ws := wsX10_putAside) B.pre
  have hown : s.vm.findClass RX10 = some m.cls := findClass_of_methodNamed B.named
  have hlocks := B.notSynchronized
  have hinX10 : ∀ w ∈ u_ws RX10 TX10 16, w ∈ wsX10_putAside := fun w h => List.mem_cons_of_mem _ (List.mem_append_right _ h)
  subst hsz
  have hD := hD0.self (sz := s.heap.size)
  generalize hAe : va_A (wX10 cA h0 h1 h2 h3 h4 h5 h6 h7 h8 h9 h10 h11 v) s.heap.size = A at hD hE ⊢
  have hA : ∀ q : Nat, s.heap.size ≤ q → A q := fun q h => by rw [← hAe]; exact Or.inr h
  have hS : va_S A s.heap s.heap [] := va_S.rf
  have hN : zN s := hE.1
  have hP : va_P D vwCl [(h0, .inr (10, [.ref h1, .ref h2, .ref h3, .ref h4, .ref h5, .ref h6, .int v.2.2.2.2.2.2.1, .ref h7, .ref h8, .ref h9, .ref h10, .int v.2.2.2.2.2.2.2.2.2.2.2.1, .int v.2.2.2.2.2.2.2.2.2.2.2.2.1, .int v.2.2.2.2.2.2.2.2.2.2.2.2.2.1, .ref h11, .int v.2.2.2.2.2.2.2.2.2.2.2.2.2.2.2])), (h1, .inl ((cA 1), 85, .inl v.1)), (h2, .inl ((cA 0), 9, .inr (.inl v.2.1))), (h3, .inl ((cA 1), 85, .inl v.2.2.1)), (h4, .inl ((cA 0), 9, .inr (.inl v.2.2.2.1))), (h5, .inl ((cA 1), 510, .inl v.2.2.2.2.1)), (h6, .inl ((cA 0), 54, .inr (.inl v.2.2.2.2.2.1))), (h7, .inl ((cA 1), 170, .inl v.2.2.2.2.2.2.2.1)), (h8, .inl ((cA 0), 18, .inr (.inl v.2.2.2.2.2.2.2.2.1))), (h9, .inl ((cA 2), 2, .inl v.2.2.2.2.2.2.2.2.2.1)), (h10, .inl ((cA 1), 80, .inl v.2.2.2.2.2.2.2.2.2.2.1)), (h11, .inl ((cA 1), 60, .inl v.2.2.2.2.2.2.2.2.2.2.2.2.2.2.1))] s.heap := hP
  have hD : va_D A [(h0, .inr (10, [.ref h1, .ref h2, .ref h3, .ref h4, .ref h5, .ref h6, .int v.2.2.2.2.2.2.1, .ref h7, .ref h8, .ref h9, .ref h10, .int v.2.2.2.2.2.2.2.2.2.2.2.1, .int v.2.2.2.2.2.2.2.2.2.2.2.2.1, .int v.2.2.2.2.2.2.2.2.2.2.2.2.2.1, .ref h11, .int v.2.2.2.2.2.2.2.2.2.2.2.2.2.2.2])), (h1, .inl ((cA 1), 85, .inl v.1)), (h2, .inl ((cA 0), 9, .inr (.inl v.2.1))), (h3, .inl ((cA 1), 85, .inl v.2.2.1)), (h4, .inl ((cA 0), 9, .inr (.inl v.2.2.2.1))), (h5, .inl ((cA 1), 510, .inl v.2.2.2.2.1)), (h6, .inl ((cA 0), 54, .inr (.inl v.2.2.2.2.2.1))), (h7, .inl ((cA 1), 170, .inl v.2.2.2.2.2.2.2.1)), (h8, .inl ((cA 0), 18, .inr (.inl v.2.2.2.2.2.2.2.2.1))), (h9, .inl ((cA 2), 2, .inl v.2.2.2.2.2.2.2.2.2.1)), (h10, .inl ((cA 1), 80, .inl v.2.2.2.2.2.2.2.2.2.2.1)), (h11, .inl ((cA 1), 60, .inl v.2.2.2.2.2.2.2.2.2.2.2.2.2.2.1))] := hD
  have hl := lv_entry ([.ref h0]) (n := 2) (Nat.le_of_ble_eq_true rfl)
  rw [lg_entry_eq]
  generalize (lg_sl ([.ref h0]) ++ List.replicate (2 - (lg_sl ([.ref h0])).length) Slot.unset).toArray = ls at hl ⊢
  have hl : lv_has ls 2 [(0, .ref h0)] := hl
  refine z_genQ (fun Q hQ => ?_)
  refine lv_iconst (v := 0) hx hb dX10_putAside_0 (by decide) ?_
  refine lv_istore_n (lv' := [(1, .int (0 : Int32)), (0, .ref h0)]) hx hb dX10_putAside_1 rfl hl (by decide) rfl (fun ls hl => ?_)
  have L2 : ∀ (zn : Nat) (k : Nat), 85 - k < zn → (k ≤ 85) → ∀ (H : Heap) (locs : List Loc), va_P D vwCl [(h0, .inr (10, [.ref h1, .ref h2, .ref h3, .ref h4, .ref h5, .ref h6, .int v.2.2.2.2.2.2.1, .ref h7, .ref h8, .ref h9, .ref h10, .int v.2.2.2.2.2.2.2.2.2.2.2.1, .int v.2.2.2.2.2.2.2.2.2.2.2.2.1, .int v.2.2.2.2.2.2.2.2.2.2.2.2.2.1, .ref h11, .int v.2.2.2.2.2.2.2.2.2.2.2.2.2.2.2])), (h1, .inl ((cA 1), 85, .inl v.1)), (h2, .inl ((cA 0), 9, .inr (.inl v.2.1))), (h3, .inl ((cA 1), 85, .inl (zcp k v.1 v.2.2.1))), (h4, .inl ((cA 0), 9, .inr (.inl v.2.2.2.1))), (h5, .inl ((cA 1), 510, .inl v.2.2.2.2.1)), (h6, .inl ((cA 0), 54, .inr (.inl v.2.2.2.2.2.1))), (h7, .inl ((cA 1), 170, .inl v.2.2.2.2.2.2.2.1)), (h8, .inl ((cA 0), 18, .inr (.inl v.2.2.2.2.2.2.2.2.1))), (h9, .inl ((cA 2), 2, .inl v.2.2.2.2.2.2.2.2.2.1)), (h10, .inl ((cA 1), 80, .inl v.2.2.2.2.2.2.2.2.2.2.1)), (h11, .inl ((cA 1), 60, .inl v.2.2.2.2.2.2.2.2.2.2.2.2.2.2.1))] H → va_D A [(h0, .inr (10, [.ref h1, .ref h2, .ref h3, .ref h4, .ref h5, .ref h6, .int v.2.2.2.2.2.2.1, .ref h7, .ref h8, .ref h9, .ref h10, .int v.2.2.2.2.2.2.2.2.2.2.2.1, .int v.2.2.2.2.2.2.2.2.2.2.2.2.1, .int v.2.2.2.2.2.2.2.2.2.2.2.2.2.1, .ref h11, .int v.2.2.2.2.2.2.2.2.2.2.2.2.2.2.2])), (h1, .inl ((cA 1), 85, .inl v.1)), (h2, .inl ((cA 0), 9, .inr (.inl v.2.1))), (h3, .inl ((cA 1), 85, .inl (zcp k v.1 v.2.2.1))), (h4, .inl ((cA 0), 9, .inr (.inl v.2.2.2.1))), (h5, .inl ((cA 1), 510, .inl v.2.2.2.2.1)), (h6, .inl ((cA 0), 54, .inr (.inl v.2.2.2.2.2.1))), (h7, .inl ((cA 1), 170, .inl v.2.2.2.2.2.2.2.1)), (h8, .inl ((cA 0), 18, .inr (.inl v.2.2.2.2.2.2.2.2.1))), (h9, .inl ((cA 2), 2, .inl v.2.2.2.2.2.2.2.2.2.1)), (h10, .inl ((cA 1), 80, .inl v.2.2.2.2.2.2.2.2.2.2.1)), (h11, .inl ((cA 1), 60, .inl v.2.2.2.2.2.2.2.2.2.2.2.2.2.2.1))] → va_S A s.heap H locs → ∀ (ls : Array Slot), lv_has ls 2 [(1, .int (nI k)), (0, .ref h0)] → W p l e (headSpec wsX10_putAside ({ frames := 0, cells := 0, slots := 0, locals := 0 })).room s m (([.ref h0] : List Value).toArray) below meth c H locs 0 0 Q (F0 m 2 ls []) := by
    intro zn
    induction zn with
    | zero =>
      intro k hm
      exact absurd hm (Nat.not_lt_zero _)
    | succ zn ih =>
      intro k hm hk H locs hP hD hS ls hl
      refine lv_iload_n hx hb dX10_putAside_2 rfl (lv_at hl 0 rfl) ?_
      refine lv_bipush (v := 85) hx hb dX10_putAside_3 (by decide) ?_
      refine lv_icmp_ge (tgt := 26) hx hb dX10_putAside_5 (by decide) (fun c_1 => ?_) (fun c_1 => ?_)
      · skip
        obtain rfl : k = 85 := Nat.le_antisymm hk ((nI_leI (a := 85) (b := k) (by decide) (by omega)).mp c_1)
        have hP := z_reI (g := v.1) hP (k := 3) rfl (fun j hj => by show (zcp 85 v.1 v.2.2.1) j = v.1 j; unfold zcp; rw [if_pos hj])
        have hD := hD.set (p := 3) (e := .inl (cA 1, 85, .inl v.1)) rfl
        have hP : va_P D vwCl [(h0, .inr (10, [.ref h1, .ref h2, .ref h3, .ref h4, .ref h5, .ref h6, .int v.2.2.2.2.2.2.1, .ref h7, .ref h8, .ref h9, .ref h10, .int v.2.2.2.2.2.2.2.2.2.2.2.1, .int v.2.2.2.2.2.2.2.2.2.2.2.2.1, .int v.2.2.2.2.2.2.2.2.2.2.2.2.2.1, .ref h11, .int v.2.2.2.2.2.2.2.2.2.2.2.2.2.2.2])), (h1, .inl ((cA 1), 85, .inl v.1)), (h2, .inl ((cA 0), 9, .inr (.inl v.2.1))), (h3, .inl ((cA 1), 85, .inl v.1)), (h4, .inl ((cA 0), 9, .inr (.inl v.2.2.2.1))), (h5, .inl ((cA 1), 510, .inl v.2.2.2.2.1)), (h6, .inl ((cA 0), 54, .inr (.inl v.2.2.2.2.2.1))), (h7, .inl ((cA 1), 170, .inl v.2.2.2.2.2.2.2.1)), (h8, .inl ((cA 0), 18, .inr (.inl v.2.2.2.2.2.2.2.2.1))), (h9, .inl ((cA 2), 2, .inl v.2.2.2.2.2.2.2.2.2.1)), (h10, .inl ((cA 1), 80, .inl v.2.2.2.2.2.2.2.2.2.2.1)), (h11, .inl ((cA 1), 60, .inl v.2.2.2.2.2.2.2.2.2.2.2.2.2.2.1))] H := hP
        have hD : va_D A [(h0, .inr (10, [.ref h1, .ref h2, .ref h3, .ref h4, .ref h5, .ref h6, .int v.2.2.2.2.2.2.1, .ref h7, .ref h8, .ref h9, .ref h10, .int v.2.2.2.2.2.2.2.2.2.2.2.1, .int v.2.2.2.2.2.2.2.2.2.2.2.2.1, .int v.2.2.2.2.2.2.2.2.2.2.2.2.2.1, .ref h11, .int v.2.2.2.2.2.2.2.2.2.2.2.2.2.2.2])), (h1, .inl ((cA 1), 85, .inl v.1)), (h2, .inl ((cA 0), 9, .inr (.inl v.2.1))), (h3, .inl ((cA 1), 85, .inl v.1)), (h4, .inl ((cA 0), 9, .inr (.inl v.2.2.2.1))), (h5, .inl ((cA 1), 510, .inl v.2.2.2.2.1)), (h6, .inl ((cA 0), 54, .inr (.inl v.2.2.2.2.2.1))), (h7, .inl ((cA 1), 170, .inl v.2.2.2.2.2.2.2.1)), (h8, .inl ((cA 0), 18, .inr (.inl v.2.2.2.2.2.2.2.2.1))), (h9, .inl ((cA 2), 2, .inl v.2.2.2.2.2.2.2.2.2.1)), (h10, .inl ((cA 1), 80, .inl v.2.2.2.2.2.2.2.2.2.2.1)), (h11, .inl ((cA 1), 60, .inl v.2.2.2.2.2.2.2.2.2.2.2.2.2.2.1))] := hD
        refine lv_iconst (v := 0) hx hb dX10_putAside_26 (by decide) ?_
        refine lv_istore_n (lv' := [(1, .int (0 : Int32)), (0, .ref h0)]) hx hb dX10_putAside_27 rfl hl (by decide) rfl (fun ls hl => ?_)
        have L28 : ∀ (zn : Nat) (k : Nat), 9 - k < zn → (k ≤ 9) → ∀ (H : Heap) (locs : List Loc), va_P D vwCl [(h0, .inr (10, [.ref h1, .ref h2, .ref h3, .ref h4, .ref h5, .ref h6, .int v.2.2.2.2.2.2.1, .ref h7, .ref h8, .ref h9, .ref h10, .int v.2.2.2.2.2.2.2.2.2.2.2.1, .int v.2.2.2.2.2.2.2.2.2.2.2.2.1, .int v.2.2.2.2.2.2.2.2.2.2.2.2.2.1, .ref h11, .int v.2.2.2.2.2.2.2.2.2.2.2.2.2.2.2])), (h1, .inl ((cA 1), 85, .inl v.1)), (h2, .inl ((cA 0), 9, .inr (.inl v.2.1))), (h3, .inl ((cA 1), 85, .inl v.1)), (h4, .inl ((cA 0), 9, .inr (.inl (zcp k v.2.1 v.2.2.2.1)))), (h5, .inl ((cA 1), 510, .inl v.2.2.2.2.1)), (h6, .inl ((cA 0), 54, .inr (.inl v.2.2.2.2.2.1))), (h7, .inl ((cA 1), 170, .inl v.2.2.2.2.2.2.2.1)), (h8, .inl ((cA 0), 18, .inr (.inl v.2.2.2.2.2.2.2.2.1))), (h9, .inl ((cA 2), 2, .inl v.2.2.2.2.2.2.2.2.2.1)), (h10, .inl ((cA 1), 80, .inl v.2.2.2.2.2.2.2.2.2.2.1)), (h11, .inl ((cA 1), 60, .inl v.2.2.2.2.2.2.2.2.2.2.2.2.2.2.1))] H → va_D A [(h0, .inr (10, [.ref h1, .ref h2, .ref h3, .ref h4, .ref h5, .ref h6, .int v.2.2.2.2.2.2.1, .ref h7, .ref h8, .ref h9, .ref h10, .int v.2.2.2.2.2.2.2.2.2.2.2.1, .int v.2.2.2.2.2.2.2.2.2.2.2.2.1, .int v.2.2.2.2.2.2.2.2.2.2.2.2.2.1, .ref h11, .int v.2.2.2.2.2.2.2.2.2.2.2.2.2.2.2])), (h1, .inl ((cA 1), 85, .inl v.1)), (h2, .inl ((cA 0), 9, .inr (.inl v.2.1))), (h3, .inl ((cA 1), 85, .inl v.1)), (h4, .inl ((cA 0), 9, .inr (.inl (zcp k v.2.1 v.2.2.2.1)))), (h5, .inl ((cA 1), 510, .inl v.2.2.2.2.1)), (h6, .inl ((cA 0), 54, .inr (.inl v.2.2.2.2.2.1))), (h7, .inl ((cA 1), 170, .inl v.2.2.2.2.2.2.2.1)), (h8, .inl ((cA 0), 18, .inr (.inl v.2.2.2.2.2.2.2.2.1))), (h9, .inl ((cA 2), 2, .inl v.2.2.2.2.2.2.2.2.2.1)), (h10, .inl ((cA 1), 80, .inl v.2.2.2.2.2.2.2.2.2.2.1)), (h11, .inl ((cA 1), 60, .inl v.2.2.2.2.2.2.2.2.2.2.2.2.2.2.1))] → va_S A s.heap H locs → ∀ (ls : Array Slot), lv_has ls 2 [(1, .int (nI k)), (0, .ref h0)] → W p l e (headSpec wsX10_putAside ({ frames := 0, cells := 0, slots := 0, locals := 0 })).room s m (([.ref h0] : List Value).toArray) below meth c H locs 0 0 Q (F0 m 28 ls []) := by
          intro zn
          induction zn with
          | zero =>
            intro k hm
            exact absurd hm (Nat.not_lt_zero _)
          | succ zn ih =>
            intro k hm hk H locs hP hD hS ls hl
            refine lv_iload_n hx hb dX10_putAside_28 rfl (lv_at hl 0 rfl) ?_
            refine lv_bipush (v := 9) hx hb dX10_putAside_29 (by decide) ?_
            refine lv_icmp_ge (tgt := 52) hx hb dX10_putAside_31 (by decide) (fun c_2 => ?_) (fun c_2 => ?_)
            · skip
              obtain rfl : k = 9 := Nat.le_antisymm hk ((nI_leI (a := 9) (b := k) (by decide) (by omega)).mp c_2)
              have hP := z_reL (g := v.2.1) hP (k := 4) rfl (fun j hj => by show (zcp 9 v.2.1 v.2.2.2.1) j = v.2.1 j; unfold zcp; rw [if_pos hj])
              have hD := hD.set (p := 4) (e := .inl (cA 0, 9, .inr (.inl v.2.1))) rfl
              have hP : va_P D vwCl [(h0, .inr (10, [.ref h1, .ref h2, .ref h3, .ref h4, .ref h5, .ref h6, .int v.2.2.2.2.2.2.1, .ref h7, .ref h8, .ref h9, .ref h10, .int v.2.2.2.2.2.2.2.2.2.2.2.1, .int v.2.2.2.2.2.2.2.2.2.2.2.2.1, .int v.2.2.2.2.2.2.2.2.2.2.2.2.2.1, .ref h11, .int v.2.2.2.2.2.2.2.2.2.2.2.2.2.2.2])), (h1, .inl ((cA 1), 85, .inl v.1)), (h2, .inl ((cA 0), 9, .inr (.inl v.2.1))), (h3, .inl ((cA 1), 85, .inl v.1)), (h4, .inl ((cA 0), 9, .inr (.inl v.2.1))), (h5, .inl ((cA 1), 510, .inl v.2.2.2.2.1)), (h6, .inl ((cA 0), 54, .inr (.inl v.2.2.2.2.2.1))), (h7, .inl ((cA 1), 170, .inl v.2.2.2.2.2.2.2.1)), (h8, .inl ((cA 0), 18, .inr (.inl v.2.2.2.2.2.2.2.2.1))), (h9, .inl ((cA 2), 2, .inl v.2.2.2.2.2.2.2.2.2.1)), (h10, .inl ((cA 1), 80, .inl v.2.2.2.2.2.2.2.2.2.2.1)), (h11, .inl ((cA 1), 60, .inl v.2.2.2.2.2.2.2.2.2.2.2.2.2.2.1))] H := hP
              have hD : va_D A [(h0, .inr (10, [.ref h1, .ref h2, .ref h3, .ref h4, .ref h5, .ref h6, .int v.2.2.2.2.2.2.1, .ref h7, .ref h8, .ref h9, .ref h10, .int v.2.2.2.2.2.2.2.2.2.2.2.1, .int v.2.2.2.2.2.2.2.2.2.2.2.2.1, .int v.2.2.2.2.2.2.2.2.2.2.2.2.2.1, .ref h11, .int v.2.2.2.2.2.2.2.2.2.2.2.2.2.2.2])), (h1, .inl ((cA 1), 85, .inl v.1)), (h2, .inl ((cA 0), 9, .inr (.inl v.2.1))), (h3, .inl ((cA 1), 85, .inl v.1)), (h4, .inl ((cA 0), 9, .inr (.inl v.2.1))), (h5, .inl ((cA 1), 510, .inl v.2.2.2.2.1)), (h6, .inl ((cA 0), 54, .inr (.inl v.2.2.2.2.2.1))), (h7, .inl ((cA 1), 170, .inl v.2.2.2.2.2.2.2.1)), (h8, .inl ((cA 0), 18, .inr (.inl v.2.2.2.2.2.2.2.2.1))), (h9, .inl ((cA 2), 2, .inl v.2.2.2.2.2.2.2.2.2.1)), (h10, .inl ((cA 1), 80, .inl v.2.2.2.2.2.2.2.2.2.2.1)), (h11, .inl ((cA 1), 60, .inl v.2.2.2.2.2.2.2.2.2.2.2.2.2.2.1))] := hD
              have e9 : (fm_aside v) = (v.1, v.2.1, v.1, v.2.1, v.2.2.2.2) := rfl
              have hP9 : va_P D vwCl (wX10 cA h0 h1 h2 h3 h4 h5 h6 h7 h8 h9 h10 h11 ((v.1, v.2.1, v.1, v.2.1, v.2.2.2.2) : vX10)) H := hP
              have hD9 : va_D A (wX10 cA h0 h1 h2 h3 h4 h5 h6 h7 h8 h9 h10 h11 ((v.1, v.2.1, v.1, v.2.1, v.2.2.2.2) : vX10)) := hD
              subst hQ
              exact W.vret hx hb hr (fun t ht hW => ⟨⟨(v.1, v.2.1, v.1, v.2.1, v.2.2.2.2), rfl, e9.symm, ⟨by rw [ht]; exact hP9, va_K.moved hW.alike hK, hD9⟩⟩, hS.F ht⟩) hS.2.2 dX10_putAside_52
            · skip
              have hkl : k < 9 := Nat.lt_of_not_le (fun h => c_2 (nI_le (a := 9) (b := k) h (by omega)))
              refine lv_aload_n hx hb dX10_putAside_34 rfl (lv_at hl 1 rfl) ?_
              refine va_get (D := D) (ci := 10) (v := .ref h4) (C := RX10) (T := TX10) (N := 16) hx hb hts hinX10 hown hK hP 0 rfl rfl 3 (by decide) (hts (.fieldLink RX10 20 "GyroTrainerModel" "sumsAside" "[J") (List.mem_of_getElem? (i := 3) rfl)) (fun _ h9 => h9) rfl dX10_putAside_35 ?_
              refine lv_iload_n hx hb dX10_putAside_38 rfl (lv_at hl 0 rfl) ?_
              refine lv_aload_n hx hb dX10_putAside_39 rfl (lv_at hl 1 rfl) ?_
              refine va_get (D := D) (ci := 10) (v := .ref h2) (C := RX10) (T := TX10) (N := 16) hx hb hts hinX10 hown hK hP 0 rfl rfl 1 (by decide) (hts (.fieldLink RX10 13 "GyroTrainerModel" "sums" "[J") (List.mem_of_getElem? (i := 4) rfl)) (fun _ h9 => h9) rfl dX10_putAside_40 ?_
              refine lv_iload_n hx hb dX10_putAside_43 rfl (lv_at hl 0 rfl) ?_
              refine z_lald (k := k) hx hb hK hP 2 0 rfl rfl rfl (by omega) (by decide) dX10_putAside_44 ?_
              refine z_last (k := k) hx hb hK hP hD hS 4 0 rfl rfl rfl (by omega) (by decide) dX10_putAside_45 (fun g_3 eg_3 H locs hP hD hS => ?_)
              have hP : va_P D vwCl [(h0, .inr (10, [.ref h1, .ref h2, .ref h3, .ref h4, .ref h5, .ref h6, .int v.2.2.2.2.2.2.1, .ref h7, .ref h8, .ref h9, .ref h10, .int v.2.2.2.2.2.2.2.2.2.2.2.1, .int v.2.2.2.2.2.2.2.2.2.2.2.2.1, .int v.2.2.2.2.2.2.2.2.2.2.2.2.2.1, .ref h11, .int v.2.2.2.2.2.2.2.2.2.2.2.2.2.2.2])), (h1, .inl ((cA 1), 85, .inl v.1)), (h2, .inl ((cA 0), 9, .inr (.inl v.2.1))), (h3, .inl ((cA 1), 85, .inl v.1)), (h4, .inl ((cA 0), 9, .inr (.inl g_3))), (h5, .inl ((cA 1), 510, .inl v.2.2.2.2.1)), (h6, .inl ((cA 0), 54, .inr (.inl v.2.2.2.2.2.1))), (h7, .inl ((cA 1), 170, .inl v.2.2.2.2.2.2.2.1)), (h8, .inl ((cA 0), 18, .inr (.inl v.2.2.2.2.2.2.2.2.1))), (h9, .inl ((cA 2), 2, .inl v.2.2.2.2.2.2.2.2.2.1)), (h10, .inl ((cA 1), 80, .inl v.2.2.2.2.2.2.2.2.2.2.1)), (h11, .inl ((cA 1), 60, .inl v.2.2.2.2.2.2.2.2.2.2.2.2.2.2.1))] H := hP
              have hD : va_D A [(h0, .inr (10, [.ref h1, .ref h2, .ref h3, .ref h4, .ref h5, .ref h6, .int v.2.2.2.2.2.2.1, .ref h7, .ref h8, .ref h9, .ref h10, .int v.2.2.2.2.2.2.2.2.2.2.2.1, .int v.2.2.2.2.2.2.2.2.2.2.2.2.1, .int v.2.2.2.2.2.2.2.2.2.2.2.2.2.1, .ref h11, .int v.2.2.2.2.2.2.2.2.2.2.2.2.2.2.2])), (h1, .inl ((cA 1), 85, .inl v.1)), (h2, .inl ((cA 0), 9, .inr (.inl v.2.1))), (h3, .inl ((cA 1), 85, .inl v.1)), (h4, .inl ((cA 0), 9, .inr (.inl g_3))), (h5, .inl ((cA 1), 510, .inl v.2.2.2.2.1)), (h6, .inl ((cA 0), 54, .inr (.inl v.2.2.2.2.2.1))), (h7, .inl ((cA 1), 170, .inl v.2.2.2.2.2.2.2.1)), (h8, .inl ((cA 0), 18, .inr (.inl v.2.2.2.2.2.2.2.2.1))), (h9, .inl ((cA 2), 2, .inl v.2.2.2.2.2.2.2.2.2.1)), (h10, .inl ((cA 1), 80, .inl v.2.2.2.2.2.2.2.2.2.2.1)), (h11, .inl ((cA 1), 60, .inl v.2.2.2.2.2.2.2.2.2.2.2.2.2.2.1))] := hD
              refine lv_iinc (v := (nI (k + 1))) (lv' := [(1, .int (nI (k + 1))), (0, .ref h0)]) hx hb dX10_putAside_46 hl (k := 0) rfl (nI_1 k) (by decide) rfl (fun ls hl => ?_)
              refine lv_goto (tgt := 28) hx hb dX10_putAside_49 (by decide) ?_
              exact ih (k + 1) (by omega) (by omega) _ _ (by rw [← zcp_s, ← eg_3]; exact hP) (by rw [← zcp_s, ← eg_3]; exact hD) hS ls (lv_sub hl [0, 1] rfl)
        exact L28 (9 + 1) (0) (by omega) (Nat.zero_le _) _ _ (by rw [zcp_0]; exact hP) (by rw [zcp_0]; exact hD) hS ls (lv_sub hl [0, 1] rfl)
      · skip
        have hkl : k < 85 := Nat.lt_of_not_le (fun h => c_1 (nI_le (a := 85) (b := k) h (by omega)))
        refine lv_aload_n hx hb dX10_putAside_8 rfl (lv_at hl 1 rfl) ?_
        refine va_get (D := D) (ci := 10) (v := .ref h3) (C := RX10) (T := TX10) (N := 16) hx hb hts hinX10 hown hK hP 0 rfl rfl 2 (by decide) (hts (.fieldLink RX10 17 "GyroTrainerModel" "aside" "[I") (List.mem_of_getElem? (i := 1) rfl)) (fun _ h9 => h9) rfl dX10_putAside_9 ?_
        refine lv_iload_n hx hb dX10_putAside_12 rfl (lv_at hl 0 rfl) ?_
        refine lv_aload_n hx hb dX10_putAside_13 rfl (lv_at hl 1 rfl) ?_
        refine va_get (D := D) (ci := 10) (v := .ref h1) (C := RX10) (T := TX10) (N := 16) hx hb hts hinX10 hown hK hP 0 rfl rfl 0 (by decide) (hts (.fieldLink RX10 7 "GyroTrainerModel" "at" "[I") (List.mem_of_getElem? (i := 2) rfl)) (fun _ h9 => h9) rfl dX10_putAside_14 ?_
        refine lv_iload_n hx hb dX10_putAside_17 rfl (lv_at hl 0 rfl) ?_
        refine z_iald (k := k) hx hb hK hP 1 1 rfl rfl rfl (by omega) (by decide) dX10_putAside_18 ?_
        refine z_iast (k := k) hx hb hK hP hD hS 3 1 rfl rfl rfl (by omega) (by decide) dX10_putAside_19 (fun g_4 eg_4 H locs hP hD hS => ?_)
        have hP : va_P D vwCl [(h0, .inr (10, [.ref h1, .ref h2, .ref h3, .ref h4, .ref h5, .ref h6, .int v.2.2.2.2.2.2.1, .ref h7, .ref h8, .ref h9, .ref h10, .int v.2.2.2.2.2.2.2.2.2.2.2.1, .int v.2.2.2.2.2.2.2.2.2.2.2.2.1, .int v.2.2.2.2.2.2.2.2.2.2.2.2.2.1, .ref h11, .int v.2.2.2.2.2.2.2.2.2.2.2.2.2.2.2])), (h1, .inl ((cA 1), 85, .inl v.1)), (h2, .inl ((cA 0), 9, .inr (.inl v.2.1))), (h3, .inl ((cA 1), 85, .inl g_4)), (h4, .inl ((cA 0), 9, .inr (.inl v.2.2.2.1))), (h5, .inl ((cA 1), 510, .inl v.2.2.2.2.1)), (h6, .inl ((cA 0), 54, .inr (.inl v.2.2.2.2.2.1))), (h7, .inl ((cA 1), 170, .inl v.2.2.2.2.2.2.2.1)), (h8, .inl ((cA 0), 18, .inr (.inl v.2.2.2.2.2.2.2.2.1))), (h9, .inl ((cA 2), 2, .inl v.2.2.2.2.2.2.2.2.2.1)), (h10, .inl ((cA 1), 80, .inl v.2.2.2.2.2.2.2.2.2.2.1)), (h11, .inl ((cA 1), 60, .inl v.2.2.2.2.2.2.2.2.2.2.2.2.2.2.1))] H := hP
        have hD : va_D A [(h0, .inr (10, [.ref h1, .ref h2, .ref h3, .ref h4, .ref h5, .ref h6, .int v.2.2.2.2.2.2.1, .ref h7, .ref h8, .ref h9, .ref h10, .int v.2.2.2.2.2.2.2.2.2.2.2.1, .int v.2.2.2.2.2.2.2.2.2.2.2.2.1, .int v.2.2.2.2.2.2.2.2.2.2.2.2.2.1, .ref h11, .int v.2.2.2.2.2.2.2.2.2.2.2.2.2.2.2])), (h1, .inl ((cA 1), 85, .inl v.1)), (h2, .inl ((cA 0), 9, .inr (.inl v.2.1))), (h3, .inl ((cA 1), 85, .inl g_4)), (h4, .inl ((cA 0), 9, .inr (.inl v.2.2.2.1))), (h5, .inl ((cA 1), 510, .inl v.2.2.2.2.1)), (h6, .inl ((cA 0), 54, .inr (.inl v.2.2.2.2.2.1))), (h7, .inl ((cA 1), 170, .inl v.2.2.2.2.2.2.2.1)), (h8, .inl ((cA 0), 18, .inr (.inl v.2.2.2.2.2.2.2.2.1))), (h9, .inl ((cA 2), 2, .inl v.2.2.2.2.2.2.2.2.2.1)), (h10, .inl ((cA 1), 80, .inl v.2.2.2.2.2.2.2.2.2.2.1)), (h11, .inl ((cA 1), 60, .inl v.2.2.2.2.2.2.2.2.2.2.2.2.2.2.1))] := hD
        refine lv_iinc (v := (nI (k + 1))) (lv' := [(1, .int (nI (k + 1))), (0, .ref h0)]) hx hb dX10_putAside_20 hl (k := 0) rfl (nI_1 k) (by decide) rfl (fun ls hl => ?_)
        refine lv_goto (tgt := 2) hx hb dX10_putAside_23 (by decide) ?_
        exact ih (k + 1) (by omega) (by omega) _ _ (by rw [← zcp_sI, ← eg_4]; exact hP) (by rw [← zcp_sI, ← eg_4]; exact hD) hS ls (lv_sub hl [0, 1] rfl)
  exact L2 (85 + 1) (0) (by omega) (Nat.zero_le _) _ _ (by rw [zcp_0]; exact hP) (by rw [zcp_0]; exact hD) hS ls (lv_sub hl [0, 1] rfl)
set_option maxHeartbeats 4000000 in
set_option maxRecDepth 100000 in
theorem c_X10_putBack (l : Launch) (D : va_G) (cA : Nat → ClassId) (h0 h1 h2 h3 h4 h5 h6 h7 h8 h9 h10 h11 : Nat) (sz : Nat) (v : vX10)  : Met l yX10_putBack wsX10_putBack ({ frames := 0, cells := 0, slots := 0, locals := 0 }) (va_Pc [.ref h0] (zPre D (zty cA) (wX10 cA h0 h1 h2 h3 h4 h5 h6 h7 h8 h9 h10 h11 v) sz)) (va_Qv (fun (u : vX10) => u = (fm_back v)) (fun u => zPost D (zty cA) (va_A (wX10 cA h0 h1 h2 h3 h4 h5 h6 h7 h8 h9 h10 h11 v) sz) (wX10 cA h0 h1 h2 h3 h4 h5 h6 h7 h8 h9 h10 h11 u)) (va_A (wX10 cA h0 h1 h2 h3 h4 h5 h6 h7 h8 h9 h10 h11 v) sz)) 0 0 (va_A (wX10 cA h0 h1 h2 h3 h4 h5 h6 h7 h8 h9 h10 h11 v) sz) := by
  refine Met.ofW (cc := cX10_putBack) (maxL := 2) (ret := none) (by decide) rfl ?_
  intro p e s m args below meth c s₁ B hml hv
  obtain ⟨rfl, hsz, hP, hK, hD0, hE⟩ := hv
  have hx := B.exec
  have hb := B.bytes
  have hr := B.returns
  have hts := atoms_spec (ws := wsX10_putBack) B.pre
  have hown : s.vm.findClass RX10 = some m.cls := findClass_of_methodNamed B.named
  have hlocks := B.notSynchronized
  have hinX10 : ∀ w ∈ u_ws RX10 TX10 16, w ∈ wsX10_putBack := fun w h => List.mem_cons_of_mem _ (List.mem_append_right _ h)
  subst hsz
  have hD := hD0.self (sz := s.heap.size)
  generalize hAe : va_A (wX10 cA h0 h1 h2 h3 h4 h5 h6 h7 h8 h9 h10 h11 v) s.heap.size = A at hD hE ⊢
  have hA : ∀ q : Nat, s.heap.size ≤ q → A q := fun q h => by rw [← hAe]; exact Or.inr h
  have hS : va_S A s.heap s.heap [] := va_S.rf
  have hN : zN s := hE.1
  have hP : va_P D vwCl [(h0, .inr (10, [.ref h1, .ref h2, .ref h3, .ref h4, .ref h5, .ref h6, .int v.2.2.2.2.2.2.1, .ref h7, .ref h8, .ref h9, .ref h10, .int v.2.2.2.2.2.2.2.2.2.2.2.1, .int v.2.2.2.2.2.2.2.2.2.2.2.2.1, .int v.2.2.2.2.2.2.2.2.2.2.2.2.2.1, .ref h11, .int v.2.2.2.2.2.2.2.2.2.2.2.2.2.2.2])), (h1, .inl ((cA 1), 85, .inl v.1)), (h2, .inl ((cA 0), 9, .inr (.inl v.2.1))), (h3, .inl ((cA 1), 85, .inl v.2.2.1)), (h4, .inl ((cA 0), 9, .inr (.inl v.2.2.2.1))), (h5, .inl ((cA 1), 510, .inl v.2.2.2.2.1)), (h6, .inl ((cA 0), 54, .inr (.inl v.2.2.2.2.2.1))), (h7, .inl ((cA 1), 170, .inl v.2.2.2.2.2.2.2.1)), (h8, .inl ((cA 0), 18, .inr (.inl v.2.2.2.2.2.2.2.2.1))), (h9, .inl ((cA 2), 2, .inl v.2.2.2.2.2.2.2.2.2.1)), (h10, .inl ((cA 1), 80, .inl v.2.2.2.2.2.2.2.2.2.2.1)), (h11, .inl ((cA 1), 60, .inl v.2.2.2.2.2.2.2.2.2.2.2.2.2.2.1))] s.heap := hP
  have hD : va_D A [(h0, .inr (10, [.ref h1, .ref h2, .ref h3, .ref h4, .ref h5, .ref h6, .int v.2.2.2.2.2.2.1, .ref h7, .ref h8, .ref h9, .ref h10, .int v.2.2.2.2.2.2.2.2.2.2.2.1, .int v.2.2.2.2.2.2.2.2.2.2.2.2.1, .int v.2.2.2.2.2.2.2.2.2.2.2.2.2.1, .ref h11, .int v.2.2.2.2.2.2.2.2.2.2.2.2.2.2.2])), (h1, .inl ((cA 1), 85, .inl v.1)), (h2, .inl ((cA 0), 9, .inr (.inl v.2.1))), (h3, .inl ((cA 1), 85, .inl v.2.2.1)), (h4, .inl ((cA 0), 9, .inr (.inl v.2.2.2.1))), (h5, .inl ((cA 1), 510, .inl v.2.2.2.2.1)), (h6, .inl ((cA 0), 54, .inr (.inl v.2.2.2.2.2.1))), (h7, .inl ((cA 1), 170, .inl v.2.2.2.2.2.2.2.1)), (h8, .inl ((cA 0), 18, .inr (.inl v.2.2.2.2.2.2.2.2.1))), (h9, .inl ((cA 2), 2, .inl v.2.2.2.2.2.2.2.2.2.1)), (h10, .inl ((cA 1), 80, .inl v.2.2.2.2.2.2.2.2.2.2.1)), (h11, .inl ((cA 1), 60, .inl v.2.2.2.2.2.2.2.2.2.2.2.2.2.2.1))] := hD
  have hl := lv_entry ([.ref h0]) (n := 2) (Nat.le_of_ble_eq_true rfl)
  rw [lg_entry_eq]
  generalize (lg_sl ([.ref h0]) ++ List.replicate (2 - (lg_sl ([.ref h0])).length) Slot.unset).toArray = ls at hl ⊢
  have hl : lv_has ls 2 [(0, .ref h0)] := hl
  refine z_genQ (fun Q hQ => ?_)
  refine lv_iconst (v := 0) hx hb dX10_putBack_0 (by decide) ?_
  refine lv_istore_n (lv' := [(1, .int (0 : Int32)), (0, .ref h0)]) hx hb dX10_putBack_1 rfl hl (by decide) rfl (fun ls hl => ?_)
  have L2 : ∀ (zn : Nat) (k : Nat), 85 - k < zn → (k ≤ 85) → ∀ (H : Heap) (locs : List Loc), va_P D vwCl [(h0, .inr (10, [.ref h1, .ref h2, .ref h3, .ref h4, .ref h5, .ref h6, .int v.2.2.2.2.2.2.1, .ref h7, .ref h8, .ref h9, .ref h10, .int v.2.2.2.2.2.2.2.2.2.2.2.1, .int v.2.2.2.2.2.2.2.2.2.2.2.2.1, .int v.2.2.2.2.2.2.2.2.2.2.2.2.2.1, .ref h11, .int v.2.2.2.2.2.2.2.2.2.2.2.2.2.2.2])), (h1, .inl ((cA 1), 85, .inl (zcp k v.2.2.1 v.1))), (h2, .inl ((cA 0), 9, .inr (.inl v.2.1))), (h3, .inl ((cA 1), 85, .inl v.2.2.1)), (h4, .inl ((cA 0), 9, .inr (.inl v.2.2.2.1))), (h5, .inl ((cA 1), 510, .inl v.2.2.2.2.1)), (h6, .inl ((cA 0), 54, .inr (.inl v.2.2.2.2.2.1))), (h7, .inl ((cA 1), 170, .inl v.2.2.2.2.2.2.2.1)), (h8, .inl ((cA 0), 18, .inr (.inl v.2.2.2.2.2.2.2.2.1))), (h9, .inl ((cA 2), 2, .inl v.2.2.2.2.2.2.2.2.2.1)), (h10, .inl ((cA 1), 80, .inl v.2.2.2.2.2.2.2.2.2.2.1)), (h11, .inl ((cA 1), 60, .inl v.2.2.2.2.2.2.2.2.2.2.2.2.2.2.1))] H → va_D A [(h0, .inr (10, [.ref h1, .ref h2, .ref h3, .ref h4, .ref h5, .ref h6, .int v.2.2.2.2.2.2.1, .ref h7, .ref h8, .ref h9, .ref h10, .int v.2.2.2.2.2.2.2.2.2.2.2.1, .int v.2.2.2.2.2.2.2.2.2.2.2.2.1, .int v.2.2.2.2.2.2.2.2.2.2.2.2.2.1, .ref h11, .int v.2.2.2.2.2.2.2.2.2.2.2.2.2.2.2])), (h1, .inl ((cA 1), 85, .inl (zcp k v.2.2.1 v.1))), (h2, .inl ((cA 0), 9, .inr (.inl v.2.1))), (h3, .inl ((cA 1), 85, .inl v.2.2.1)), (h4, .inl ((cA 0), 9, .inr (.inl v.2.2.2.1))), (h5, .inl ((cA 1), 510, .inl v.2.2.2.2.1)), (h6, .inl ((cA 0), 54, .inr (.inl v.2.2.2.2.2.1))), (h7, .inl ((cA 1), 170, .inl v.2.2.2.2.2.2.2.1)), (h8, .inl ((cA 0), 18, .inr (.inl v.2.2.2.2.2.2.2.2.1))), (h9, .inl ((cA 2), 2, .inl v.2.2.2.2.2.2.2.2.2.1)), (h10, .inl ((cA 1), 80, .inl v.2.2.2.2.2.2.2.2.2.2.1)), (h11, .inl ((cA 1), 60, .inl v.2.2.2.2.2.2.2.2.2.2.2.2.2.2.1))] → va_S A s.heap H locs → ∀ (ls : Array Slot), lv_has ls 2 [(1, .int (nI k)), (0, .ref h0)] → W p l e (headSpec wsX10_putBack ({ frames := 0, cells := 0, slots := 0, locals := 0 })).room s m (([.ref h0] : List Value).toArray) below meth c H locs 0 0 Q (F0 m 2 ls []) := by
    intro zn
    induction zn with
    | zero =>
      intro k hm
      exact absurd hm (Nat.not_lt_zero _)
    | succ zn ih =>
      intro k hm hk H locs hP hD hS ls hl
      refine lv_iload_n hx hb dX10_putBack_2 rfl (lv_at hl 0 rfl) ?_
      refine lv_bipush (v := 85) hx hb dX10_putBack_3 (by decide) ?_
      refine lv_icmp_ge (tgt := 26) hx hb dX10_putBack_5 (by decide) (fun c_1 => ?_) (fun c_1 => ?_)
      · skip
        obtain rfl : k = 85 := Nat.le_antisymm hk ((nI_leI (a := 85) (b := k) (by decide) (by omega)).mp c_1)
        have hP := z_reI (g := v.2.2.1) hP (k := 1) rfl (fun j hj => by show (zcp 85 v.2.2.1 v.1) j = v.2.2.1 j; unfold zcp; rw [if_pos hj])
        have hD := hD.set (p := 1) (e := .inl (cA 1, 85, .inl v.2.2.1)) rfl
        have hP : va_P D vwCl [(h0, .inr (10, [.ref h1, .ref h2, .ref h3, .ref h4, .ref h5, .ref h6, .int v.2.2.2.2.2.2.1, .ref h7, .ref h8, .ref h9, .ref h10, .int v.2.2.2.2.2.2.2.2.2.2.2.1, .int v.2.2.2.2.2.2.2.2.2.2.2.2.1, .int v.2.2.2.2.2.2.2.2.2.2.2.2.2.1, .ref h11, .int v.2.2.2.2.2.2.2.2.2.2.2.2.2.2.2])), (h1, .inl ((cA 1), 85, .inl v.2.2.1)), (h2, .inl ((cA 0), 9, .inr (.inl v.2.1))), (h3, .inl ((cA 1), 85, .inl v.2.2.1)), (h4, .inl ((cA 0), 9, .inr (.inl v.2.2.2.1))), (h5, .inl ((cA 1), 510, .inl v.2.2.2.2.1)), (h6, .inl ((cA 0), 54, .inr (.inl v.2.2.2.2.2.1))), (h7, .inl ((cA 1), 170, .inl v.2.2.2.2.2.2.2.1)), (h8, .inl ((cA 0), 18, .inr (.inl v.2.2.2.2.2.2.2.2.1))), (h9, .inl ((cA 2), 2, .inl v.2.2.2.2.2.2.2.2.2.1)), (h10, .inl ((cA 1), 80, .inl v.2.2.2.2.2.2.2.2.2.2.1)), (h11, .inl ((cA 1), 60, .inl v.2.2.2.2.2.2.2.2.2.2.2.2.2.2.1))] H := hP
        have hD : va_D A [(h0, .inr (10, [.ref h1, .ref h2, .ref h3, .ref h4, .ref h5, .ref h6, .int v.2.2.2.2.2.2.1, .ref h7, .ref h8, .ref h9, .ref h10, .int v.2.2.2.2.2.2.2.2.2.2.2.1, .int v.2.2.2.2.2.2.2.2.2.2.2.2.1, .int v.2.2.2.2.2.2.2.2.2.2.2.2.2.1, .ref h11, .int v.2.2.2.2.2.2.2.2.2.2.2.2.2.2.2])), (h1, .inl ((cA 1), 85, .inl v.2.2.1)), (h2, .inl ((cA 0), 9, .inr (.inl v.2.1))), (h3, .inl ((cA 1), 85, .inl v.2.2.1)), (h4, .inl ((cA 0), 9, .inr (.inl v.2.2.2.1))), (h5, .inl ((cA 1), 510, .inl v.2.2.2.2.1)), (h6, .inl ((cA 0), 54, .inr (.inl v.2.2.2.2.2.1))), (h7, .inl ((cA 1), 170, .inl v.2.2.2.2.2.2.2.1)), (h8, .inl ((cA 0), 18, .inr (.inl v.2.2.2.2.2.2.2.2.1))), (h9, .inl ((cA 2), 2, .inl v.2.2.2.2.2.2.2.2.2.1)), (h10, .inl ((cA 1), 80, .inl v.2.2.2.2.2.2.2.2.2.2.1)), (h11, .inl ((cA 1), 60, .inl v.2.2.2.2.2.2.2.2.2.2.2.2.2.2.1))] := hD
        refine lv_iconst (v := 0) hx hb dX10_putBack_26 (by decide) ?_
        refine lv_istore_n (lv' := [(1, .int (0 : Int32)), (0, .ref h0)]) hx hb dX10_putBack_27 rfl hl (by decide) rfl (fun ls hl => ?_)
        have L28 : ∀ (zn : Nat) (k : Nat), 9 - k < zn → (k ≤ 9) → ∀ (H : Heap) (locs : List Loc), va_P D vwCl [(h0, .inr (10, [.ref h1, .ref h2, .ref h3, .ref h4, .ref h5, .ref h6, .int v.2.2.2.2.2.2.1, .ref h7, .ref h8, .ref h9, .ref h10, .int v.2.2.2.2.2.2.2.2.2.2.2.1, .int v.2.2.2.2.2.2.2.2.2.2.2.2.1, .int v.2.2.2.2.2.2.2.2.2.2.2.2.2.1, .ref h11, .int v.2.2.2.2.2.2.2.2.2.2.2.2.2.2.2])), (h1, .inl ((cA 1), 85, .inl v.2.2.1)), (h2, .inl ((cA 0), 9, .inr (.inl (zcp k v.2.2.2.1 v.2.1)))), (h3, .inl ((cA 1), 85, .inl v.2.2.1)), (h4, .inl ((cA 0), 9, .inr (.inl v.2.2.2.1))), (h5, .inl ((cA 1), 510, .inl v.2.2.2.2.1)), (h6, .inl ((cA 0), 54, .inr (.inl v.2.2.2.2.2.1))), (h7, .inl ((cA 1), 170, .inl v.2.2.2.2.2.2.2.1)), (h8, .inl ((cA 0), 18, .inr (.inl v.2.2.2.2.2.2.2.2.1))), (h9, .inl ((cA 2), 2, .inl v.2.2.2.2.2.2.2.2.2.1)), (h10, .inl ((cA 1), 80, .inl v.2.2.2.2.2.2.2.2.2.2.1)), (h11, .inl ((cA 1), 60, .inl v.2.2.2.2.2.2.2.2.2.2.2.2.2.2.1))] H → va_D A [(h0, .inr (10, [.ref h1, .ref h2, .ref h3, .ref h4, .ref h5, .ref h6, .int v.2.2.2.2.2.2.1, .ref h7, .ref h8, .ref h9, .ref h10, .int v.2.2.2.2.2.2.2.2.2.2.2.1, .int v.2.2.2.2.2.2.2.2.2.2.2.2.1, .int v.2.2.2.2.2.2.2.2.2.2.2.2.2.1, .ref h11, .int v.2.2.2.2.2.2.2.2.2.2.2.2.2.2.2])), (h1, .inl ((cA 1), 85, .inl v.2.2.1)), (h2, .inl ((cA 0), 9, .inr (.inl (zcp k v.2.2.2.1 v.2.1)))), (h3, .inl ((cA 1), 85, .inl v.2.2.1)), (h4, .inl ((cA 0), 9, .inr (.inl v.2.2.2.1))), (h5, .inl ((cA 1), 510, .inl v.2.2.2.2.1)), (h6, .inl ((cA 0), 54, .inr (.inl v.2.2.2.2.2.1))), (h7, .inl ((cA 1), 170, .inl v.2.2.2.2.2.2.2.1)), (h8, .inl ((cA 0), 18, .inr (.inl v.2.2.2.2.2.2.2.2.1))), (h9, .inl ((cA 2), 2, .inl v.2.2.2.2.2.2.2.2.2.1)), (h10, .inl ((cA 1), 80, .inl v.2.2.2.2.2.2.2.2.2.2.1)), (h11, .inl ((cA 1), 60, .inl v.2.2.2.2.2.2.2.2.2.2.2.2.2.2.1))] → va_S A s.heap H locs → ∀ (ls : Array Slot), lv_has ls 2 [(1, .int (nI k)), (0, .ref h0)] → W p l e (headSpec wsX10_putBack ({ frames := 0, cells := 0, slots := 0, locals := 0 })).room s m (([.ref h0] : List Value).toArray) below meth c H locs 0 0 Q (F0 m 28 ls []) := by
          intro zn
          induction zn with
          | zero =>
            intro k hm
            exact absurd hm (Nat.not_lt_zero _)
          | succ zn ih =>
            intro k hm hk H locs hP hD hS ls hl
            refine lv_iload_n hx hb dX10_putBack_28 rfl (lv_at hl 0 rfl) ?_
            refine lv_bipush (v := 9) hx hb dX10_putBack_29 (by decide) ?_
            refine lv_icmp_ge (tgt := 52) hx hb dX10_putBack_31 (by decide) (fun c_2 => ?_) (fun c_2 => ?_)
            · skip
              obtain rfl : k = 9 := Nat.le_antisymm hk ((nI_leI (a := 9) (b := k) (by decide) (by omega)).mp c_2)
              have hP := z_reL (g := v.2.2.2.1) hP (k := 2) rfl (fun j hj => by show (zcp 9 v.2.2.2.1 v.2.1) j = v.2.2.2.1 j; unfold zcp; rw [if_pos hj])
              have hD := hD.set (p := 2) (e := .inl (cA 0, 9, .inr (.inl v.2.2.2.1))) rfl
              have hP : va_P D vwCl [(h0, .inr (10, [.ref h1, .ref h2, .ref h3, .ref h4, .ref h5, .ref h6, .int v.2.2.2.2.2.2.1, .ref h7, .ref h8, .ref h9, .ref h10, .int v.2.2.2.2.2.2.2.2.2.2.2.1, .int v.2.2.2.2.2.2.2.2.2.2.2.2.1, .int v.2.2.2.2.2.2.2.2.2.2.2.2.2.1, .ref h11, .int v.2.2.2.2.2.2.2.2.2.2.2.2.2.2.2])), (h1, .inl ((cA 1), 85, .inl v.2.2.1)), (h2, .inl ((cA 0), 9, .inr (.inl v.2.2.2.1))), (h3, .inl ((cA 1), 85, .inl v.2.2.1)), (h4, .inl ((cA 0), 9, .inr (.inl v.2.2.2.1))), (h5, .inl ((cA 1), 510, .inl v.2.2.2.2.1)), (h6, .inl ((cA 0), 54, .inr (.inl v.2.2.2.2.2.1))), (h7, .inl ((cA 1), 170, .inl v.2.2.2.2.2.2.2.1)), (h8, .inl ((cA 0), 18, .inr (.inl v.2.2.2.2.2.2.2.2.1))), (h9, .inl ((cA 2), 2, .inl v.2.2.2.2.2.2.2.2.2.1)), (h10, .inl ((cA 1), 80, .inl v.2.2.2.2.2.2.2.2.2.2.1)), (h11, .inl ((cA 1), 60, .inl v.2.2.2.2.2.2.2.2.2.2.2.2.2.2.1))] H := hP
              have hD : va_D A [(h0, .inr (10, [.ref h1, .ref h2, .ref h3, .ref h4, .ref h5, .ref h6, .int v.2.2.2.2.2.2.1, .ref h7, .ref h8, .ref h9, .ref h10, .int v.2.2.2.2.2.2.2.2.2.2.2.1, .int v.2.2.2.2.2.2.2.2.2.2.2.2.1, .int v.2.2.2.2.2.2.2.2.2.2.2.2.2.1, .ref h11, .int v.2.2.2.2.2.2.2.2.2.2.2.2.2.2.2])), (h1, .inl ((cA 1), 85, .inl v.2.2.1)), (h2, .inl ((cA 0), 9, .inr (.inl v.2.2.2.1))), (h3, .inl ((cA 1), 85, .inl v.2.2.1)), (h4, .inl ((cA 0), 9, .inr (.inl v.2.2.2.1))), (h5, .inl ((cA 1), 510, .inl v.2.2.2.2.1)), (h6, .inl ((cA 0), 54, .inr (.inl v.2.2.2.2.2.1))), (h7, .inl ((cA 1), 170, .inl v.2.2.2.2.2.2.2.1)), (h8, .inl ((cA 0), 18, .inr (.inl v.2.2.2.2.2.2.2.2.1))), (h9, .inl ((cA 2), 2, .inl v.2.2.2.2.2.2.2.2.2.1)), (h10, .inl ((cA 1), 80, .inl v.2.2.2.2.2.2.2.2.2.2.1)), (h11, .inl ((cA 1), 60, .inl v.2.2.2.2.2.2.2.2.2.2.2.2.2.2.1))] := hD
              have e9 : (fm_back v) = (v.2.2.1, v.2.2.2.1, v.2.2) := rfl
              have hP9 : va_P D vwCl (wX10 cA h0 h1 h2 h3 h4 h5 h6 h7 h8 h9 h10 h11 ((v.2.2.1, v.2.2.2.1, v.2.2) : vX10)) H := hP
              have hD9 : va_D A (wX10 cA h0 h1 h2 h3 h4 h5 h6 h7 h8 h9 h10 h11 ((v.2.2.1, v.2.2.2.1, v.2.2) : vX10)) := hD
              subst hQ
              exact W.vret hx hb hr (fun t ht hW => ⟨⟨(v.2.2.1, v.2.2.2.1, v.2.2), rfl, e9.symm, ⟨by rw [ht]; exact hP9, va_K.moved hW.alike hK, hD9⟩⟩, hS.F ht⟩) hS.2.2 dX10_putBack_52
            · skip
              have hkl : k < 9 := Nat.lt_of_not_le (fun h => c_2 (nI_le (a := 9) (b := k) h (by omega)))
              refine lv_aload_n hx hb dX10_putBack_34 rfl (lv_at hl 1 rfl) ?_
              refine va_get (D := D) (ci := 10) (v := .ref h2) (C := RX10) (T := TX10) (N := 16) hx hb hts hinX10 hown hK hP 0 rfl rfl 1 (by decide) (hts (.fieldLink RX10 13 "GyroTrainerModel" "sums" "[J") (List.mem_of_getElem? (i := 3) rfl)) (fun _ h9 => h9) rfl dX10_putBack_35 ?_
              refine lv_iload_n hx hb dX10_putBack_38 rfl (lv_at hl 0 rfl) ?_
              refine lv_aload_n hx hb dX10_putBack_39 rfl (lv_at hl 1 rfl) ?_
              refine va_get (D := D) (ci := 10) (v := .ref h4) (C := RX10) (T := TX10) (N := 16) hx hb hts hinX10 hown hK hP 0 rfl rfl 3 (by decide) (hts (.fieldLink RX10 20 "GyroTrainerModel" "sumsAside" "[J") (List.mem_of_getElem? (i := 4) rfl)) (fun _ h9 => h9) rfl dX10_putBack_40 ?_
              refine lv_iload_n hx hb dX10_putBack_43 rfl (lv_at hl 0 rfl) ?_
              refine z_lald (k := k) hx hb hK hP 4 0 rfl rfl rfl (by omega) (by decide) dX10_putBack_44 ?_
              refine z_last (k := k) hx hb hK hP hD hS 2 0 rfl rfl rfl (by omega) (by decide) dX10_putBack_45 (fun g_3 eg_3 H locs hP hD hS => ?_)
              have hP : va_P D vwCl [(h0, .inr (10, [.ref h1, .ref h2, .ref h3, .ref h4, .ref h5, .ref h6, .int v.2.2.2.2.2.2.1, .ref h7, .ref h8, .ref h9, .ref h10, .int v.2.2.2.2.2.2.2.2.2.2.2.1, .int v.2.2.2.2.2.2.2.2.2.2.2.2.1, .int v.2.2.2.2.2.2.2.2.2.2.2.2.2.1, .ref h11, .int v.2.2.2.2.2.2.2.2.2.2.2.2.2.2.2])), (h1, .inl ((cA 1), 85, .inl v.2.2.1)), (h2, .inl ((cA 0), 9, .inr (.inl g_3))), (h3, .inl ((cA 1), 85, .inl v.2.2.1)), (h4, .inl ((cA 0), 9, .inr (.inl v.2.2.2.1))), (h5, .inl ((cA 1), 510, .inl v.2.2.2.2.1)), (h6, .inl ((cA 0), 54, .inr (.inl v.2.2.2.2.2.1))), (h7, .inl ((cA 1), 170, .inl v.2.2.2.2.2.2.2.1)), (h8, .inl ((cA 0), 18, .inr (.inl v.2.2.2.2.2.2.2.2.1))), (h9, .inl ((cA 2), 2, .inl v.2.2.2.2.2.2.2.2.2.1)), (h10, .inl ((cA 1), 80, .inl v.2.2.2.2.2.2.2.2.2.2.1)), (h11, .inl ((cA 1), 60, .inl v.2.2.2.2.2.2.2.2.2.2.2.2.2.2.1))] H := hP
              have hD : va_D A [(h0, .inr (10, [.ref h1, .ref h2, .ref h3, .ref h4, .ref h5, .ref h6, .int v.2.2.2.2.2.2.1, .ref h7, .ref h8, .ref h9, .ref h10, .int v.2.2.2.2.2.2.2.2.2.2.2.1, .int v.2.2.2.2.2.2.2.2.2.2.2.2.1, .int v.2.2.2.2.2.2.2.2.2.2.2.2.2.1, .ref h11, .int v.2.2.2.2.2.2.2.2.2.2.2.2.2.2.2])), (h1, .inl ((cA 1), 85, .inl v.2.2.1)), (h2, .inl ((cA 0), 9, .inr (.inl g_3))), (h3, .inl ((cA 1), 85, .inl v.2.2.1)), (h4, .inl ((cA 0), 9, .inr (.inl v.2.2.2.1))), (h5, .inl ((cA 1), 510, .inl v.2.2.2.2.1)), (h6, .inl ((cA 0), 54, .inr (.inl v.2.2.2.2.2.1))), (h7, .inl ((cA 1), 170, .inl v.2.2.2.2.2.2.2.1)), (h8, .inl ((cA 0), 18, .inr (.inl v.2.2.2.2.2.2.2.2.1))), (h9, .inl ((cA 2), 2, .inl v.2.2.2.2.2.2.2.2.2.1)), (h10, .inl ((cA 1), 80, .inl v.2.2.2.2.2.2.2.2.2.2.1)), (h11, .inl ((cA 1), 60, .inl v.2.2.2.2.2.2.2.2.2.2.2.2.2.2.1))] := hD
              refine lv_iinc (v := (nI (k + 1))) (lv' := [(1, .int (nI (k + 1))), (0, .ref h0)]) hx hb dX10_putBack_46 hl (k := 0) rfl (nI_1 k) (by decide) rfl (fun ls hl => ?_)
              refine lv_goto (tgt := 28) hx hb dX10_putBack_49 (by decide) ?_
              exact ih (k + 1) (by omega) (by omega) _ _ (by rw [← zcp_s, ← eg_3]; exact hP) (by rw [← zcp_s, ← eg_3]; exact hD) hS ls (lv_sub hl [0, 1] rfl)
        exact L28 (9 + 1) (0) (by omega) (Nat.zero_le _) _ _ (by rw [zcp_0]; exact hP) (by rw [zcp_0]; exact hD) hS ls (lv_sub hl [0, 1] rfl)
      · skip
        have hkl : k < 85 := Nat.lt_of_not_le (fun h => c_1 (nI_le (a := 85) (b := k) h (by omega)))
        refine lv_aload_n hx hb dX10_putBack_8 rfl (lv_at hl 1 rfl) ?_
        refine va_get (D := D) (ci := 10) (v := .ref h1) (C := RX10) (T := TX10) (N := 16) hx hb hts hinX10 hown hK hP 0 rfl rfl 0 (by decide) (hts (.fieldLink RX10 7 "GyroTrainerModel" "at" "[I") (List.mem_of_getElem? (i := 1) rfl)) (fun _ h9 => h9) rfl dX10_putBack_9 ?_
        refine lv_iload_n hx hb dX10_putBack_12 rfl (lv_at hl 0 rfl) ?_
        refine lv_aload_n hx hb dX10_putBack_13 rfl (lv_at hl 1 rfl) ?_
        refine va_get (D := D) (ci := 10) (v := .ref h3) (C := RX10) (T := TX10) (N := 16) hx hb hts hinX10 hown hK hP 0 rfl rfl 2 (by decide) (hts (.fieldLink RX10 17 "GyroTrainerModel" "aside" "[I") (List.mem_of_getElem? (i := 2) rfl)) (fun _ h9 => h9) rfl dX10_putBack_14 ?_
        refine lv_iload_n hx hb dX10_putBack_17 rfl (lv_at hl 0 rfl) ?_
        refine z_iald (k := k) hx hb hK hP 3 1 rfl rfl rfl (by omega) (by decide) dX10_putBack_18 ?_
        refine z_iast (k := k) hx hb hK hP hD hS 1 1 rfl rfl rfl (by omega) (by decide) dX10_putBack_19 (fun g_4 eg_4 H locs hP hD hS => ?_)
        have hP : va_P D vwCl [(h0, .inr (10, [.ref h1, .ref h2, .ref h3, .ref h4, .ref h5, .ref h6, .int v.2.2.2.2.2.2.1, .ref h7, .ref h8, .ref h9, .ref h10, .int v.2.2.2.2.2.2.2.2.2.2.2.1, .int v.2.2.2.2.2.2.2.2.2.2.2.2.1, .int v.2.2.2.2.2.2.2.2.2.2.2.2.2.1, .ref h11, .int v.2.2.2.2.2.2.2.2.2.2.2.2.2.2.2])), (h1, .inl ((cA 1), 85, .inl g_4)), (h2, .inl ((cA 0), 9, .inr (.inl v.2.1))), (h3, .inl ((cA 1), 85, .inl v.2.2.1)), (h4, .inl ((cA 0), 9, .inr (.inl v.2.2.2.1))), (h5, .inl ((cA 1), 510, .inl v.2.2.2.2.1)), (h6, .inl ((cA 0), 54, .inr (.inl v.2.2.2.2.2.1))), (h7, .inl ((cA 1), 170, .inl v.2.2.2.2.2.2.2.1)), (h8, .inl ((cA 0), 18, .inr (.inl v.2.2.2.2.2.2.2.2.1))), (h9, .inl ((cA 2), 2, .inl v.2.2.2.2.2.2.2.2.2.1)), (h10, .inl ((cA 1), 80, .inl v.2.2.2.2.2.2.2.2.2.2.1)), (h11, .inl ((cA 1), 60, .inl v.2.2.2.2.2.2.2.2.2.2.2.2.2.2.1))] H := hP
        have hD : va_D A [(h0, .inr (10, [.ref h1, .ref h2, .ref h3, .ref h4, .ref h5, .ref h6, .int v.2.2.2.2.2.2.1, .ref h7, .ref h8, .ref h9, .ref h10, .int v.2.2.2.2.2.2.2.2.2.2.2.1, .int v.2.2.2.2.2.2.2.2.2.2.2.2.1, .int v.2.2.2.2.2.2.2.2.2.2.2.2.2.1, .ref h11, .int v.2.2.2.2.2.2.2.2.2.2.2.2.2.2.2])), (h1, .inl ((cA 1), 85, .inl g_4)), (h2, .inl ((cA 0), 9, .inr (.inl v.2.1))), (h3, .inl ((cA 1), 85, .inl v.2.2.1)), (h4, .inl ((cA 0), 9, .inr (.inl v.2.2.2.1))), (h5, .inl ((cA 1), 510, .inl v.2.2.2.2.1)), (h6, .inl ((cA 0), 54, .inr (.inl v.2.2.2.2.2.1))), (h7, .inl ((cA 1), 170, .inl v.2.2.2.2.2.2.2.1)), (h8, .inl ((cA 0), 18, .inr (.inl v.2.2.2.2.2.2.2.2.1))), (h9, .inl ((cA 2), 2, .inl v.2.2.2.2.2.2.2.2.2.1)), (h10, .inl ((cA 1), 80, .inl v.2.2.2.2.2.2.2.2.2.2.1)), (h11, .inl ((cA 1), 60, .inl v.2.2.2.2.2.2.2.2.2.2.2.2.2.2.1))] := hD
        refine lv_iinc (v := (nI (k + 1))) (lv' := [(1, .int (nI (k + 1))), (0, .ref h0)]) hx hb dX10_putBack_20 hl (k := 0) rfl (nI_1 k) (by decide) rfl (fun ls hl => ?_)
        refine lv_goto (tgt := 2) hx hb dX10_putBack_23 (by decide) ?_
        exact ih (k + 1) (by omega) (by omega) _ _ (by rw [← zcp_sI, ← eg_4]; exact hP) (by rw [← zcp_sI, ← eg_4]; exact hD) hS ls (lv_sub hl [0, 1] rfl)
  exact L2 (85 + 1) (0) (by omega) (Nat.zero_le _) _ _ (by rw [zcp_0]; exact hP) (by rw [zcp_0]; exact hD) hS ls (lv_sub hl [0, 1] rfl)
set_option maxHeartbeats 4000000 in
set_option maxRecDepth 100000 in
theorem c_X10_start (l : Launch) (D : va_G) (cA : Nat → ClassId) (h0 h1 h2 h3 h4 h5 h6 h7 h8 h9 h10 h11 : Nat) (sz : Nat) (pm : Nat) (v : vX10) (x1 : Int32) (x2 : Int32) (hpm : v.2.2.2.2.2.2.1 = nI pm) (hp6 : pm ≤ 6) : Met l yX10_start wsX10_start ({ frames := 1, cells := 0, slots := 0, locals := 22 }) (va_Pc [.ref h0, .int x1, .int x2] (zPre D (zty cA) (wX10 cA h0 h1 h2 h3 h4 h5 h6 h7 h8 h9 h10 h11 v) sz)) (va_Qi (fun (x : Int32) (u : vX10) => (x, u) = (fm_start pm v x1 x2)) (fun u => zPost D (zty cA) (va_A (wX10 cA h0 h1 h2 h3 h4 h5 h6 h7 h8 h9 h10 h11 v) sz) (wX10 cA h0 h1 h2 h3 h4 h5 h6 h7 h8 h9 h10 h11 u)) (va_A (wX10 cA h0 h1 h2 h3 h4 h5 h6 h7 h8 h9 h10 h11 v) sz)) 0 0 (va_A (wX10 cA h0 h1 h2 h3 h4 h5 h6 h7 h8 h9 h10 h11 v) sz) := by
  refine Met.ofW (cc := cX10_start) (maxL := 4) (ret := (some .int)) (by decide) rfl ?_
  intro p e s m args below meth c s₁ B hml hv
  obtain ⟨rfl, hsz, hP, hK, hD0, hE⟩ := hv
  have hx := B.exec
  have hb := B.bytes
  have hr := B.returns
  have hts := atoms_spec (ws := wsX10_start) B.pre
  have hown : s.vm.findClass RX10 = some m.cls := findClass_of_methodNamed B.named
  have hlocks := B.notSynchronized
  have hinX10 : ∀ w ∈ u_ws RX10 TX10 16, w ∈ wsX10_start := fun w h => List.mem_cons_of_mem _ (List.mem_append_right _ h)
  subst hsz
  have hD := hD0.self (sz := s.heap.size)
  generalize hAe : va_A (wX10 cA h0 h1 h2 h3 h4 h5 h6 h7 h8 h9 h10 h11 v) s.heap.size = A at hD hE ⊢
  have hA : ∀ q : Nat, s.heap.size ≤ q → A q := fun q h => by rw [← hAe]; exact Or.inr h
  have hS : va_S A s.heap s.heap [] := va_S.rf
  have hN : zN s := hE.1
  have hP : va_P D vwCl [(h0, .inr (10, [.ref h1, .ref h2, .ref h3, .ref h4, .ref h5, .ref h6, .int v.2.2.2.2.2.2.1, .ref h7, .ref h8, .ref h9, .ref h10, .int v.2.2.2.2.2.2.2.2.2.2.2.1, .int v.2.2.2.2.2.2.2.2.2.2.2.2.1, .int v.2.2.2.2.2.2.2.2.2.2.2.2.2.1, .ref h11, .int v.2.2.2.2.2.2.2.2.2.2.2.2.2.2.2])), (h1, .inl ((cA 1), 85, .inl v.1)), (h2, .inl ((cA 0), 9, .inr (.inl v.2.1))), (h3, .inl ((cA 1), 85, .inl v.2.2.1)), (h4, .inl ((cA 0), 9, .inr (.inl v.2.2.2.1))), (h5, .inl ((cA 1), 510, .inl v.2.2.2.2.1)), (h6, .inl ((cA 0), 54, .inr (.inl v.2.2.2.2.2.1))), (h7, .inl ((cA 1), 170, .inl v.2.2.2.2.2.2.2.1)), (h8, .inl ((cA 0), 18, .inr (.inl v.2.2.2.2.2.2.2.2.1))), (h9, .inl ((cA 2), 2, .inl v.2.2.2.2.2.2.2.2.2.1)), (h10, .inl ((cA 1), 80, .inl v.2.2.2.2.2.2.2.2.2.2.1)), (h11, .inl ((cA 1), 60, .inl v.2.2.2.2.2.2.2.2.2.2.2.2.2.2.1))] s.heap := hP
  have hD : va_D A [(h0, .inr (10, [.ref h1, .ref h2, .ref h3, .ref h4, .ref h5, .ref h6, .int v.2.2.2.2.2.2.1, .ref h7, .ref h8, .ref h9, .ref h10, .int v.2.2.2.2.2.2.2.2.2.2.2.1, .int v.2.2.2.2.2.2.2.2.2.2.2.2.1, .int v.2.2.2.2.2.2.2.2.2.2.2.2.2.1, .ref h11, .int v.2.2.2.2.2.2.2.2.2.2.2.2.2.2.2])), (h1, .inl ((cA 1), 85, .inl v.1)), (h2, .inl ((cA 0), 9, .inr (.inl v.2.1))), (h3, .inl ((cA 1), 85, .inl v.2.2.1)), (h4, .inl ((cA 0), 9, .inr (.inl v.2.2.2.1))), (h5, .inl ((cA 1), 510, .inl v.2.2.2.2.1)), (h6, .inl ((cA 0), 54, .inr (.inl v.2.2.2.2.2.1))), (h7, .inl ((cA 1), 170, .inl v.2.2.2.2.2.2.2.1)), (h8, .inl ((cA 0), 18, .inr (.inl v.2.2.2.2.2.2.2.2.1))), (h9, .inl ((cA 2), 2, .inl v.2.2.2.2.2.2.2.2.2.1)), (h10, .inl ((cA 1), 80, .inl v.2.2.2.2.2.2.2.2.2.2.1)), (h11, .inl ((cA 1), 60, .inl v.2.2.2.2.2.2.2.2.2.2.2.2.2.2.1))] := hD
  have hl := lv_entry ([.ref h0, .int x1, .int x2]) (n := 4) (Nat.le_of_ble_eq_true rfl)
  rw [lg_entry_eq]
  generalize (lg_sl ([.ref h0, .int x1, .int x2]) ++ List.replicate (4 - (lg_sl ([.ref h0, .int x1, .int x2])).length) Slot.unset).toArray = ls at hl ⊢
  have hl : lv_has ls 4 [(0, .ref h0), (1, .int x1), (2, .int x2)] := hl
  refine z_genQ (fun Q hQ => ?_)
  refine lv_iload_n hx hb dX10_start_0 rfl (lv_at hl 1 rfl) ?_
  refine lv_ldc hx hb hown (hts (.constant RX10 108 (-900000)) (List.mem_of_getElem? (i := 1) rfl)) dX10_start_1 ?_
  refine lv_ldc hx hb hown (hts (.constant RX10 109 (900000)) (List.mem_of_getElem? (i := 2) rfl)) dX10_start_3 ?_
  refine z_Ri (va_runS (As := [.int x1, .int (-900000 : Int32), .int (900000 : Int32)]) (rest := []) ⟨hx, hb, hml, hown, hts⟩ (c_X10_in l D cA  x1 (-900000 : Int32) (900000 : Int32)) (va_cwS 3 hts gX10_start_X10_in rfl rfl rfl (by decide +kernel) ⟨Nat.le_of_ble_eq_true rfl, Nat.le_of_ble_eq_true rfl⟩) (zqSR0 hK hN) rfl rfl hl.1 rfl (lv_room (Nat.le_of_ble_eq_true rfl)) dX10_start_5 ⟨Nat.le_of_ble_eq_true rfl, Nat.le_of_ble_eq_true rfl⟩) ?_
  refine lv_if_eq (tgt := 22) hx hb dX10_start_8 (by decide) (fun c_1 => ?_) (fun c_1 => ?_)
  · skip
    refine lv_ldc hx hb hown (hts (.constant RX10 111 (-1000000002)) (List.mem_of_getElem? (i := 5) rfl)) dX10_start_22 ?_
    have e9 : (fm_start pm v x1 x2) = ((-1000000002 : Int32), v) := by unfold fm_start; simp only [if_pos c_1] <;> rfl
    have hP9 : va_P D vwCl (wX10 cA h0 h1 h2 h3 h4 h5 h6 h7 h8 h9 h10 h11 (v : vX10)) s.heap := hP
    have hD9 : va_D A (wX10 cA h0 h1 h2 h3 h4 h5 h6 h7 h8 h9 h10 h11 (v : vX10)) := hD
    subst hQ
    exact W.iret (v := (-1000000002 : Int32)) hx hb hr (fun t ht hW => ⟨⟨(-1000000002 : Int32), v, rfl, e9.symm, ⟨by rw [ht]; exact hP9, va_K.moved hW.alike hK, hD9⟩⟩, hS.F ht⟩) hS.2.2 dX10_start_24
  · skip
    refine lv_iload_n hx hb dX10_start_11 rfl (lv_at hl 2 rfl) ?_
    refine lv_ldc hx hb hown (hts (.constant RX10 110 (-100000)) (List.mem_of_getElem? (i := 3) rfl)) dX10_start_12 ?_
    refine lv_ldc hx hb hown (hts (.constant RX10 98 (100000)) (List.mem_of_getElem? (i := 4) rfl)) dX10_start_14 ?_
    refine z_Ri (va_runS (As := [.int x2, .int (-100000 : Int32), .int (100000 : Int32)]) (rest := []) ⟨hx, hb, hml, hown, hts⟩ (c_X10_in l D cA  x2 (-100000 : Int32) (100000 : Int32)) (va_cwS 3 hts gX10_start_X10_in rfl rfl rfl (by decide +kernel) ⟨Nat.le_of_ble_eq_true rfl, Nat.le_of_ble_eq_true rfl⟩) (zqSR0 hK hN) rfl rfl hl.1 rfl (lv_room (Nat.le_of_ble_eq_true rfl)) dX10_start_16 ⟨Nat.le_of_ble_eq_true rfl, Nat.le_of_ble_eq_true rfl⟩) ?_
    refine lv_if_ne (tgt := 25) hx hb dX10_start_19 (by decide) (fun c_2 => ?_) (fun c_2 => ?_)
    · skip
      refine lv_aload_n hx hb dX10_start_25 rfl (lv_at hl 0 rfl) ?_
      refine z_Hv (wt := fun (u_3 : vX10) => [(h0, .inr (10, [.ref h1, .ref h2, .ref h3, .ref h4, .ref h5, .ref h6, .int u_3.2.2.2.2.2.2.1, .ref h7, .ref h8, .ref h9, .ref h10, .int u_3.2.2.2.2.2.2.2.2.2.2.2.1, .int u_3.2.2.2.2.2.2.2.2.2.2.2.2.1, .int u_3.2.2.2.2.2.2.2.2.2.2.2.2.2.1, .ref h11, .int u_3.2.2.2.2.2.2.2.2.2.2.2.2.2.2.2])), (h1, .inl ((cA 1), 85, .inl u_3.1)), (h2, .inl ((cA 0), 9, .inr (.inl u_3.2.1))), (h3, .inl ((cA 1), 85, .inl u_3.2.2.1)), (h4, .inl ((cA 0), 9, .inr (.inl u_3.2.2.2.1))), (h5, .inl ((cA 1), 510, .inl u_3.2.2.2.2.1)), (h6, .inl ((cA 0), 54, .inr (.inl u_3.2.2.2.2.2.1))), (h7, .inl ((cA 1), 170, .inl u_3.2.2.2.2.2.2.2.1)), (h8, .inl ((cA 0), 18, .inr (.inl u_3.2.2.2.2.2.2.2.2.1))), (h9, .inl ((cA 2), 2, .inl u_3.2.2.2.2.2.2.2.2.2.1)), (h10, .inl ((cA 1), 80, .inl u_3.2.2.2.2.2.2.2.2.2.2.1)), (h11, .inl ((cA 1), 60, .inl u_3.2.2.2.2.2.2.2.2.2.2.2.2.2.2.1))]) (va_runV (As := []) (rest := []) ⟨hx, hb, hml, hown, hts⟩ (c_X10_keep l D cA h0 h1 h2 h3 h4 h5 h6 h7 h8 h9 h10 h11 s.heap.size pm v hpm hp6) (cwV 0 hts gX10_start_X10_keep rfl rfl rfl (by decide +kernel) ⟨Nat.le_of_ble_eq_true rfl, Nat.le_of_ble_eq_true rfl⟩) (zqV hK hP hD hS hA hE (z_c1 (a := []) (b := []) rfl) 0 rfl rfl) rfl rfl hl.1 rfl (lv_room (Nat.le_of_ble_eq_true rfl)) dX10_start_26 ⟨Nat.le_of_ble_eq_true rfl, Nat.le_of_ble_eq_true rfl⟩) hP hD hS hA (z_c1 (a := []) (b := []) rfl) (fun u_3 => (z_c1' (a := []) (b := []) rfl)) (fun u_3 H locs eu_3 hP hD hS => ?_)
      have hP : va_P D vwCl [(h0, .inr (10, [.ref h1, .ref h2, .ref h3, .ref h4, .ref h5, .ref h6, .int u_3.2.2.2.2.2.2.1, .ref h7, .ref h8, .ref h9, .ref h10, .int u_3.2.2.2.2.2.2.2.2.2.2.2.1, .int u_3.2.2.2.2.2.2.2.2.2.2.2.2.1, .int u_3.2.2.2.2.2.2.2.2.2.2.2.2.2.1, .ref h11, .int u_3.2.2.2.2.2.2.2.2.2.2.2.2.2.2.2])), (h1, .inl ((cA 1), 85, .inl u_3.1)), (h2, .inl ((cA 0), 9, .inr (.inl u_3.2.1))), (h3, .inl ((cA 1), 85, .inl u_3.2.2.1)), (h4, .inl ((cA 0), 9, .inr (.inl u_3.2.2.2.1))), (h5, .inl ((cA 1), 510, .inl u_3.2.2.2.2.1)), (h6, .inl ((cA 0), 54, .inr (.inl u_3.2.2.2.2.2.1))), (h7, .inl ((cA 1), 170, .inl u_3.2.2.2.2.2.2.2.1)), (h8, .inl ((cA 0), 18, .inr (.inl u_3.2.2.2.2.2.2.2.2.1))), (h9, .inl ((cA 2), 2, .inl u_3.2.2.2.2.2.2.2.2.2.1)), (h10, .inl ((cA 1), 80, .inl u_3.2.2.2.2.2.2.2.2.2.2.1)), (h11, .inl ((cA 1), 60, .inl u_3.2.2.2.2.2.2.2.2.2.2.2.2.2.2.1))] H := hP
      have hD : va_D A [(h0, .inr (10, [.ref h1, .ref h2, .ref h3, .ref h4, .ref h5, .ref h6, .int u_3.2.2.2.2.2.2.1, .ref h7, .ref h8, .ref h9, .ref h10, .int u_3.2.2.2.2.2.2.2.2.2.2.2.1, .int u_3.2.2.2.2.2.2.2.2.2.2.2.2.1, .int u_3.2.2.2.2.2.2.2.2.2.2.2.2.2.1, .ref h11, .int u_3.2.2.2.2.2.2.2.2.2.2.2.2.2.2.2])), (h1, .inl ((cA 1), 85, .inl u_3.1)), (h2, .inl ((cA 0), 9, .inr (.inl u_3.2.1))), (h3, .inl ((cA 1), 85, .inl u_3.2.2.1)), (h4, .inl ((cA 0), 9, .inr (.inl u_3.2.2.2.1))), (h5, .inl ((cA 1), 510, .inl u_3.2.2.2.2.1)), (h6, .inl ((cA 0), 54, .inr (.inl u_3.2.2.2.2.2.1))), (h7, .inl ((cA 1), 170, .inl u_3.2.2.2.2.2.2.2.1)), (h8, .inl ((cA 0), 18, .inr (.inl u_3.2.2.2.2.2.2.2.2.1))), (h9, .inl ((cA 2), 2, .inl u_3.2.2.2.2.2.2.2.2.2.1)), (h10, .inl ((cA 1), 80, .inl u_3.2.2.2.2.2.2.2.2.2.2.1)), (h11, .inl ((cA 1), 60, .inl u_3.2.2.2.2.2.2.2.2.2.2.2.2.2.2.1))] := hD
      refine lv_aload_n hx hb dX10_start_29 rfl (lv_at hl 0 rfl) ?_
      refine va_get (D := D) (ci := 10) (v := .ref h1) (C := RX10) (T := TX10) (N := 16) hx hb hts hinX10 hown hK hP 0 rfl rfl 0 (by decide) (hts (.fieldLink RX10 7 "GyroTrainerModel" "at" "[I") (List.mem_of_getElem? (i := 6) rfl)) (fun _ h9 => h9) rfl dX10_start_30 ?_
      refine lv_iconst (v := 4) hx hb dX10_start_33 (by decide) ?_
      refine z_iald (k := 4) hx hb hK hP 1 1 rfl rfl rfl (by decide) (by decide) dX10_start_34 ?_
      refine lv_istore_n (lv' := [(3, .int (u_3.1 4)), (0, .ref h0), (1, .int x1), (2, .int x2)]) hx hb dX10_start_35 rfl hl (by decide) rfl (fun ls hl => ?_)
      refine lv_aload_n hx hb dX10_start_36 rfl (lv_at hl 1 rfl) ?_
      refine va_get (D := D) (ci := 10) (v := .ref h1) (C := RX10) (T := TX10) (N := 16) hx hb hts hinX10 hown hK hP 0 rfl rfl 0 (by decide) (hts (.fieldLink RX10 7 "GyroTrainerModel" "at" "[I") (List.mem_of_getElem? (i := 6) rfl)) (fun _ h9 => h9) rfl dX10_start_37 ?_
      refine lv_iconst (v := 4) hx hb dX10_start_40 (by decide) ?_
      refine lv_iload_n hx hb dX10_start_41 rfl (lv_at hl 2 rfl) ?_
      refine z_iast (k := 4) hx hb hK hP hD hS 1 1 rfl rfl rfl (by decide) (by decide) dX10_start_42 (fun g_5 eg_5 H locs hP hD hS => ?_)
      have hP : va_P D vwCl [(h0, .inr (10, [.ref h1, .ref h2, .ref h3, .ref h4, .ref h5, .ref h6, .int u_3.2.2.2.2.2.2.1, .ref h7, .ref h8, .ref h9, .ref h10, .int u_3.2.2.2.2.2.2.2.2.2.2.2.1, .int u_3.2.2.2.2.2.2.2.2.2.2.2.2.1, .int u_3.2.2.2.2.2.2.2.2.2.2.2.2.2.1, .ref h11, .int u_3.2.2.2.2.2.2.2.2.2.2.2.2.2.2.2])), (h1, .inl ((cA 1), 85, .inl g_5)), (h2, .inl ((cA 0), 9, .inr (.inl u_3.2.1))), (h3, .inl ((cA 1), 85, .inl u_3.2.2.1)), (h4, .inl ((cA 0), 9, .inr (.inl u_3.2.2.2.1))), (h5, .inl ((cA 1), 510, .inl u_3.2.2.2.2.1)), (h6, .inl ((cA 0), 54, .inr (.inl u_3.2.2.2.2.2.1))), (h7, .inl ((cA 1), 170, .inl u_3.2.2.2.2.2.2.2.1)), (h8, .inl ((cA 0), 18, .inr (.inl u_3.2.2.2.2.2.2.2.2.1))), (h9, .inl ((cA 2), 2, .inl u_3.2.2.2.2.2.2.2.2.2.1)), (h10, .inl ((cA 1), 80, .inl u_3.2.2.2.2.2.2.2.2.2.2.1)), (h11, .inl ((cA 1), 60, .inl u_3.2.2.2.2.2.2.2.2.2.2.2.2.2.2.1))] H := hP
      have hD : va_D A [(h0, .inr (10, [.ref h1, .ref h2, .ref h3, .ref h4, .ref h5, .ref h6, .int u_3.2.2.2.2.2.2.1, .ref h7, .ref h8, .ref h9, .ref h10, .int u_3.2.2.2.2.2.2.2.2.2.2.2.1, .int u_3.2.2.2.2.2.2.2.2.2.2.2.2.1, .int u_3.2.2.2.2.2.2.2.2.2.2.2.2.2.1, .ref h11, .int u_3.2.2.2.2.2.2.2.2.2.2.2.2.2.2.2])), (h1, .inl ((cA 1), 85, .inl g_5)), (h2, .inl ((cA 0), 9, .inr (.inl u_3.2.1))), (h3, .inl ((cA 1), 85, .inl u_3.2.2.1)), (h4, .inl ((cA 0), 9, .inr (.inl u_3.2.2.2.1))), (h5, .inl ((cA 1), 510, .inl u_3.2.2.2.2.1)), (h6, .inl ((cA 0), 54, .inr (.inl u_3.2.2.2.2.2.1))), (h7, .inl ((cA 1), 170, .inl u_3.2.2.2.2.2.2.2.1)), (h8, .inl ((cA 0), 18, .inr (.inl u_3.2.2.2.2.2.2.2.2.1))), (h9, .inl ((cA 2), 2, .inl u_3.2.2.2.2.2.2.2.2.2.1)), (h10, .inl ((cA 1), 80, .inl u_3.2.2.2.2.2.2.2.2.2.2.1)), (h11, .inl ((cA 1), 60, .inl u_3.2.2.2.2.2.2.2.2.2.2.2.2.2.2.1))] := hD
      refine lv_aload_n hx hb dX10_start_43 rfl (lv_at hl 1 rfl) ?_
      refine va_get (D := D) (ci := 10) (v := .ref h1) (C := RX10) (T := TX10) (N := 16) hx hb hts hinX10 hown hK hP 0 rfl rfl 0 (by decide) (hts (.fieldLink RX10 7 "GyroTrainerModel" "at" "[I") (List.mem_of_getElem? (i := 6) rfl)) (fun _ h9 => h9) rfl dX10_start_44 ?_
      refine lv_iconst (v := 5) hx hb dX10_start_47 (by decide) ?_
      refine lv_iload_n hx hb dX10_start_48 rfl (lv_at hl 3 rfl) ?_
      refine z_iast (k := 5) hx hb hK hP hD hS 1 1 rfl rfl rfl (by decide) (by decide) dX10_start_49 (fun g_6 eg_6 H locs hP hD hS => ?_)
      have hP : va_P D vwCl [(h0, .inr (10, [.ref h1, .ref h2, .ref h3, .ref h4, .ref h5, .ref h6, .int u_3.2.2.2.2.2.2.1, .ref h7, .ref h8, .ref h9, .ref h10, .int u_3.2.2.2.2.2.2.2.2.2.2.2.1, .int u_3.2.2.2.2.2.2.2.2.2.2.2.2.1, .int u_3.2.2.2.2.2.2.2.2.2.2.2.2.2.1, .ref h11, .int u_3.2.2.2.2.2.2.2.2.2.2.2.2.2.2.2])), (h1, .inl ((cA 1), 85, .inl g_6)), (h2, .inl ((cA 0), 9, .inr (.inl u_3.2.1))), (h3, .inl ((cA 1), 85, .inl u_3.2.2.1)), (h4, .inl ((cA 0), 9, .inr (.inl u_3.2.2.2.1))), (h5, .inl ((cA 1), 510, .inl u_3.2.2.2.2.1)), (h6, .inl ((cA 0), 54, .inr (.inl u_3.2.2.2.2.2.1))), (h7, .inl ((cA 1), 170, .inl u_3.2.2.2.2.2.2.2.1)), (h8, .inl ((cA 0), 18, .inr (.inl u_3.2.2.2.2.2.2.2.2.1))), (h9, .inl ((cA 2), 2, .inl u_3.2.2.2.2.2.2.2.2.2.1)), (h10, .inl ((cA 1), 80, .inl u_3.2.2.2.2.2.2.2.2.2.2.1)), (h11, .inl ((cA 1), 60, .inl u_3.2.2.2.2.2.2.2.2.2.2.2.2.2.2.1))] H := hP
      have hD : va_D A [(h0, .inr (10, [.ref h1, .ref h2, .ref h3, .ref h4, .ref h5, .ref h6, .int u_3.2.2.2.2.2.2.1, .ref h7, .ref h8, .ref h9, .ref h10, .int u_3.2.2.2.2.2.2.2.2.2.2.2.1, .int u_3.2.2.2.2.2.2.2.2.2.2.2.2.1, .int u_3.2.2.2.2.2.2.2.2.2.2.2.2.2.1, .ref h11, .int u_3.2.2.2.2.2.2.2.2.2.2.2.2.2.2.2])), (h1, .inl ((cA 1), 85, .inl g_6)), (h2, .inl ((cA 0), 9, .inr (.inl u_3.2.1))), (h3, .inl ((cA 1), 85, .inl u_3.2.2.1)), (h4, .inl ((cA 0), 9, .inr (.inl u_3.2.2.2.1))), (h5, .inl ((cA 1), 510, .inl u_3.2.2.2.2.1)), (h6, .inl ((cA 0), 54, .inr (.inl u_3.2.2.2.2.2.1))), (h7, .inl ((cA 1), 170, .inl u_3.2.2.2.2.2.2.2.1)), (h8, .inl ((cA 0), 18, .inr (.inl u_3.2.2.2.2.2.2.2.2.1))), (h9, .inl ((cA 2), 2, .inl u_3.2.2.2.2.2.2.2.2.2.1)), (h10, .inl ((cA 1), 80, .inl u_3.2.2.2.2.2.2.2.2.2.2.1)), (h11, .inl ((cA 1), 60, .inl u_3.2.2.2.2.2.2.2.2.2.2.2.2.2.2.1))] := hD
      refine lv_iload_n hx hb dX10_start_50 rfl (lv_at hl 0 rfl) ?_
      have e9 : (fm_start pm v x1 x2) = ((u_3.1 4), (g_6, u_3.2)) := by unfold fm_start; simp only [← eu_3, ← eg_5, ← eg_6, if_neg c_1, if_neg c_2] <;> rfl
      have hP9 : va_P D vwCl (wX10 cA h0 h1 h2 h3 h4 h5 h6 h7 h8 h9 h10 h11 ((g_6, u_3.2) : vX10)) H := hP
      have hD9 : va_D A (wX10 cA h0 h1 h2 h3 h4 h5 h6 h7 h8 h9 h10 h11 ((g_6, u_3.2) : vX10)) := hD
      subst hQ
      exact W.iret (v := (u_3.1 4)) hx hb hr (fun t ht hW => ⟨⟨(u_3.1 4), (g_6, u_3.2), rfl, e9.symm, ⟨by rw [ht]; exact hP9, va_K.moved hW.alike hK, hD9⟩⟩, hS.F ht⟩) hS.2.2 dX10_start_51
    · skip
      refine lv_ldc hx hb hown (hts (.constant RX10 111 (-1000000002)) (List.mem_of_getElem? (i := 5) rfl)) dX10_start_22 ?_
      have e9 : (fm_start pm v x1 x2) = ((-1000000002 : Int32), v) := by unfold fm_start; simp only [if_neg c_1, if_pos c_2] <;> rfl
      have hP9 : va_P D vwCl (wX10 cA h0 h1 h2 h3 h4 h5 h6 h7 h8 h9 h10 h11 (v : vX10)) s.heap := hP
      have hD9 : va_D A (wX10 cA h0 h1 h2 h3 h4 h5 h6 h7 h8 h9 h10 h11 (v : vX10)) := hD
      subst hQ
      exact W.iret (v := (-1000000002 : Int32)) hx hb hr (fun t ht hW => ⟨⟨(-1000000002 : Int32), v, rfl, e9.symm, ⟨by rw [ht]; exact hP9, va_K.moved hW.alike hK, hD9⟩⟩, hS.F ht⟩) hS.2.2 dX10_start_24
set_option maxHeartbeats 4000000 in
set_option maxRecDepth 100000 in
theorem c_X10_place (l : Launch) (D : va_G) (cA : Nat → ClassId) (h0 h1 h2 h3 h4 h5 h6 h7 h8 h9 h10 h11 : Nat) (sz : Nat) (pm : Nat) (v : vX10) (x1 : Int32) (hpm : v.2.2.2.2.2.2.1 = nI pm) (hp6 : pm ≤ 6) : Met l yX10_place wsX10_place ({ frames := 2, cells := 0, slots := 0, locals := 42 }) (va_Pc [.ref h0, .int x1] (zPre D (zty cA) (wX10 cA h0 h1 h2 h3 h4 h5 h6 h7 h8 h9 h10 h11 v) sz)) (va_Qi (fun (x : Int32) (u : vX10) => (x, u) = (fm_place pm v x1)) (fun u => zPost D (zty cA) (va_A (wX10 cA h0 h1 h2 h3 h4 h5 h6 h7 h8 h9 h10 h11 v) sz) (wX10 cA h0 h1 h2 h3 h4 h5 h6 h7 h8 h9 h10 h11 u)) (va_A (wX10 cA h0 h1 h2 h3 h4 h5 h6 h7 h8 h9 h10 h11 v) sz)) 0 0 (va_A (wX10 cA h0 h1 h2 h3 h4 h5 h6 h7 h8 h9 h10 h11 v) sz) := by
  refine Met.ofW (cc := cX10_place) (maxL := 2) (ret := (some .int)) (by decide) rfl ?_
  intro p e s m args below meth c s₁ B hml hv
  obtain ⟨rfl, hsz, hP, hK, hD0, hE⟩ := hv
  have hx := B.exec
  have hb := B.bytes
  have hr := B.returns
  have hts := atoms_spec (ws := wsX10_place) B.pre
  have hown : s.vm.findClass RX10 = some m.cls := findClass_of_methodNamed B.named
  have hlocks := B.notSynchronized
  have hinX10 : ∀ w ∈ u_ws RX10 TX10 16, w ∈ wsX10_place := fun w h => List.mem_cons_of_mem _ (List.mem_append_right _ h)
  subst hsz
  have hD := hD0.self (sz := s.heap.size)
  generalize hAe : va_A (wX10 cA h0 h1 h2 h3 h4 h5 h6 h7 h8 h9 h10 h11 v) s.heap.size = A at hD hE ⊢
  have hA : ∀ q : Nat, s.heap.size ≤ q → A q := fun q h => by rw [← hAe]; exact Or.inr h
  have hS : va_S A s.heap s.heap [] := va_S.rf
  have hN : zN s := hE.1
  have hP : va_P D vwCl [(h0, .inr (10, [.ref h1, .ref h2, .ref h3, .ref h4, .ref h5, .ref h6, .int v.2.2.2.2.2.2.1, .ref h7, .ref h8, .ref h9, .ref h10, .int v.2.2.2.2.2.2.2.2.2.2.2.1, .int v.2.2.2.2.2.2.2.2.2.2.2.2.1, .int v.2.2.2.2.2.2.2.2.2.2.2.2.2.1, .ref h11, .int v.2.2.2.2.2.2.2.2.2.2.2.2.2.2.2])), (h1, .inl ((cA 1), 85, .inl v.1)), (h2, .inl ((cA 0), 9, .inr (.inl v.2.1))), (h3, .inl ((cA 1), 85, .inl v.2.2.1)), (h4, .inl ((cA 0), 9, .inr (.inl v.2.2.2.1))), (h5, .inl ((cA 1), 510, .inl v.2.2.2.2.1)), (h6, .inl ((cA 0), 54, .inr (.inl v.2.2.2.2.2.1))), (h7, .inl ((cA 1), 170, .inl v.2.2.2.2.2.2.2.1)), (h8, .inl ((cA 0), 18, .inr (.inl v.2.2.2.2.2.2.2.2.1))), (h9, .inl ((cA 2), 2, .inl v.2.2.2.2.2.2.2.2.2.1)), (h10, .inl ((cA 1), 80, .inl v.2.2.2.2.2.2.2.2.2.2.1)), (h11, .inl ((cA 1), 60, .inl v.2.2.2.2.2.2.2.2.2.2.2.2.2.2.1))] s.heap := hP
  have hD : va_D A [(h0, .inr (10, [.ref h1, .ref h2, .ref h3, .ref h4, .ref h5, .ref h6, .int v.2.2.2.2.2.2.1, .ref h7, .ref h8, .ref h9, .ref h10, .int v.2.2.2.2.2.2.2.2.2.2.2.1, .int v.2.2.2.2.2.2.2.2.2.2.2.2.1, .int v.2.2.2.2.2.2.2.2.2.2.2.2.2.1, .ref h11, .int v.2.2.2.2.2.2.2.2.2.2.2.2.2.2.2])), (h1, .inl ((cA 1), 85, .inl v.1)), (h2, .inl ((cA 0), 9, .inr (.inl v.2.1))), (h3, .inl ((cA 1), 85, .inl v.2.2.1)), (h4, .inl ((cA 0), 9, .inr (.inl v.2.2.2.1))), (h5, .inl ((cA 1), 510, .inl v.2.2.2.2.1)), (h6, .inl ((cA 0), 54, .inr (.inl v.2.2.2.2.2.1))), (h7, .inl ((cA 1), 170, .inl v.2.2.2.2.2.2.2.1)), (h8, .inl ((cA 0), 18, .inr (.inl v.2.2.2.2.2.2.2.2.1))), (h9, .inl ((cA 2), 2, .inl v.2.2.2.2.2.2.2.2.2.1)), (h10, .inl ((cA 1), 80, .inl v.2.2.2.2.2.2.2.2.2.2.1)), (h11, .inl ((cA 1), 60, .inl v.2.2.2.2.2.2.2.2.2.2.2.2.2.2.1))] := hD
  have hl := lv_entry ([.ref h0, .int x1]) (n := 2) (Nat.le_of_ble_eq_true rfl)
  rw [lg_entry_eq]
  generalize (lg_sl ([.ref h0, .int x1]) ++ List.replicate (2 - (lg_sl ([.ref h0, .int x1])).length) Slot.unset).toArray = ls at hl ⊢
  have hl : lv_has ls 2 [(0, .ref h0), (1, .int x1)] := hl
  refine z_genQ (fun Q hQ => ?_)
  refine lv_iload_n hx hb dX10_place_0 rfl (lv_at hl 1 rfl) ?_
  refine z_Ri (va_runS (As := [.int x1]) (rest := []) ⟨hx, hb, hml, hown, hts⟩ (c_X10_isDegrees l D cA  x1) (va_cwS 1 hts gX10_place_X10_isDegrees rfl rfl rfl (by decide +kernel) ⟨Nat.le_of_ble_eq_true rfl, Nat.le_of_ble_eq_true rfl⟩) (zqSR0 hK hN) rfl rfl hl.1 rfl (lv_room (Nat.le_of_ble_eq_true rfl)) dX10_place_1 ⟨Nat.le_of_ble_eq_true rfl, Nat.le_of_ble_eq_true rfl⟩) ?_
  refine lv_if_ne (tgt := 10) hx hb dX10_place_4 (by decide) (fun c_1 => ?_) (fun c_1 => ?_)
  · skip
    refine lv_aload_n hx hb dX10_place_10 rfl (lv_at hl 0 rfl) ?_
    refine va_get (D := D) (ci := 10) (v := .ref h1) (C := RX10) (T := TX10) (N := 16) hx hb hts hinX10 hown hK hP 0 rfl rfl 0 (by decide) (hts (.fieldLink RX10 7 "GyroTrainerModel" "at" "[I") (List.mem_of_getElem? (i := 1) rfl)) (fun _ h9 => h9) rfl dX10_place_11 ?_
    refine lv_iconst (v := 3) hx hb dX10_place_14 (by decide) ?_
    refine z_iald (k := 3) hx hb hK hP 1 1 rfl rfl rfl (by decide) (by decide) dX10_place_15 ?_
    refine lv_if_le (tgt := 22) hx hb dX10_place_16 (by decide) (fun c_2 => ?_) (fun c_2 => ?_)
    · skip
      refine lv_aload_n hx hb dX10_place_22 rfl (lv_at hl 0 rfl) ?_
      refine z_Hv (wt := fun (u_3 : vX10) => [(h0, .inr (10, [.ref h1, .ref h2, .ref h3, .ref h4, .ref h5, .ref h6, .int u_3.2.2.2.2.2.2.1, .ref h7, .ref h8, .ref h9, .ref h10, .int u_3.2.2.2.2.2.2.2.2.2.2.2.1, .int u_3.2.2.2.2.2.2.2.2.2.2.2.2.1, .int u_3.2.2.2.2.2.2.2.2.2.2.2.2.2.1, .ref h11, .int u_3.2.2.2.2.2.2.2.2.2.2.2.2.2.2.2])), (h1, .inl ((cA 1), 85, .inl u_3.1)), (h2, .inl ((cA 0), 9, .inr (.inl u_3.2.1))), (h3, .inl ((cA 1), 85, .inl u_3.2.2.1)), (h4, .inl ((cA 0), 9, .inr (.inl u_3.2.2.2.1))), (h5, .inl ((cA 1), 510, .inl u_3.2.2.2.2.1)), (h6, .inl ((cA 0), 54, .inr (.inl u_3.2.2.2.2.2.1))), (h7, .inl ((cA 1), 170, .inl u_3.2.2.2.2.2.2.2.1)), (h8, .inl ((cA 0), 18, .inr (.inl u_3.2.2.2.2.2.2.2.2.1))), (h9, .inl ((cA 2), 2, .inl u_3.2.2.2.2.2.2.2.2.2.1)), (h10, .inl ((cA 1), 80, .inl u_3.2.2.2.2.2.2.2.2.2.2.1)), (h11, .inl ((cA 1), 60, .inl u_3.2.2.2.2.2.2.2.2.2.2.2.2.2.2.1))]) (va_runV (As := []) (rest := []) ⟨hx, hb, hml, hown, hts⟩ (c_X10_keep l D cA h0 h1 h2 h3 h4 h5 h6 h7 h8 h9 h10 h11 s.heap.size pm v hpm hp6) (cwV 0 hts gX10_place_X10_keep rfl rfl rfl (by decide +kernel) ⟨Nat.le_of_ble_eq_true rfl, Nat.le_of_ble_eq_true rfl⟩) (zqV hK hP hD hS hA hE (z_c1 (a := []) (b := []) rfl) 0 rfl rfl) rfl rfl hl.1 rfl (lv_room (Nat.le_of_ble_eq_true rfl)) dX10_place_23 ⟨Nat.le_of_ble_eq_true rfl, Nat.le_of_ble_eq_true rfl⟩) hP hD hS hA (z_c1 (a := []) (b := []) rfl) (fun u_3 => (z_c1' (a := []) (b := []) rfl)) (fun u_3 H locs eu_3 hP hD hS => ?_)
      have hP : va_P D vwCl [(h0, .inr (10, [.ref h1, .ref h2, .ref h3, .ref h4, .ref h5, .ref h6, .int u_3.2.2.2.2.2.2.1, .ref h7, .ref h8, .ref h9, .ref h10, .int u_3.2.2.2.2.2.2.2.2.2.2.2.1, .int u_3.2.2.2.2.2.2.2.2.2.2.2.2.1, .int u_3.2.2.2.2.2.2.2.2.2.2.2.2.2.1, .ref h11, .int u_3.2.2.2.2.2.2.2.2.2.2.2.2.2.2.2])), (h1, .inl ((cA 1), 85, .inl u_3.1)), (h2, .inl ((cA 0), 9, .inr (.inl u_3.2.1))), (h3, .inl ((cA 1), 85, .inl u_3.2.2.1)), (h4, .inl ((cA 0), 9, .inr (.inl u_3.2.2.2.1))), (h5, .inl ((cA 1), 510, .inl u_3.2.2.2.2.1)), (h6, .inl ((cA 0), 54, .inr (.inl u_3.2.2.2.2.2.1))), (h7, .inl ((cA 1), 170, .inl u_3.2.2.2.2.2.2.2.1)), (h8, .inl ((cA 0), 18, .inr (.inl u_3.2.2.2.2.2.2.2.2.1))), (h9, .inl ((cA 2), 2, .inl u_3.2.2.2.2.2.2.2.2.2.1)), (h10, .inl ((cA 1), 80, .inl u_3.2.2.2.2.2.2.2.2.2.2.1)), (h11, .inl ((cA 1), 60, .inl u_3.2.2.2.2.2.2.2.2.2.2.2.2.2.2.1))] H := hP
      have hD : va_D A [(h0, .inr (10, [.ref h1, .ref h2, .ref h3, .ref h4, .ref h5, .ref h6, .int u_3.2.2.2.2.2.2.1, .ref h7, .ref h8, .ref h9, .ref h10, .int u_3.2.2.2.2.2.2.2.2.2.2.2.1, .int u_3.2.2.2.2.2.2.2.2.2.2.2.2.1, .int u_3.2.2.2.2.2.2.2.2.2.2.2.2.2.1, .ref h11, .int u_3.2.2.2.2.2.2.2.2.2.2.2.2.2.2.2])), (h1, .inl ((cA 1), 85, .inl u_3.1)), (h2, .inl ((cA 0), 9, .inr (.inl u_3.2.1))), (h3, .inl ((cA 1), 85, .inl u_3.2.2.1)), (h4, .inl ((cA 0), 9, .inr (.inl u_3.2.2.2.1))), (h5, .inl ((cA 1), 510, .inl u_3.2.2.2.2.1)), (h6, .inl ((cA 0), 54, .inr (.inl u_3.2.2.2.2.2.1))), (h7, .inl ((cA 1), 170, .inl u_3.2.2.2.2.2.2.2.1)), (h8, .inl ((cA 0), 18, .inr (.inl u_3.2.2.2.2.2.2.2.2.1))), (h9, .inl ((cA 2), 2, .inl u_3.2.2.2.2.2.2.2.2.2.1)), (h10, .inl ((cA 1), 80, .inl u_3.2.2.2.2.2.2.2.2.2.2.1)), (h11, .inl ((cA 1), 60, .inl u_3.2.2.2.2.2.2.2.2.2.2.2.2.2.2.1))] := hD
      refine lv_aload_n hx hb dX10_place_26 rfl (lv_at hl 0 rfl) ?_
      refine va_get (D := D) (ci := 10) (v := .ref h1) (C := RX10) (T := TX10) (N := 16) hx hb hts hinX10 hown hK hP 0 rfl rfl 0 (by decide) (hts (.fieldLink RX10 7 "GyroTrainerModel" "at" "[I") (List.mem_of_getElem? (i := 1) rfl)) (fun _ h9 => h9) rfl dX10_place_27 ?_
      refine lv_iconst (v := 0) hx hb dX10_place_30 (by decide) ?_
      refine lv_ldc hx hb hown (hts (.constant RX10 93 (1000000)) (List.mem_of_getElem? (i := 2) rfl)) dX10_place_31 ?_
      refine lv_iload_n hx hb dX10_place_33 rfl (lv_at hl 1 rfl) ?_
      refine lv_imul hx hb dX10_place_34 ?_
      refine z_iast (k := 0) hx hb hK hP hD hS 1 1 rfl rfl rfl (by decide) (by decide) dX10_place_35 (fun g_5 eg_5 H locs hP hD hS => ?_)
      have hP : va_P D vwCl [(h0, .inr (10, [.ref h1, .ref h2, .ref h3, .ref h4, .ref h5, .ref h6, .int u_3.2.2.2.2.2.2.1, .ref h7, .ref h8, .ref h9, .ref h10, .int u_3.2.2.2.2.2.2.2.2.2.2.2.1, .int u_3.2.2.2.2.2.2.2.2.2.2.2.2.1, .int u_3.2.2.2.2.2.2.2.2.2.2.2.2.2.1, .ref h11, .int u_3.2.2.2.2.2.2.2.2.2.2.2.2.2.2.2])), (h1, .inl ((cA 1), 85, .inl g_5)), (h2, .inl ((cA 0), 9, .inr (.inl u_3.2.1))), (h3, .inl ((cA 1), 85, .inl u_3.2.2.1)), (h4, .inl ((cA 0), 9, .inr (.inl u_3.2.2.2.1))), (h5, .inl ((cA 1), 510, .inl u_3.2.2.2.2.1)), (h6, .inl ((cA 0), 54, .inr (.inl u_3.2.2.2.2.2.1))), (h7, .inl ((cA 1), 170, .inl u_3.2.2.2.2.2.2.2.1)), (h8, .inl ((cA 0), 18, .inr (.inl u_3.2.2.2.2.2.2.2.2.1))), (h9, .inl ((cA 2), 2, .inl u_3.2.2.2.2.2.2.2.2.2.1)), (h10, .inl ((cA 1), 80, .inl u_3.2.2.2.2.2.2.2.2.2.2.1)), (h11, .inl ((cA 1), 60, .inl u_3.2.2.2.2.2.2.2.2.2.2.2.2.2.2.1))] H := hP
      have hD : va_D A [(h0, .inr (10, [.ref h1, .ref h2, .ref h3, .ref h4, .ref h5, .ref h6, .int u_3.2.2.2.2.2.2.1, .ref h7, .ref h8, .ref h9, .ref h10, .int u_3.2.2.2.2.2.2.2.2.2.2.2.1, .int u_3.2.2.2.2.2.2.2.2.2.2.2.2.1, .int u_3.2.2.2.2.2.2.2.2.2.2.2.2.2.1, .ref h11, .int u_3.2.2.2.2.2.2.2.2.2.2.2.2.2.2.2])), (h1, .inl ((cA 1), 85, .inl g_5)), (h2, .inl ((cA 0), 9, .inr (.inl u_3.2.1))), (h3, .inl ((cA 1), 85, .inl u_3.2.2.1)), (h4, .inl ((cA 0), 9, .inr (.inl u_3.2.2.2.1))), (h5, .inl ((cA 1), 510, .inl u_3.2.2.2.2.1)), (h6, .inl ((cA 0), 54, .inr (.inl u_3.2.2.2.2.2.1))), (h7, .inl ((cA 1), 170, .inl u_3.2.2.2.2.2.2.2.1)), (h8, .inl ((cA 0), 18, .inr (.inl u_3.2.2.2.2.2.2.2.2.1))), (h9, .inl ((cA 2), 2, .inl u_3.2.2.2.2.2.2.2.2.2.1)), (h10, .inl ((cA 1), 80, .inl u_3.2.2.2.2.2.2.2.2.2.2.1)), (h11, .inl ((cA 1), 60, .inl u_3.2.2.2.2.2.2.2.2.2.2.2.2.2.2.1))] := hD
      refine lv_aload_n hx hb dX10_place_36 rfl (lv_at hl 0 rfl) ?_
      refine va_get (D := D) (ci := 10) (v := .ref h1) (C := RX10) (T := TX10) (N := 16) hx hb hts hinX10 hown hK hP 0 rfl rfl 0 (by decide) (hts (.fieldLink RX10 7 "GyroTrainerModel" "at" "[I") (List.mem_of_getElem? (i := 1) rfl)) (fun _ h9 => h9) rfl dX10_place_37 ?_
      refine lv_iconst (v := 3) hx hb dX10_place_40 (by decide) ?_
      refine z_iald (k := 3) hx hb hK hP 1 1 rfl rfl rfl (by decide) (by decide) dX10_place_41 ?_
      have e9 : (fm_place pm v x1) = ((g_5 3), (g_5, u_3.2)) := by unfold fm_place; simp only [← eu_3, ← eg_5, if_neg c_1, if_pos c_2] <;> rfl
      have hP9 : va_P D vwCl (wX10 cA h0 h1 h2 h3 h4 h5 h6 h7 h8 h9 h10 h11 ((g_5, u_3.2) : vX10)) H := hP
      have hD9 : va_D A (wX10 cA h0 h1 h2 h3 h4 h5 h6 h7 h8 h9 h10 h11 ((g_5, u_3.2) : vX10)) := hD
      subst hQ
      exact W.iret (v := (g_5 3)) hx hb hr (fun t ht hW => ⟨⟨(g_5 3), (g_5, u_3.2), rfl, e9.symm, ⟨by rw [ht]; exact hP9, va_K.moved hW.alike hK, hD9⟩⟩, hS.F ht⟩) hS.2.2 dX10_place_42
    · skip
      refine lv_bipush (v := -5) hx hb dX10_place_19 (by decide) ?_
      have e9 : (fm_place pm v x1) = ((-5 : Int32), v) := by unfold fm_place; simp only [if_neg c_1, if_neg c_2] <;> rfl
      have hP9 : va_P D vwCl (wX10 cA h0 h1 h2 h3 h4 h5 h6 h7 h8 h9 h10 h11 (v : vX10)) s.heap := hP
      have hD9 : va_D A (wX10 cA h0 h1 h2 h3 h4 h5 h6 h7 h8 h9 h10 h11 (v : vX10)) := hD
      subst hQ
      exact W.iret (v := (-5 : Int32)) hx hb hr (fun t ht hW => ⟨⟨(-5 : Int32), v, rfl, e9.symm, ⟨by rw [ht]; exact hP9, va_K.moved hW.alike hK, hD9⟩⟩, hS.F ht⟩) hS.2.2 dX10_place_21
  · skip
    refine lv_bipush (v := -2) hx hb dX10_place_7 (by decide) ?_
    have e9 : (fm_place pm v x1) = ((-2 : Int32), v) := by unfold fm_place; simp only [if_pos c_1] <;> rfl
    have hP9 : va_P D vwCl (wX10 cA h0 h1 h2 h3 h4 h5 h6 h7 h8 h9 h10 h11 (v : vX10)) s.heap := hP
    have hD9 : va_D A (wX10 cA h0 h1 h2 h3 h4 h5 h6 h7 h8 h9 h10 h11 (v : vX10)) := hD
    subst hQ
    exact W.iret (v := (-2 : Int32)) hx hb hr (fun t ht hW => ⟨⟨(-2 : Int32), v, rfl, e9.symm, ⟨by rw [ht]; exact hP9, va_K.moved hW.alike hK, hD9⟩⟩, hS.F ht⟩) hS.2.2 dX10_place_9
set_option maxHeartbeats 4000000 in
set_option maxRecDepth 100000 in
theorem c_X10_steer (l : Launch) (D : va_G) (cA : Nat → ClassId) (h0 h1 h2 h3 h4 h5 h6 h7 h8 h9 h10 h11 : Nat) (sz : Nat) (pm : Nat) (v : vX10) (x1 : Int32) (x2 : Int32) (hpm : v.2.2.2.2.2.2.1 = nI pm) (hp6 : pm ≤ 6) : Met l yX10_steer wsX10_steer ({ frames := 2, cells := 0, slots := 0, locals := 42 }) (va_Pc [.ref h0, .int x1, .int x2] (zPre D (zty cA) (wX10 cA h0 h1 h2 h3 h4 h5 h6 h7 h8 h9 h10 h11 v) sz)) (va_Qi (fun (x : Int32) (u : vX10) => (x, u) = (fm_steer pm v x1 x2)) (fun u => zPost D (zty cA) (va_A (wX10 cA h0 h1 h2 h3 h4 h5 h6 h7 h8 h9 h10 h11 v) sz) (wX10 cA h0 h1 h2 h3 h4 h5 h6 h7 h8 h9 h10 h11 u)) (va_A (wX10 cA h0 h1 h2 h3 h4 h5 h6 h7 h8 h9 h10 h11 v) sz)) 0 0 (va_A (wX10 cA h0 h1 h2 h3 h4 h5 h6 h7 h8 h9 h10 h11 v) sz) := by
  refine Met.ofW (cc := cX10_steer) (maxL := 4) (ret := (some .int)) (by decide) rfl ?_
  intro p e s m args below meth c s₁ B hml hv
  obtain ⟨rfl, hsz, hP, hK, hD0, hE⟩ := hv
  have hx := B.exec
  have hb := B.bytes
  have hr := B.returns
  have hts := atoms_spec (ws := wsX10_steer) B.pre
  have hown : s.vm.findClass RX10 = some m.cls := findClass_of_methodNamed B.named
  have hlocks := B.notSynchronized
  have hinX10 : ∀ w ∈ u_ws RX10 TX10 16, w ∈ wsX10_steer := fun w h => List.mem_cons_of_mem _ (List.mem_append_right _ h)
  subst hsz
  have hD := hD0.self (sz := s.heap.size)
  generalize hAe : va_A (wX10 cA h0 h1 h2 h3 h4 h5 h6 h7 h8 h9 h10 h11 v) s.heap.size = A at hD hE ⊢
  have hA : ∀ q : Nat, s.heap.size ≤ q → A q := fun q h => by rw [← hAe]; exact Or.inr h
  have hS : va_S A s.heap s.heap [] := va_S.rf
  have hN : zN s := hE.1
  have hP : va_P D vwCl [(h0, .inr (10, [.ref h1, .ref h2, .ref h3, .ref h4, .ref h5, .ref h6, .int v.2.2.2.2.2.2.1, .ref h7, .ref h8, .ref h9, .ref h10, .int v.2.2.2.2.2.2.2.2.2.2.2.1, .int v.2.2.2.2.2.2.2.2.2.2.2.2.1, .int v.2.2.2.2.2.2.2.2.2.2.2.2.2.1, .ref h11, .int v.2.2.2.2.2.2.2.2.2.2.2.2.2.2.2])), (h1, .inl ((cA 1), 85, .inl v.1)), (h2, .inl ((cA 0), 9, .inr (.inl v.2.1))), (h3, .inl ((cA 1), 85, .inl v.2.2.1)), (h4, .inl ((cA 0), 9, .inr (.inl v.2.2.2.1))), (h5, .inl ((cA 1), 510, .inl v.2.2.2.2.1)), (h6, .inl ((cA 0), 54, .inr (.inl v.2.2.2.2.2.1))), (h7, .inl ((cA 1), 170, .inl v.2.2.2.2.2.2.2.1)), (h8, .inl ((cA 0), 18, .inr (.inl v.2.2.2.2.2.2.2.2.1))), (h9, .inl ((cA 2), 2, .inl v.2.2.2.2.2.2.2.2.2.1)), (h10, .inl ((cA 1), 80, .inl v.2.2.2.2.2.2.2.2.2.2.1)), (h11, .inl ((cA 1), 60, .inl v.2.2.2.2.2.2.2.2.2.2.2.2.2.2.1))] s.heap := hP
  have hD : va_D A [(h0, .inr (10, [.ref h1, .ref h2, .ref h3, .ref h4, .ref h5, .ref h6, .int v.2.2.2.2.2.2.1, .ref h7, .ref h8, .ref h9, .ref h10, .int v.2.2.2.2.2.2.2.2.2.2.2.1, .int v.2.2.2.2.2.2.2.2.2.2.2.2.1, .int v.2.2.2.2.2.2.2.2.2.2.2.2.2.1, .ref h11, .int v.2.2.2.2.2.2.2.2.2.2.2.2.2.2.2])), (h1, .inl ((cA 1), 85, .inl v.1)), (h2, .inl ((cA 0), 9, .inr (.inl v.2.1))), (h3, .inl ((cA 1), 85, .inl v.2.2.1)), (h4, .inl ((cA 0), 9, .inr (.inl v.2.2.2.1))), (h5, .inl ((cA 1), 510, .inl v.2.2.2.2.1)), (h6, .inl ((cA 0), 54, .inr (.inl v.2.2.2.2.2.1))), (h7, .inl ((cA 1), 170, .inl v.2.2.2.2.2.2.2.1)), (h8, .inl ((cA 0), 18, .inr (.inl v.2.2.2.2.2.2.2.2.1))), (h9, .inl ((cA 2), 2, .inl v.2.2.2.2.2.2.2.2.2.1)), (h10, .inl ((cA 1), 80, .inl v.2.2.2.2.2.2.2.2.2.2.1)), (h11, .inl ((cA 1), 60, .inl v.2.2.2.2.2.2.2.2.2.2.2.2.2.2.1))] := hD
  have hl := lv_entry ([.ref h0, .int x1, .int x2]) (n := 4) (Nat.le_of_ble_eq_true rfl)
  rw [lg_entry_eq]
  generalize (lg_sl ([.ref h0, .int x1, .int x2]) ++ List.replicate (4 - (lg_sl ([.ref h0, .int x1, .int x2])).length) Slot.unset).toArray = ls at hl ⊢
  have hl : lv_has ls 4 [(0, .ref h0), (1, .int x1), (2, .int x2)] := hl
  refine z_genQ (fun Q hQ => ?_)
  refine lv_iload_n hx hb dX10_steer_0 rfl (lv_at hl 1 rfl) ?_
  refine z_Ri (va_runS (As := [.int x1]) (rest := []) ⟨hx, hb, hml, hown, hts⟩ (c_X10_isCourse l D cA  x1) (va_cwS 1 hts gX10_steer_X10_isCourse rfl rfl rfl (by decide +kernel) ⟨Nat.le_of_ble_eq_true rfl, Nat.le_of_ble_eq_true rfl⟩) (zqSR0 hK hN) rfl rfl hl.1 rfl (lv_room (Nat.le_of_ble_eq_true rfl)) dX10_steer_1 ⟨Nat.le_of_ble_eq_true rfl, Nat.le_of_ble_eq_true rfl⟩) ?_
  refine lv_if_eq (tgt := 14) hx hb dX10_steer_4 (by decide) (fun c_1 => ?_) (fun c_1 => ?_)
  · skip
    refine lv_bipush (v := -2) hx hb dX10_steer_14 (by decide) ?_
    have e9 : (fm_steer pm v x1 x2) = ((-2 : Int32), v) := by unfold fm_steer; simp only [if_pos c_1] <;> rfl
    have hP9 : va_P D vwCl (wX10 cA h0 h1 h2 h3 h4 h5 h6 h7 h8 h9 h10 h11 (v : vX10)) s.heap := hP
    have hD9 : va_D A (wX10 cA h0 h1 h2 h3 h4 h5 h6 h7 h8 h9 h10 h11 (v : vX10)) := hD
    subst hQ
    exact W.iret (v := (-2 : Int32)) hx hb hr (fun t ht hW => ⟨⟨(-2 : Int32), v, rfl, e9.symm, ⟨by rw [ht]; exact hP9, va_K.moved hW.alike hK, hD9⟩⟩, hS.F ht⟩) hS.2.2 dX10_steer_16
  · skip
    refine lv_iload_n hx hb dX10_steer_7 rfl (lv_at hl 2 rfl) ?_
    refine z_Ri (va_runS (As := [.int x2]) (rest := []) ⟨hx, hb, hml, hown, hts⟩ (c_X10_isSpeed l D cA  x2) (va_cwS 1 hts gX10_steer_X10_isSpeed rfl rfl rfl (by decide +kernel) ⟨Nat.le_of_ble_eq_true rfl, Nat.le_of_ble_eq_true rfl⟩) (zqSR0 hK hN) rfl rfl hl.1 rfl (lv_room (Nat.le_of_ble_eq_true rfl)) dX10_steer_8 ⟨Nat.le_of_ble_eq_true rfl, Nat.le_of_ble_eq_true rfl⟩) ?_
    refine lv_if_ne (tgt := 17) hx hb dX10_steer_11 (by decide) (fun c_2 => ?_) (fun c_2 => ?_)
    · skip
      refine lv_aload_n hx hb dX10_steer_17 rfl (lv_at hl 0 rfl) ?_
      refine z_Hv (wt := fun (u_3 : vX10) => [(h0, .inr (10, [.ref h1, .ref h2, .ref h3, .ref h4, .ref h5, .ref h6, .int u_3.2.2.2.2.2.2.1, .ref h7, .ref h8, .ref h9, .ref h10, .int u_3.2.2.2.2.2.2.2.2.2.2.2.1, .int u_3.2.2.2.2.2.2.2.2.2.2.2.2.1, .int u_3.2.2.2.2.2.2.2.2.2.2.2.2.2.1, .ref h11, .int u_3.2.2.2.2.2.2.2.2.2.2.2.2.2.2.2])), (h1, .inl ((cA 1), 85, .inl u_3.1)), (h2, .inl ((cA 0), 9, .inr (.inl u_3.2.1))), (h3, .inl ((cA 1), 85, .inl u_3.2.2.1)), (h4, .inl ((cA 0), 9, .inr (.inl u_3.2.2.2.1))), (h5, .inl ((cA 1), 510, .inl u_3.2.2.2.2.1)), (h6, .inl ((cA 0), 54, .inr (.inl u_3.2.2.2.2.2.1))), (h7, .inl ((cA 1), 170, .inl u_3.2.2.2.2.2.2.2.1)), (h8, .inl ((cA 0), 18, .inr (.inl u_3.2.2.2.2.2.2.2.2.1))), (h9, .inl ((cA 2), 2, .inl u_3.2.2.2.2.2.2.2.2.2.1)), (h10, .inl ((cA 1), 80, .inl u_3.2.2.2.2.2.2.2.2.2.2.1)), (h11, .inl ((cA 1), 60, .inl u_3.2.2.2.2.2.2.2.2.2.2.2.2.2.2.1))]) (va_runV (As := []) (rest := []) ⟨hx, hb, hml, hown, hts⟩ (c_X10_keep l D cA h0 h1 h2 h3 h4 h5 h6 h7 h8 h9 h10 h11 s.heap.size pm v hpm hp6) (cwV 0 hts gX10_steer_X10_keep rfl rfl rfl (by decide +kernel) ⟨Nat.le_of_ble_eq_true rfl, Nat.le_of_ble_eq_true rfl⟩) (zqV hK hP hD hS hA hE (z_c1 (a := []) (b := []) rfl) 0 rfl rfl) rfl rfl hl.1 rfl (lv_room (Nat.le_of_ble_eq_true rfl)) dX10_steer_18 ⟨Nat.le_of_ble_eq_true rfl, Nat.le_of_ble_eq_true rfl⟩) hP hD hS hA (z_c1 (a := []) (b := []) rfl) (fun u_3 => (z_c1' (a := []) (b := []) rfl)) (fun u_3 H locs eu_3 hP hD hS => ?_)
      have hP : va_P D vwCl [(h0, .inr (10, [.ref h1, .ref h2, .ref h3, .ref h4, .ref h5, .ref h6, .int u_3.2.2.2.2.2.2.1, .ref h7, .ref h8, .ref h9, .ref h10, .int u_3.2.2.2.2.2.2.2.2.2.2.2.1, .int u_3.2.2.2.2.2.2.2.2.2.2.2.2.1, .int u_3.2.2.2.2.2.2.2.2.2.2.2.2.2.1, .ref h11, .int u_3.2.2.2.2.2.2.2.2.2.2.2.2.2.2.2])), (h1, .inl ((cA 1), 85, .inl u_3.1)), (h2, .inl ((cA 0), 9, .inr (.inl u_3.2.1))), (h3, .inl ((cA 1), 85, .inl u_3.2.2.1)), (h4, .inl ((cA 0), 9, .inr (.inl u_3.2.2.2.1))), (h5, .inl ((cA 1), 510, .inl u_3.2.2.2.2.1)), (h6, .inl ((cA 0), 54, .inr (.inl u_3.2.2.2.2.2.1))), (h7, .inl ((cA 1), 170, .inl u_3.2.2.2.2.2.2.2.1)), (h8, .inl ((cA 0), 18, .inr (.inl u_3.2.2.2.2.2.2.2.2.1))), (h9, .inl ((cA 2), 2, .inl u_3.2.2.2.2.2.2.2.2.2.1)), (h10, .inl ((cA 1), 80, .inl u_3.2.2.2.2.2.2.2.2.2.2.1)), (h11, .inl ((cA 1), 60, .inl u_3.2.2.2.2.2.2.2.2.2.2.2.2.2.2.1))] H := hP
      have hD : va_D A [(h0, .inr (10, [.ref h1, .ref h2, .ref h3, .ref h4, .ref h5, .ref h6, .int u_3.2.2.2.2.2.2.1, .ref h7, .ref h8, .ref h9, .ref h10, .int u_3.2.2.2.2.2.2.2.2.2.2.2.1, .int u_3.2.2.2.2.2.2.2.2.2.2.2.2.1, .int u_3.2.2.2.2.2.2.2.2.2.2.2.2.2.1, .ref h11, .int u_3.2.2.2.2.2.2.2.2.2.2.2.2.2.2.2])), (h1, .inl ((cA 1), 85, .inl u_3.1)), (h2, .inl ((cA 0), 9, .inr (.inl u_3.2.1))), (h3, .inl ((cA 1), 85, .inl u_3.2.2.1)), (h4, .inl ((cA 0), 9, .inr (.inl u_3.2.2.2.1))), (h5, .inl ((cA 1), 510, .inl u_3.2.2.2.2.1)), (h6, .inl ((cA 0), 54, .inr (.inl u_3.2.2.2.2.2.1))), (h7, .inl ((cA 1), 170, .inl u_3.2.2.2.2.2.2.2.1)), (h8, .inl ((cA 0), 18, .inr (.inl u_3.2.2.2.2.2.2.2.2.1))), (h9, .inl ((cA 2), 2, .inl u_3.2.2.2.2.2.2.2.2.2.1)), (h10, .inl ((cA 1), 80, .inl u_3.2.2.2.2.2.2.2.2.2.2.1)), (h11, .inl ((cA 1), 60, .inl u_3.2.2.2.2.2.2.2.2.2.2.2.2.2.2.1))] := hD
      refine lv_aload_n hx hb dX10_steer_21 rfl (lv_at hl 0 rfl) ?_
      refine va_get (D := D) (ci := 10) (v := .ref h1) (C := RX10) (T := TX10) (N := 16) hx hb hts hinX10 hown hK hP 0 rfl rfl 0 (by decide) (hts (.fieldLink RX10 7 "GyroTrainerModel" "at" "[I") (List.mem_of_getElem? (i := 1) rfl)) (fun _ h9 => h9) rfl dX10_steer_22 ?_
      refine lv_iconst (v := 3) hx hb dX10_steer_25 (by decide) ?_
      refine z_iald (k := 3) hx hb hK hP 1 1 rfl rfl rfl (by decide) (by decide) dX10_steer_26 ?_
      refine lv_istore_n (lv' := [(3, .int (u_3.1 3)), (0, .ref h0), (1, .int x1), (2, .int x2)]) hx hb dX10_steer_27 rfl hl (by decide) rfl (fun ls hl => ?_)
      refine lv_aload_n hx hb dX10_steer_28 rfl (lv_at hl 1 rfl) ?_
      refine va_get (D := D) (ci := 10) (v := .ref h1) (C := RX10) (T := TX10) (N := 16) hx hb hts hinX10 hown hK hP 0 rfl rfl 0 (by decide) (hts (.fieldLink RX10 7 "GyroTrainerModel" "at" "[I") (List.mem_of_getElem? (i := 1) rfl)) (fun _ h9 => h9) rfl dX10_steer_29 ?_
      refine lv_iconst (v := 3) hx hb dX10_steer_32 (by decide) ?_
      refine lv_iconst (v := 0) hx hb dX10_steer_33 (by decide) ?_
      refine z_iast (k := 3) hx hb hK hP hD hS 1 1 rfl rfl rfl (by decide) (by decide) dX10_steer_34 (fun g_5 eg_5 H locs hP hD hS => ?_)
      have hP : va_P D vwCl [(h0, .inr (10, [.ref h1, .ref h2, .ref h3, .ref h4, .ref h5, .ref h6, .int u_3.2.2.2.2.2.2.1, .ref h7, .ref h8, .ref h9, .ref h10, .int u_3.2.2.2.2.2.2.2.2.2.2.2.1, .int u_3.2.2.2.2.2.2.2.2.2.2.2.2.1, .int u_3.2.2.2.2.2.2.2.2.2.2.2.2.2.1, .ref h11, .int u_3.2.2.2.2.2.2.2.2.2.2.2.2.2.2.2])), (h1, .inl ((cA 1), 85, .inl g_5)), (h2, .inl ((cA 0), 9, .inr (.inl u_3.2.1))), (h3, .inl ((cA 1), 85, .inl u_3.2.2.1)), (h4, .inl ((cA 0), 9, .inr (.inl u_3.2.2.2.1))), (h5, .inl ((cA 1), 510, .inl u_3.2.2.2.2.1)), (h6, .inl ((cA 0), 54, .inr (.inl u_3.2.2.2.2.2.1))), (h7, .inl ((cA 1), 170, .inl u_3.2.2.2.2.2.2.2.1)), (h8, .inl ((cA 0), 18, .inr (.inl u_3.2.2.2.2.2.2.2.2.1))), (h9, .inl ((cA 2), 2, .inl u_3.2.2.2.2.2.2.2.2.2.1)), (h10, .inl ((cA 1), 80, .inl u_3.2.2.2.2.2.2.2.2.2.2.1)), (h11, .inl ((cA 1), 60, .inl u_3.2.2.2.2.2.2.2.2.2.2.2.2.2.2.1))] H := hP
      have hD : va_D A [(h0, .inr (10, [.ref h1, .ref h2, .ref h3, .ref h4, .ref h5, .ref h6, .int u_3.2.2.2.2.2.2.1, .ref h7, .ref h8, .ref h9, .ref h10, .int u_3.2.2.2.2.2.2.2.2.2.2.2.1, .int u_3.2.2.2.2.2.2.2.2.2.2.2.2.1, .int u_3.2.2.2.2.2.2.2.2.2.2.2.2.2.1, .ref h11, .int u_3.2.2.2.2.2.2.2.2.2.2.2.2.2.2.2])), (h1, .inl ((cA 1), 85, .inl g_5)), (h2, .inl ((cA 0), 9, .inr (.inl u_3.2.1))), (h3, .inl ((cA 1), 85, .inl u_3.2.2.1)), (h4, .inl ((cA 0), 9, .inr (.inl u_3.2.2.2.1))), (h5, .inl ((cA 1), 510, .inl u_3.2.2.2.2.1)), (h6, .inl ((cA 0), 54, .inr (.inl u_3.2.2.2.2.2.1))), (h7, .inl ((cA 1), 170, .inl u_3.2.2.2.2.2.2.2.1)), (h8, .inl ((cA 0), 18, .inr (.inl u_3.2.2.2.2.2.2.2.2.1))), (h9, .inl ((cA 2), 2, .inl u_3.2.2.2.2.2.2.2.2.2.1)), (h10, .inl ((cA 1), 80, .inl u_3.2.2.2.2.2.2.2.2.2.2.1)), (h11, .inl ((cA 1), 60, .inl u_3.2.2.2.2.2.2.2.2.2.2.2.2.2.2.1))] := hD
      refine lv_aload_n hx hb dX10_steer_35 rfl (lv_at hl 1 rfl) ?_
      refine va_get (D := D) (ci := 10) (v := .ref h1) (C := RX10) (T := TX10) (N := 16) hx hb hts hinX10 hown hK hP 0 rfl rfl 0 (by decide) (hts (.fieldLink RX10 7 "GyroTrainerModel" "at" "[I") (List.mem_of_getElem? (i := 1) rfl)) (fun _ h9 => h9) rfl dX10_steer_36 ?_
      refine lv_iconst (v := 1) hx hb dX10_steer_39 (by decide) ?_
      refine lv_iload_n hx hb dX10_steer_40 rfl (lv_at hl 2 rfl) ?_
      refine z_iast (k := 1) hx hb hK hP hD hS 1 1 rfl rfl rfl (by decide) (by decide) dX10_steer_41 (fun g_6 eg_6 H locs hP hD hS => ?_)
      have hP : va_P D vwCl [(h0, .inr (10, [.ref h1, .ref h2, .ref h3, .ref h4, .ref h5, .ref h6, .int u_3.2.2.2.2.2.2.1, .ref h7, .ref h8, .ref h9, .ref h10, .int u_3.2.2.2.2.2.2.2.2.2.2.2.1, .int u_3.2.2.2.2.2.2.2.2.2.2.2.2.1, .int u_3.2.2.2.2.2.2.2.2.2.2.2.2.2.1, .ref h11, .int u_3.2.2.2.2.2.2.2.2.2.2.2.2.2.2.2])), (h1, .inl ((cA 1), 85, .inl g_6)), (h2, .inl ((cA 0), 9, .inr (.inl u_3.2.1))), (h3, .inl ((cA 1), 85, .inl u_3.2.2.1)), (h4, .inl ((cA 0), 9, .inr (.inl u_3.2.2.2.1))), (h5, .inl ((cA 1), 510, .inl u_3.2.2.2.2.1)), (h6, .inl ((cA 0), 54, .inr (.inl u_3.2.2.2.2.2.1))), (h7, .inl ((cA 1), 170, .inl u_3.2.2.2.2.2.2.2.1)), (h8, .inl ((cA 0), 18, .inr (.inl u_3.2.2.2.2.2.2.2.2.1))), (h9, .inl ((cA 2), 2, .inl u_3.2.2.2.2.2.2.2.2.2.1)), (h10, .inl ((cA 1), 80, .inl u_3.2.2.2.2.2.2.2.2.2.2.1)), (h11, .inl ((cA 1), 60, .inl u_3.2.2.2.2.2.2.2.2.2.2.2.2.2.2.1))] H := hP
      have hD : va_D A [(h0, .inr (10, [.ref h1, .ref h2, .ref h3, .ref h4, .ref h5, .ref h6, .int u_3.2.2.2.2.2.2.1, .ref h7, .ref h8, .ref h9, .ref h10, .int u_3.2.2.2.2.2.2.2.2.2.2.2.1, .int u_3.2.2.2.2.2.2.2.2.2.2.2.2.1, .int u_3.2.2.2.2.2.2.2.2.2.2.2.2.2.1, .ref h11, .int u_3.2.2.2.2.2.2.2.2.2.2.2.2.2.2.2])), (h1, .inl ((cA 1), 85, .inl g_6)), (h2, .inl ((cA 0), 9, .inr (.inl u_3.2.1))), (h3, .inl ((cA 1), 85, .inl u_3.2.2.1)), (h4, .inl ((cA 0), 9, .inr (.inl u_3.2.2.2.1))), (h5, .inl ((cA 1), 510, .inl u_3.2.2.2.2.1)), (h6, .inl ((cA 0), 54, .inr (.inl u_3.2.2.2.2.2.1))), (h7, .inl ((cA 1), 170, .inl u_3.2.2.2.2.2.2.2.1)), (h8, .inl ((cA 0), 18, .inr (.inl u_3.2.2.2.2.2.2.2.2.1))), (h9, .inl ((cA 2), 2, .inl u_3.2.2.2.2.2.2.2.2.2.1)), (h10, .inl ((cA 1), 80, .inl u_3.2.2.2.2.2.2.2.2.2.2.1)), (h11, .inl ((cA 1), 60, .inl u_3.2.2.2.2.2.2.2.2.2.2.2.2.2.2.1))] := hD
      refine lv_aload_n hx hb dX10_steer_42 rfl (lv_at hl 1 rfl) ?_
      refine va_get (D := D) (ci := 10) (v := .ref h1) (C := RX10) (T := TX10) (N := 16) hx hb hts hinX10 hown hK hP 0 rfl rfl 0 (by decide) (hts (.fieldLink RX10 7 "GyroTrainerModel" "at" "[I") (List.mem_of_getElem? (i := 1) rfl)) (fun _ h9 => h9) rfl dX10_steer_43 ?_
      refine lv_iconst (v := 2) hx hb dX10_steer_46 (by decide) ?_
      refine lv_iload_n hx hb dX10_steer_47 rfl (lv_at hl 3 rfl) ?_
      refine z_iast (k := 2) hx hb hK hP hD hS 1 1 rfl rfl rfl (by decide) (by decide) dX10_steer_48 (fun g_7 eg_7 H locs hP hD hS => ?_)
      have hP : va_P D vwCl [(h0, .inr (10, [.ref h1, .ref h2, .ref h3, .ref h4, .ref h5, .ref h6, .int u_3.2.2.2.2.2.2.1, .ref h7, .ref h8, .ref h9, .ref h10, .int u_3.2.2.2.2.2.2.2.2.2.2.2.1, .int u_3.2.2.2.2.2.2.2.2.2.2.2.2.1, .int u_3.2.2.2.2.2.2.2.2.2.2.2.2.2.1, .ref h11, .int u_3.2.2.2.2.2.2.2.2.2.2.2.2.2.2.2])), (h1, .inl ((cA 1), 85, .inl g_7)), (h2, .inl ((cA 0), 9, .inr (.inl u_3.2.1))), (h3, .inl ((cA 1), 85, .inl u_3.2.2.1)), (h4, .inl ((cA 0), 9, .inr (.inl u_3.2.2.2.1))), (h5, .inl ((cA 1), 510, .inl u_3.2.2.2.2.1)), (h6, .inl ((cA 0), 54, .inr (.inl u_3.2.2.2.2.2.1))), (h7, .inl ((cA 1), 170, .inl u_3.2.2.2.2.2.2.2.1)), (h8, .inl ((cA 0), 18, .inr (.inl u_3.2.2.2.2.2.2.2.2.1))), (h9, .inl ((cA 2), 2, .inl u_3.2.2.2.2.2.2.2.2.2.1)), (h10, .inl ((cA 1), 80, .inl u_3.2.2.2.2.2.2.2.2.2.2.1)), (h11, .inl ((cA 1), 60, .inl u_3.2.2.2.2.2.2.2.2.2.2.2.2.2.2.1))] H := hP
      have hD : va_D A [(h0, .inr (10, [.ref h1, .ref h2, .ref h3, .ref h4, .ref h5, .ref h6, .int u_3.2.2.2.2.2.2.1, .ref h7, .ref h8, .ref h9, .ref h10, .int u_3.2.2.2.2.2.2.2.2.2.2.2.1, .int u_3.2.2.2.2.2.2.2.2.2.2.2.2.1, .int u_3.2.2.2.2.2.2.2.2.2.2.2.2.2.1, .ref h11, .int u_3.2.2.2.2.2.2.2.2.2.2.2.2.2.2.2])), (h1, .inl ((cA 1), 85, .inl g_7)), (h2, .inl ((cA 0), 9, .inr (.inl u_3.2.1))), (h3, .inl ((cA 1), 85, .inl u_3.2.2.1)), (h4, .inl ((cA 0), 9, .inr (.inl u_3.2.2.2.1))), (h5, .inl ((cA 1), 510, .inl u_3.2.2.2.2.1)), (h6, .inl ((cA 0), 54, .inr (.inl u_3.2.2.2.2.2.1))), (h7, .inl ((cA 1), 170, .inl u_3.2.2.2.2.2.2.2.1)), (h8, .inl ((cA 0), 18, .inr (.inl u_3.2.2.2.2.2.2.2.2.1))), (h9, .inl ((cA 2), 2, .inl u_3.2.2.2.2.2.2.2.2.2.1)), (h10, .inl ((cA 1), 80, .inl u_3.2.2.2.2.2.2.2.2.2.2.1)), (h11, .inl ((cA 1), 60, .inl u_3.2.2.2.2.2.2.2.2.2.2.2.2.2.2.1))] := hD
      refine lv_iload_n hx hb dX10_steer_49 rfl (lv_at hl 0 rfl) ?_
      have e9 : (fm_steer pm v x1 x2) = ((u_3.1 3), (g_7, u_3.2)) := by unfold fm_steer; simp only [← eu_3, ← eg_5, ← eg_6, ← eg_7, if_neg c_1, if_neg c_2] <;> rfl
      have hP9 : va_P D vwCl (wX10 cA h0 h1 h2 h3 h4 h5 h6 h7 h8 h9 h10 h11 ((g_7, u_3.2) : vX10)) H := hP
      have hD9 : va_D A (wX10 cA h0 h1 h2 h3 h4 h5 h6 h7 h8 h9 h10 h11 ((g_7, u_3.2) : vX10)) := hD
      subst hQ
      exact W.iret (v := (u_3.1 3)) hx hb hr (fun t ht hW => ⟨⟨(u_3.1 3), (g_7, u_3.2), rfl, e9.symm, ⟨by rw [ht]; exact hP9, va_K.moved hW.alike hK, hD9⟩⟩, hS.F ht⟩) hS.2.2 dX10_steer_50
    · skip
      refine lv_bipush (v := -2) hx hb dX10_steer_14 (by decide) ?_
      have e9 : (fm_steer pm v x1 x2) = ((-2 : Int32), v) := by unfold fm_steer; simp only [if_neg c_1, if_pos c_2] <;> rfl
      have hP9 : va_P D vwCl (wX10 cA h0 h1 h2 h3 h4 h5 h6 h7 h8 h9 h10 h11 (v : vX10)) s.heap := hP
      have hD9 : va_D A (wX10 cA h0 h1 h2 h3 h4 h5 h6 h7 h8 h9 h10 h11 (v : vX10)) := hD
      subst hQ
      exact W.iret (v := (-2 : Int32)) hx hb hr (fun t ht hW => ⟨⟨(-2 : Int32), v, rfl, e9.symm, ⟨by rw [ht]; exact hP9, va_K.moved hW.alike hK, hD9⟩⟩, hS.F ht⟩) hS.2.2 dX10_steer_16
set_option maxHeartbeats 4000000 in
set_option maxRecDepth 100000 in
theorem c_X10_damp (l : Launch) (D : va_G) (cA : Nat → ClassId) (h0 h1 h2 h3 h4 h5 h6 h7 h8 h9 h10 h11 : Nat) (sz : Nat) (pm : Nat) (v : vX10) (x1 : Int32) (hpm : v.2.2.2.2.2.2.1 = nI pm) (hp6 : pm ≤ 6) : Met l yX10_damp wsX10_damp ({ frames := 1, cells := 0, slots := 0, locals := 22 }) (va_Pc [.ref h0, .int x1] (zPre D (zty cA) (wX10 cA h0 h1 h2 h3 h4 h5 h6 h7 h8 h9 h10 h11 v) sz)) (va_Qi (fun (x : Int32) (u : vX10) => (x, u) = (fm_damp pm v x1)) (fun u => zPost D (zty cA) (va_A (wX10 cA h0 h1 h2 h3 h4 h5 h6 h7 h8 h9 h10 h11 v) sz) (wX10 cA h0 h1 h2 h3 h4 h5 h6 h7 h8 h9 h10 h11 u)) (va_A (wX10 cA h0 h1 h2 h3 h4 h5 h6 h7 h8 h9 h10 h11 v) sz)) 0 0 (va_A (wX10 cA h0 h1 h2 h3 h4 h5 h6 h7 h8 h9 h10 h11 v) sz) := by
  refine Met.ofW (cc := cX10_damp) (maxL := 3) (ret := (some .int)) (by decide) rfl ?_
  intro p e s m args below meth c s₁ B hml hv
  obtain ⟨rfl, hsz, hP, hK, hD0, hE⟩ := hv
  have hx := B.exec
  have hb := B.bytes
  have hr := B.returns
  have hts := atoms_spec (ws := wsX10_damp) B.pre
  have hown : s.vm.findClass RX10 = some m.cls := findClass_of_methodNamed B.named
  have hlocks := B.notSynchronized
  have hinX10 : ∀ w ∈ u_ws RX10 TX10 16, w ∈ wsX10_damp := fun w h => List.mem_cons_of_mem _ (List.mem_append_right _ h)
  subst hsz
  have hD := hD0.self (sz := s.heap.size)
  generalize hAe : va_A (wX10 cA h0 h1 h2 h3 h4 h5 h6 h7 h8 h9 h10 h11 v) s.heap.size = A at hD hE ⊢
  have hA : ∀ q : Nat, s.heap.size ≤ q → A q := fun q h => by rw [← hAe]; exact Or.inr h
  have hS : va_S A s.heap s.heap [] := va_S.rf
  have hN : zN s := hE.1
  have hP : va_P D vwCl [(h0, .inr (10, [.ref h1, .ref h2, .ref h3, .ref h4, .ref h5, .ref h6, .int v.2.2.2.2.2.2.1, .ref h7, .ref h8, .ref h9, .ref h10, .int v.2.2.2.2.2.2.2.2.2.2.2.1, .int v.2.2.2.2.2.2.2.2.2.2.2.2.1, .int v.2.2.2.2.2.2.2.2.2.2.2.2.2.1, .ref h11, .int v.2.2.2.2.2.2.2.2.2.2.2.2.2.2.2])), (h1, .inl ((cA 1), 85, .inl v.1)), (h2, .inl ((cA 0), 9, .inr (.inl v.2.1))), (h3, .inl ((cA 1), 85, .inl v.2.2.1)), (h4, .inl ((cA 0), 9, .inr (.inl v.2.2.2.1))), (h5, .inl ((cA 1), 510, .inl v.2.2.2.2.1)), (h6, .inl ((cA 0), 54, .inr (.inl v.2.2.2.2.2.1))), (h7, .inl ((cA 1), 170, .inl v.2.2.2.2.2.2.2.1)), (h8, .inl ((cA 0), 18, .inr (.inl v.2.2.2.2.2.2.2.2.1))), (h9, .inl ((cA 2), 2, .inl v.2.2.2.2.2.2.2.2.2.1)), (h10, .inl ((cA 1), 80, .inl v.2.2.2.2.2.2.2.2.2.2.1)), (h11, .inl ((cA 1), 60, .inl v.2.2.2.2.2.2.2.2.2.2.2.2.2.2.1))] s.heap := hP
  have hD : va_D A [(h0, .inr (10, [.ref h1, .ref h2, .ref h3, .ref h4, .ref h5, .ref h6, .int v.2.2.2.2.2.2.1, .ref h7, .ref h8, .ref h9, .ref h10, .int v.2.2.2.2.2.2.2.2.2.2.2.1, .int v.2.2.2.2.2.2.2.2.2.2.2.2.1, .int v.2.2.2.2.2.2.2.2.2.2.2.2.2.1, .ref h11, .int v.2.2.2.2.2.2.2.2.2.2.2.2.2.2.2])), (h1, .inl ((cA 1), 85, .inl v.1)), (h2, .inl ((cA 0), 9, .inr (.inl v.2.1))), (h3, .inl ((cA 1), 85, .inl v.2.2.1)), (h4, .inl ((cA 0), 9, .inr (.inl v.2.2.2.1))), (h5, .inl ((cA 1), 510, .inl v.2.2.2.2.1)), (h6, .inl ((cA 0), 54, .inr (.inl v.2.2.2.2.2.1))), (h7, .inl ((cA 1), 170, .inl v.2.2.2.2.2.2.2.1)), (h8, .inl ((cA 0), 18, .inr (.inl v.2.2.2.2.2.2.2.2.1))), (h9, .inl ((cA 2), 2, .inl v.2.2.2.2.2.2.2.2.2.1)), (h10, .inl ((cA 1), 80, .inl v.2.2.2.2.2.2.2.2.2.2.1)), (h11, .inl ((cA 1), 60, .inl v.2.2.2.2.2.2.2.2.2.2.2.2.2.2.1))] := hD
  have hl := lv_entry ([.ref h0, .int x1]) (n := 3) (Nat.le_of_ble_eq_true rfl)
  rw [lg_entry_eq]
  generalize (lg_sl ([.ref h0, .int x1]) ++ List.replicate (3 - (lg_sl ([.ref h0, .int x1])).length) Slot.unset).toArray = ls at hl ⊢
  have hl : lv_has ls 3 [(0, .ref h0), (1, .int x1)] := hl
  refine z_genQ (fun Q hQ => ?_)
  refine lv_iload_n hx hb dX10_damp_0 rfl (lv_at hl 1 rfl) ?_
  refine lv_iconst (v := 0) hx hb dX10_damp_1 (by decide) ?_
  refine lv_iconst (v := 4) hx hb dX10_damp_2 (by decide) ?_
  refine z_Ri (va_runS (As := [.int x1, .int (0 : Int32), .int (4 : Int32)]) (rest := []) ⟨hx, hb, hml, hown, hts⟩ (c_X10_in l D cA  x1 (0 : Int32) (4 : Int32)) (va_cwS 3 hts gX10_damp_X10_in rfl rfl rfl (by decide +kernel) ⟨Nat.le_of_ble_eq_true rfl, Nat.le_of_ble_eq_true rfl⟩) (zqSR0 hK hN) rfl rfl hl.1 rfl (lv_room (Nat.le_of_ble_eq_true rfl)) dX10_damp_3 ⟨Nat.le_of_ble_eq_true rfl, Nat.le_of_ble_eq_true rfl⟩) ?_
  refine lv_if_ne (tgt := 12) hx hb dX10_damp_6 (by decide) (fun c_1 => ?_) (fun c_1 => ?_)
  · skip
    refine lv_aload_n hx hb dX10_damp_12 rfl (lv_at hl 0 rfl) ?_
    refine va_get (D := D) (ci := 10) (v := .ref h1) (C := RX10) (T := TX10) (N := 16) hx hb hts hinX10 hown hK hP 0 rfl rfl 0 (by decide) (hts (.fieldLink RX10 7 "GyroTrainerModel" "at" "[I") (List.mem_of_getElem? (i := 1) rfl)) (fun _ h9 => h9) rfl dX10_damp_13 ?_
    refine lv_bipush (v := 9) hx hb dX10_damp_16 (by decide) ?_
    refine z_iald (k := 9) hx hb hK hP 1 1 rfl rfl rfl (by decide) (by decide) dX10_damp_18 ?_
    refine lv_if_lt (tgt := 49) hx hb dX10_damp_19 (by decide) (fun c_2 => ?_) (fun c_2 => ?_)
    · skip
      refine lv_aload_n hx hb dX10_damp_49 rfl (lv_at hl 0 rfl) ?_
      refine z_Hv (wt := fun (u_3 : vX10) => [(h0, .inr (10, [.ref h1, .ref h2, .ref h3, .ref h4, .ref h5, .ref h6, .int u_3.2.2.2.2.2.2.1, .ref h7, .ref h8, .ref h9, .ref h10, .int u_3.2.2.2.2.2.2.2.2.2.2.2.1, .int u_3.2.2.2.2.2.2.2.2.2.2.2.2.1, .int u_3.2.2.2.2.2.2.2.2.2.2.2.2.2.1, .ref h11, .int u_3.2.2.2.2.2.2.2.2.2.2.2.2.2.2.2])), (h1, .inl ((cA 1), 85, .inl u_3.1)), (h2, .inl ((cA 0), 9, .inr (.inl u_3.2.1))), (h3, .inl ((cA 1), 85, .inl u_3.2.2.1)), (h4, .inl ((cA 0), 9, .inr (.inl u_3.2.2.2.1))), (h5, .inl ((cA 1), 510, .inl u_3.2.2.2.2.1)), (h6, .inl ((cA 0), 54, .inr (.inl u_3.2.2.2.2.2.1))), (h7, .inl ((cA 1), 170, .inl u_3.2.2.2.2.2.2.2.1)), (h8, .inl ((cA 0), 18, .inr (.inl u_3.2.2.2.2.2.2.2.2.1))), (h9, .inl ((cA 2), 2, .inl u_3.2.2.2.2.2.2.2.2.2.1)), (h10, .inl ((cA 1), 80, .inl u_3.2.2.2.2.2.2.2.2.2.2.1)), (h11, .inl ((cA 1), 60, .inl u_3.2.2.2.2.2.2.2.2.2.2.2.2.2.2.1))]) (va_runV (As := []) (rest := []) ⟨hx, hb, hml, hown, hts⟩ (c_X10_keep l D cA h0 h1 h2 h3 h4 h5 h6 h7 h8 h9 h10 h11 s.heap.size pm v hpm hp6) (cwV 0 hts gX10_damp_X10_keep rfl rfl rfl (by decide +kernel) ⟨Nat.le_of_ble_eq_true rfl, Nat.le_of_ble_eq_true rfl⟩) (zqV hK hP hD hS hA hE (z_c1 (a := []) (b := []) rfl) 0 rfl rfl) rfl rfl hl.1 rfl (lv_room (Nat.le_of_ble_eq_true rfl)) dX10_damp_50 ⟨Nat.le_of_ble_eq_true rfl, Nat.le_of_ble_eq_true rfl⟩) hP hD hS hA (z_c1 (a := []) (b := []) rfl) (fun u_3 => (z_c1' (a := []) (b := []) rfl)) (fun u_3 H locs eu_3 hP hD hS => ?_)
      have hP : va_P D vwCl [(h0, .inr (10, [.ref h1, .ref h2, .ref h3, .ref h4, .ref h5, .ref h6, .int u_3.2.2.2.2.2.2.1, .ref h7, .ref h8, .ref h9, .ref h10, .int u_3.2.2.2.2.2.2.2.2.2.2.2.1, .int u_3.2.2.2.2.2.2.2.2.2.2.2.2.1, .int u_3.2.2.2.2.2.2.2.2.2.2.2.2.2.1, .ref h11, .int u_3.2.2.2.2.2.2.2.2.2.2.2.2.2.2.2])), (h1, .inl ((cA 1), 85, .inl u_3.1)), (h2, .inl ((cA 0), 9, .inr (.inl u_3.2.1))), (h3, .inl ((cA 1), 85, .inl u_3.2.2.1)), (h4, .inl ((cA 0), 9, .inr (.inl u_3.2.2.2.1))), (h5, .inl ((cA 1), 510, .inl u_3.2.2.2.2.1)), (h6, .inl ((cA 0), 54, .inr (.inl u_3.2.2.2.2.2.1))), (h7, .inl ((cA 1), 170, .inl u_3.2.2.2.2.2.2.2.1)), (h8, .inl ((cA 0), 18, .inr (.inl u_3.2.2.2.2.2.2.2.2.1))), (h9, .inl ((cA 2), 2, .inl u_3.2.2.2.2.2.2.2.2.2.1)), (h10, .inl ((cA 1), 80, .inl u_3.2.2.2.2.2.2.2.2.2.2.1)), (h11, .inl ((cA 1), 60, .inl u_3.2.2.2.2.2.2.2.2.2.2.2.2.2.2.1))] H := hP
      have hD : va_D A [(h0, .inr (10, [.ref h1, .ref h2, .ref h3, .ref h4, .ref h5, .ref h6, .int u_3.2.2.2.2.2.2.1, .ref h7, .ref h8, .ref h9, .ref h10, .int u_3.2.2.2.2.2.2.2.2.2.2.2.1, .int u_3.2.2.2.2.2.2.2.2.2.2.2.2.1, .int u_3.2.2.2.2.2.2.2.2.2.2.2.2.2.1, .ref h11, .int u_3.2.2.2.2.2.2.2.2.2.2.2.2.2.2.2])), (h1, .inl ((cA 1), 85, .inl u_3.1)), (h2, .inl ((cA 0), 9, .inr (.inl u_3.2.1))), (h3, .inl ((cA 1), 85, .inl u_3.2.2.1)), (h4, .inl ((cA 0), 9, .inr (.inl u_3.2.2.2.1))), (h5, .inl ((cA 1), 510, .inl u_3.2.2.2.2.1)), (h6, .inl ((cA 0), 54, .inr (.inl u_3.2.2.2.2.2.1))), (h7, .inl ((cA 1), 170, .inl u_3.2.2.2.2.2.2.2.1)), (h8, .inl ((cA 0), 18, .inr (.inl u_3.2.2.2.2.2.2.2.2.1))), (h9, .inl ((cA 2), 2, .inl u_3.2.2.2.2.2.2.2.2.2.1)), (h10, .inl ((cA 1), 80, .inl u_3.2.2.2.2.2.2.2.2.2.2.1)), (h11, .inl ((cA 1), 60, .inl u_3.2.2.2.2.2.2.2.2.2.2.2.2.2.2.1))] := hD
      refine lv_aload_n hx hb dX10_damp_53 rfl (lv_at hl 0 rfl) ?_
      refine va_get (D := D) (ci := 10) (v := .ref h1) (C := RX10) (T := TX10) (N := 16) hx hb hts hinX10 hown hK hP 0 rfl rfl 0 (by decide) (hts (.fieldLink RX10 7 "GyroTrainerModel" "at" "[I") (List.mem_of_getElem? (i := 1) rfl)) (fun _ h9 => h9) rfl dX10_damp_54 ?_
      refine lv_bipush (v := 8) hx hb dX10_damp_57 (by decide) ?_
      refine z_iald (k := 8) hx hb hK hP 1 1 rfl rfl rfl (by decide) (by decide) dX10_damp_59 ?_
      refine lv_istore_n (lv' := [(2, .int (u_3.1 8)), (0, .ref h0), (1, .int x1)]) hx hb dX10_damp_60 rfl hl (by decide) rfl (fun ls hl => ?_)
      refine lv_aload_n hx hb dX10_damp_61 rfl (lv_at hl 1 rfl) ?_
      refine va_get (D := D) (ci := 10) (v := .ref h1) (C := RX10) (T := TX10) (N := 16) hx hb hts hinX10 hown hK hP 0 rfl rfl 0 (by decide) (hts (.fieldLink RX10 7 "GyroTrainerModel" "at" "[I") (List.mem_of_getElem? (i := 1) rfl)) (fun _ h9 => h9) rfl dX10_damp_62 ?_
      refine lv_bipush (v := 8) hx hb dX10_damp_65 (by decide) ?_
      refine lv_iload_n hx hb dX10_damp_67 rfl (lv_at hl 2 rfl) ?_
      refine z_iast (k := 8) hx hb hK hP hD hS 1 1 rfl rfl rfl (by decide) (by decide) dX10_damp_68 (fun g_5 eg_5 H locs hP hD hS => ?_)
      have hP : va_P D vwCl [(h0, .inr (10, [.ref h1, .ref h2, .ref h3, .ref h4, .ref h5, .ref h6, .int u_3.2.2.2.2.2.2.1, .ref h7, .ref h8, .ref h9, .ref h10, .int u_3.2.2.2.2.2.2.2.2.2.2.2.1, .int u_3.2.2.2.2.2.2.2.2.2.2.2.2.1, .int u_3.2.2.2.2.2.2.2.2.2.2.2.2.2.1, .ref h11, .int u_3.2.2.2.2.2.2.2.2.2.2.2.2.2.2.2])), (h1, .inl ((cA 1), 85, .inl g_5)), (h2, .inl ((cA 0), 9, .inr (.inl u_3.2.1))), (h3, .inl ((cA 1), 85, .inl u_3.2.2.1)), (h4, .inl ((cA 0), 9, .inr (.inl u_3.2.2.2.1))), (h5, .inl ((cA 1), 510, .inl u_3.2.2.2.2.1)), (h6, .inl ((cA 0), 54, .inr (.inl u_3.2.2.2.2.2.1))), (h7, .inl ((cA 1), 170, .inl u_3.2.2.2.2.2.2.2.1)), (h8, .inl ((cA 0), 18, .inr (.inl u_3.2.2.2.2.2.2.2.2.1))), (h9, .inl ((cA 2), 2, .inl u_3.2.2.2.2.2.2.2.2.2.1)), (h10, .inl ((cA 1), 80, .inl u_3.2.2.2.2.2.2.2.2.2.2.1)), (h11, .inl ((cA 1), 60, .inl u_3.2.2.2.2.2.2.2.2.2.2.2.2.2.2.1))] H := hP
      have hD : va_D A [(h0, .inr (10, [.ref h1, .ref h2, .ref h3, .ref h4, .ref h5, .ref h6, .int u_3.2.2.2.2.2.2.1, .ref h7, .ref h8, .ref h9, .ref h10, .int u_3.2.2.2.2.2.2.2.2.2.2.2.1, .int u_3.2.2.2.2.2.2.2.2.2.2.2.2.1, .int u_3.2.2.2.2.2.2.2.2.2.2.2.2.2.1, .ref h11, .int u_3.2.2.2.2.2.2.2.2.2.2.2.2.2.2.2])), (h1, .inl ((cA 1), 85, .inl g_5)), (h2, .inl ((cA 0), 9, .inr (.inl u_3.2.1))), (h3, .inl ((cA 1), 85, .inl u_3.2.2.1)), (h4, .inl ((cA 0), 9, .inr (.inl u_3.2.2.2.1))), (h5, .inl ((cA 1), 510, .inl u_3.2.2.2.2.1)), (h6, .inl ((cA 0), 54, .inr (.inl u_3.2.2.2.2.2.1))), (h7, .inl ((cA 1), 170, .inl u_3.2.2.2.2.2.2.2.1)), (h8, .inl ((cA 0), 18, .inr (.inl u_3.2.2.2.2.2.2.2.2.1))), (h9, .inl ((cA 2), 2, .inl u_3.2.2.2.2.2.2.2.2.2.1)), (h10, .inl ((cA 1), 80, .inl u_3.2.2.2.2.2.2.2.2.2.2.1)), (h11, .inl ((cA 1), 60, .inl u_3.2.2.2.2.2.2.2.2.2.2.2.2.2.2.1))] := hD
      refine lv_aload_n hx hb dX10_damp_69 rfl (lv_at hl 1 rfl) ?_
      refine va_get (D := D) (ci := 10) (v := .ref h1) (C := RX10) (T := TX10) (N := 16) hx hb hts hinX10 hown hK hP 0 rfl rfl 0 (by decide) (hts (.fieldLink RX10 7 "GyroTrainerModel" "at" "[I") (List.mem_of_getElem? (i := 1) rfl)) (fun _ h9 => h9) rfl dX10_damp_70 ?_
      refine lv_bipush (v := 9) hx hb dX10_damp_73 (by decide) ?_
      refine lv_aload_n hx hb dX10_damp_75 rfl (lv_at hl 1 rfl) ?_
      refine va_get (D := D) (ci := 10) (v := .ref h1) (C := RX10) (T := TX10) (N := 16) hx hb hts hinX10 hown hK hP 0 rfl rfl 0 (by decide) (hts (.fieldLink RX10 7 "GyroTrainerModel" "at" "[I") (List.mem_of_getElem? (i := 1) rfl)) (fun _ h9 => h9) rfl dX10_damp_76 ?_
      refine lv_bipush (v := 10) hx hb dX10_damp_79 (by decide) ?_
      refine z_iald (k := 10) hx hb hK hP 1 1 rfl rfl rfl (by decide) (by decide) dX10_damp_81 ?_
      refine z_iast (k := 9) hx hb hK hP hD hS 1 1 rfl rfl rfl (by decide) (by decide) dX10_damp_82 (fun g_6 eg_6 H locs hP hD hS => ?_)
      have hP : va_P D vwCl [(h0, .inr (10, [.ref h1, .ref h2, .ref h3, .ref h4, .ref h5, .ref h6, .int u_3.2.2.2.2.2.2.1, .ref h7, .ref h8, .ref h9, .ref h10, .int u_3.2.2.2.2.2.2.2.2.2.2.2.1, .int u_3.2.2.2.2.2.2.2.2.2.2.2.2.1, .int u_3.2.2.2.2.2.2.2.2.2.2.2.2.2.1, .ref h11, .int u_3.2.2.2.2.2.2.2.2.2.2.2.2.2.2.2])), (h1, .inl ((cA 1), 85, .inl g_6)), (h2, .inl ((cA 0), 9, .inr (.inl u_3.2.1))), (h3, .inl ((cA 1), 85, .inl u_3.2.2.1)), (h4, .inl ((cA 0), 9, .inr (.inl u_3.2.2.2.1))), (h5, .inl ((cA 1), 510, .inl u_3.2.2.2.2.1)), (h6, .inl ((cA 0), 54, .inr (.inl u_3.2.2.2.2.2.1))), (h7, .inl ((cA 1), 170, .inl u_3.2.2.2.2.2.2.2.1)), (h8, .inl ((cA 0), 18, .inr (.inl u_3.2.2.2.2.2.2.2.2.1))), (h9, .inl ((cA 2), 2, .inl u_3.2.2.2.2.2.2.2.2.2.1)), (h10, .inl ((cA 1), 80, .inl u_3.2.2.2.2.2.2.2.2.2.2.1)), (h11, .inl ((cA 1), 60, .inl u_3.2.2.2.2.2.2.2.2.2.2.2.2.2.2.1))] H := hP
      have hD : va_D A [(h0, .inr (10, [.ref h1, .ref h2, .ref h3, .ref h4, .ref h5, .ref h6, .int u_3.2.2.2.2.2.2.1, .ref h7, .ref h8, .ref h9, .ref h10, .int u_3.2.2.2.2.2.2.2.2.2.2.2.1, .int u_3.2.2.2.2.2.2.2.2.2.2.2.2.1, .int u_3.2.2.2.2.2.2.2.2.2.2.2.2.2.1, .ref h11, .int u_3.2.2.2.2.2.2.2.2.2.2.2.2.2.2.2])), (h1, .inl ((cA 1), 85, .inl g_6)), (h2, .inl ((cA 0), 9, .inr (.inl u_3.2.1))), (h3, .inl ((cA 1), 85, .inl u_3.2.2.1)), (h4, .inl ((cA 0), 9, .inr (.inl u_3.2.2.2.1))), (h5, .inl ((cA 1), 510, .inl u_3.2.2.2.2.1)), (h6, .inl ((cA 0), 54, .inr (.inl u_3.2.2.2.2.2.1))), (h7, .inl ((cA 1), 170, .inl u_3.2.2.2.2.2.2.2.1)), (h8, .inl ((cA 0), 18, .inr (.inl u_3.2.2.2.2.2.2.2.2.1))), (h9, .inl ((cA 2), 2, .inl u_3.2.2.2.2.2.2.2.2.2.1)), (h10, .inl ((cA 1), 80, .inl u_3.2.2.2.2.2.2.2.2.2.2.1)), (h11, .inl ((cA 1), 60, .inl u_3.2.2.2.2.2.2.2.2.2.2.2.2.2.2.1))] := hD
      refine lv_iload_n hx hb dX10_damp_83 rfl (lv_at hl 0 rfl) ?_
      have e9 : (fm_damp pm v x1) = ((u_3.1 8), (g_6, u_3.2)) := by unfold fm_damp; simp only [← eu_3, ← eg_5, ← eg_6, if_neg c_1, if_pos c_2] <;> rfl
      have hP9 : va_P D vwCl (wX10 cA h0 h1 h2 h3 h4 h5 h6 h7 h8 h9 h10 h11 ((g_6, u_3.2) : vX10)) H := hP
      have hD9 : va_D A (wX10 cA h0 h1 h2 h3 h4 h5 h6 h7 h8 h9 h10 h11 ((g_6, u_3.2) : vX10)) := hD
      subst hQ
      exact W.iret (v := (u_3.1 8)) hx hb hr (fun t ht hW => ⟨⟨(u_3.1 8), (g_6, u_3.2), rfl, e9.symm, ⟨by rw [ht]; exact hP9, va_K.moved hW.alike hK, hD9⟩⟩, hS.F ht⟩) hS.2.2 dX10_damp_84
    · skip
      refine lv_aload_n hx hb dX10_damp_22 rfl (lv_at hl 0 rfl) ?_
      refine va_get (D := D) (ci := 10) (v := .ref h1) (C := RX10) (T := TX10) (N := 16) hx hb hts hinX10 hown hK hP 0 rfl rfl 0 (by decide) (hts (.fieldLink RX10 7 "GyroTrainerModel" "at" "[I") (List.mem_of_getElem? (i := 1) rfl)) (fun _ h9 => h9) rfl dX10_damp_23 ?_
      refine lv_bipush (v := 10) hx hb dX10_damp_26 (by decide) ?_
      refine z_iald (k := 10) hx hb hK hP 1 1 rfl rfl rfl (by decide) (by decide) dX10_damp_28 ?_
      refine lv_aload_n hx hb dX10_damp_29 rfl (lv_at hl 0 rfl) ?_
      refine va_get (D := D) (ci := 10) (v := .ref h1) (C := RX10) (T := TX10) (N := 16) hx hb hts hinX10 hown hK hP 0 rfl rfl 0 (by decide) (hts (.fieldLink RX10 7 "GyroTrainerModel" "at" "[I") (List.mem_of_getElem? (i := 1) rfl)) (fun _ h9 => h9) rfl dX10_damp_30 ?_
      refine lv_bipush (v := 9) hx hb dX10_damp_33 (by decide) ?_
      refine z_iald (k := 9) hx hb hK hP 1 1 rfl rfl rfl (by decide) (by decide) dX10_damp_35 ?_
      refine lv_isub hx hb dX10_damp_36 ?_
      refine lv_aload_n hx hb dX10_damp_37 rfl (lv_at hl 0 rfl) ?_
      refine lv_bipush (v := 8) hx hb dX10_damp_38 (by decide) ?_
      refine z_Ri (va_runV (As := [.int (8 : Int32)]) (rest := [.int ((v.1 10) - (v.1 9))]) ⟨hx, hb, hml, hown, hts⟩ (c_X10_setting l D cA h0 h1 h2 h3 h4 h5 h6 h7 h8 h9 h10 h11 8 v (by decide)) (cwV 1 hts gX10_damp_X10_setting rfl rfl rfl (by decide +kernel) ⟨Nat.le_of_ble_eq_true rfl, Nat.le_of_ble_eq_true rfl⟩) (zqVR hK hP hN (z_c1 (a := []) (b := []) rfl) 0 rfl rfl) rfl rfl hl.1 rfl (lv_room (Nat.le_of_ble_eq_true rfl)) dX10_damp_40 ⟨Nat.le_of_ble_eq_true rfl, Nat.le_of_ble_eq_true rfl⟩) ?_
      refine lv_icmp_ge (tgt := 49) hx hb dX10_damp_43 (by decide) (fun c_7 => ?_) (fun c_7 => ?_)
      · skip
        refine lv_aload_n hx hb dX10_damp_49 rfl (lv_at hl 0 rfl) ?_
        refine z_Hv (wt := fun (u_8 : vX10) => [(h0, .inr (10, [.ref h1, .ref h2, .ref h3, .ref h4, .ref h5, .ref h6, .int u_8.2.2.2.2.2.2.1, .ref h7, .ref h8, .ref h9, .ref h10, .int u_8.2.2.2.2.2.2.2.2.2.2.2.1, .int u_8.2.2.2.2.2.2.2.2.2.2.2.2.1, .int u_8.2.2.2.2.2.2.2.2.2.2.2.2.2.1, .ref h11, .int u_8.2.2.2.2.2.2.2.2.2.2.2.2.2.2.2])), (h1, .inl ((cA 1), 85, .inl u_8.1)), (h2, .inl ((cA 0), 9, .inr (.inl u_8.2.1))), (h3, .inl ((cA 1), 85, .inl u_8.2.2.1)), (h4, .inl ((cA 0), 9, .inr (.inl u_8.2.2.2.1))), (h5, .inl ((cA 1), 510, .inl u_8.2.2.2.2.1)), (h6, .inl ((cA 0), 54, .inr (.inl u_8.2.2.2.2.2.1))), (h7, .inl ((cA 1), 170, .inl u_8.2.2.2.2.2.2.2.1)), (h8, .inl ((cA 0), 18, .inr (.inl u_8.2.2.2.2.2.2.2.2.1))), (h9, .inl ((cA 2), 2, .inl u_8.2.2.2.2.2.2.2.2.2.1)), (h10, .inl ((cA 1), 80, .inl u_8.2.2.2.2.2.2.2.2.2.2.1)), (h11, .inl ((cA 1), 60, .inl u_8.2.2.2.2.2.2.2.2.2.2.2.2.2.2.1))]) (va_runV (As := []) (rest := []) ⟨hx, hb, hml, hown, hts⟩ (c_X10_keep l D cA h0 h1 h2 h3 h4 h5 h6 h7 h8 h9 h10 h11 s.heap.size pm v hpm hp6) (cwV 0 hts gX10_damp_X10_keep rfl rfl rfl (by decide +kernel) ⟨Nat.le_of_ble_eq_true rfl, Nat.le_of_ble_eq_true rfl⟩) (zqV hK hP hD hS hA hE (z_c1 (a := []) (b := []) rfl) 0 rfl rfl) rfl rfl hl.1 rfl (lv_room (Nat.le_of_ble_eq_true rfl)) dX10_damp_50 ⟨Nat.le_of_ble_eq_true rfl, Nat.le_of_ble_eq_true rfl⟩) hP hD hS hA (z_c1 (a := []) (b := []) rfl) (fun u_8 => (z_c1' (a := []) (b := []) rfl)) (fun u_8 H locs eu_8 hP hD hS => ?_)
        have hP : va_P D vwCl [(h0, .inr (10, [.ref h1, .ref h2, .ref h3, .ref h4, .ref h5, .ref h6, .int u_8.2.2.2.2.2.2.1, .ref h7, .ref h8, .ref h9, .ref h10, .int u_8.2.2.2.2.2.2.2.2.2.2.2.1, .int u_8.2.2.2.2.2.2.2.2.2.2.2.2.1, .int u_8.2.2.2.2.2.2.2.2.2.2.2.2.2.1, .ref h11, .int u_8.2.2.2.2.2.2.2.2.2.2.2.2.2.2.2])), (h1, .inl ((cA 1), 85, .inl u_8.1)), (h2, .inl ((cA 0), 9, .inr (.inl u_8.2.1))), (h3, .inl ((cA 1), 85, .inl u_8.2.2.1)), (h4, .inl ((cA 0), 9, .inr (.inl u_8.2.2.2.1))), (h5, .inl ((cA 1), 510, .inl u_8.2.2.2.2.1)), (h6, .inl ((cA 0), 54, .inr (.inl u_8.2.2.2.2.2.1))), (h7, .inl ((cA 1), 170, .inl u_8.2.2.2.2.2.2.2.1)), (h8, .inl ((cA 0), 18, .inr (.inl u_8.2.2.2.2.2.2.2.2.1))), (h9, .inl ((cA 2), 2, .inl u_8.2.2.2.2.2.2.2.2.2.1)), (h10, .inl ((cA 1), 80, .inl u_8.2.2.2.2.2.2.2.2.2.2.1)), (h11, .inl ((cA 1), 60, .inl u_8.2.2.2.2.2.2.2.2.2.2.2.2.2.2.1))] H := hP
        have hD : va_D A [(h0, .inr (10, [.ref h1, .ref h2, .ref h3, .ref h4, .ref h5, .ref h6, .int u_8.2.2.2.2.2.2.1, .ref h7, .ref h8, .ref h9, .ref h10, .int u_8.2.2.2.2.2.2.2.2.2.2.2.1, .int u_8.2.2.2.2.2.2.2.2.2.2.2.2.1, .int u_8.2.2.2.2.2.2.2.2.2.2.2.2.2.1, .ref h11, .int u_8.2.2.2.2.2.2.2.2.2.2.2.2.2.2.2])), (h1, .inl ((cA 1), 85, .inl u_8.1)), (h2, .inl ((cA 0), 9, .inr (.inl u_8.2.1))), (h3, .inl ((cA 1), 85, .inl u_8.2.2.1)), (h4, .inl ((cA 0), 9, .inr (.inl u_8.2.2.2.1))), (h5, .inl ((cA 1), 510, .inl u_8.2.2.2.2.1)), (h6, .inl ((cA 0), 54, .inr (.inl u_8.2.2.2.2.2.1))), (h7, .inl ((cA 1), 170, .inl u_8.2.2.2.2.2.2.2.1)), (h8, .inl ((cA 0), 18, .inr (.inl u_8.2.2.2.2.2.2.2.2.1))), (h9, .inl ((cA 2), 2, .inl u_8.2.2.2.2.2.2.2.2.2.1)), (h10, .inl ((cA 1), 80, .inl u_8.2.2.2.2.2.2.2.2.2.2.1)), (h11, .inl ((cA 1), 60, .inl u_8.2.2.2.2.2.2.2.2.2.2.2.2.2.2.1))] := hD
        refine lv_aload_n hx hb dX10_damp_53 rfl (lv_at hl 0 rfl) ?_
        refine va_get (D := D) (ci := 10) (v := .ref h1) (C := RX10) (T := TX10) (N := 16) hx hb hts hinX10 hown hK hP 0 rfl rfl 0 (by decide) (hts (.fieldLink RX10 7 "GyroTrainerModel" "at" "[I") (List.mem_of_getElem? (i := 1) rfl)) (fun _ h9 => h9) rfl dX10_damp_54 ?_
        refine lv_bipush (v := 8) hx hb dX10_damp_57 (by decide) ?_
        refine z_iald (k := 8) hx hb hK hP 1 1 rfl rfl rfl (by decide) (by decide) dX10_damp_59 ?_
        refine lv_istore_n (lv' := [(2, .int (u_8.1 8)), (0, .ref h0), (1, .int x1)]) hx hb dX10_damp_60 rfl hl (by decide) rfl (fun ls hl => ?_)
        refine lv_aload_n hx hb dX10_damp_61 rfl (lv_at hl 1 rfl) ?_
        refine va_get (D := D) (ci := 10) (v := .ref h1) (C := RX10) (T := TX10) (N := 16) hx hb hts hinX10 hown hK hP 0 rfl rfl 0 (by decide) (hts (.fieldLink RX10 7 "GyroTrainerModel" "at" "[I") (List.mem_of_getElem? (i := 1) rfl)) (fun _ h9 => h9) rfl dX10_damp_62 ?_
        refine lv_bipush (v := 8) hx hb dX10_damp_65 (by decide) ?_
        refine lv_iload_n hx hb dX10_damp_67 rfl (lv_at hl 2 rfl) ?_
        refine z_iast (k := 8) hx hb hK hP hD hS 1 1 rfl rfl rfl (by decide) (by decide) dX10_damp_68 (fun g_10 eg_10 H locs hP hD hS => ?_)
        have hP : va_P D vwCl [(h0, .inr (10, [.ref h1, .ref h2, .ref h3, .ref h4, .ref h5, .ref h6, .int u_8.2.2.2.2.2.2.1, .ref h7, .ref h8, .ref h9, .ref h10, .int u_8.2.2.2.2.2.2.2.2.2.2.2.1, .int u_8.2.2.2.2.2.2.2.2.2.2.2.2.1, .int u_8.2.2.2.2.2.2.2.2.2.2.2.2.2.1, .ref h11, .int u_8.2.2.2.2.2.2.2.2.2.2.2.2.2.2.2])), (h1, .inl ((cA 1), 85, .inl g_10)), (h2, .inl ((cA 0), 9, .inr (.inl u_8.2.1))), (h3, .inl ((cA 1), 85, .inl u_8.2.2.1)), (h4, .inl ((cA 0), 9, .inr (.inl u_8.2.2.2.1))), (h5, .inl ((cA 1), 510, .inl u_8.2.2.2.2.1)), (h6, .inl ((cA 0), 54, .inr (.inl u_8.2.2.2.2.2.1))), (h7, .inl ((cA 1), 170, .inl u_8.2.2.2.2.2.2.2.1)), (h8, .inl ((cA 0), 18, .inr (.inl u_8.2.2.2.2.2.2.2.2.1))), (h9, .inl ((cA 2), 2, .inl u_8.2.2.2.2.2.2.2.2.2.1)), (h10, .inl ((cA 1), 80, .inl u_8.2.2.2.2.2.2.2.2.2.2.1)), (h11, .inl ((cA 1), 60, .inl u_8.2.2.2.2.2.2.2.2.2.2.2.2.2.2.1))] H := hP
        have hD : va_D A [(h0, .inr (10, [.ref h1, .ref h2, .ref h3, .ref h4, .ref h5, .ref h6, .int u_8.2.2.2.2.2.2.1, .ref h7, .ref h8, .ref h9, .ref h10, .int u_8.2.2.2.2.2.2.2.2.2.2.2.1, .int u_8.2.2.2.2.2.2.2.2.2.2.2.2.1, .int u_8.2.2.2.2.2.2.2.2.2.2.2.2.2.1, .ref h11, .int u_8.2.2.2.2.2.2.2.2.2.2.2.2.2.2.2])), (h1, .inl ((cA 1), 85, .inl g_10)), (h2, .inl ((cA 0), 9, .inr (.inl u_8.2.1))), (h3, .inl ((cA 1), 85, .inl u_8.2.2.1)), (h4, .inl ((cA 0), 9, .inr (.inl u_8.2.2.2.1))), (h5, .inl ((cA 1), 510, .inl u_8.2.2.2.2.1)), (h6, .inl ((cA 0), 54, .inr (.inl u_8.2.2.2.2.2.1))), (h7, .inl ((cA 1), 170, .inl u_8.2.2.2.2.2.2.2.1)), (h8, .inl ((cA 0), 18, .inr (.inl u_8.2.2.2.2.2.2.2.2.1))), (h9, .inl ((cA 2), 2, .inl u_8.2.2.2.2.2.2.2.2.2.1)), (h10, .inl ((cA 1), 80, .inl u_8.2.2.2.2.2.2.2.2.2.2.1)), (h11, .inl ((cA 1), 60, .inl u_8.2.2.2.2.2.2.2.2.2.2.2.2.2.2.1))] := hD
        refine lv_aload_n hx hb dX10_damp_69 rfl (lv_at hl 1 rfl) ?_
        refine va_get (D := D) (ci := 10) (v := .ref h1) (C := RX10) (T := TX10) (N := 16) hx hb hts hinX10 hown hK hP 0 rfl rfl 0 (by decide) (hts (.fieldLink RX10 7 "GyroTrainerModel" "at" "[I") (List.mem_of_getElem? (i := 1) rfl)) (fun _ h9 => h9) rfl dX10_damp_70 ?_
        refine lv_bipush (v := 9) hx hb dX10_damp_73 (by decide) ?_
        refine lv_aload_n hx hb dX10_damp_75 rfl (lv_at hl 1 rfl) ?_
        refine va_get (D := D) (ci := 10) (v := .ref h1) (C := RX10) (T := TX10) (N := 16) hx hb hts hinX10 hown hK hP 0 rfl rfl 0 (by decide) (hts (.fieldLink RX10 7 "GyroTrainerModel" "at" "[I") (List.mem_of_getElem? (i := 1) rfl)) (fun _ h9 => h9) rfl dX10_damp_76 ?_
        refine lv_bipush (v := 10) hx hb dX10_damp_79 (by decide) ?_
        refine z_iald (k := 10) hx hb hK hP 1 1 rfl rfl rfl (by decide) (by decide) dX10_damp_81 ?_
        refine z_iast (k := 9) hx hb hK hP hD hS 1 1 rfl rfl rfl (by decide) (by decide) dX10_damp_82 (fun g_11 eg_11 H locs hP hD hS => ?_)
        have hP : va_P D vwCl [(h0, .inr (10, [.ref h1, .ref h2, .ref h3, .ref h4, .ref h5, .ref h6, .int u_8.2.2.2.2.2.2.1, .ref h7, .ref h8, .ref h9, .ref h10, .int u_8.2.2.2.2.2.2.2.2.2.2.2.1, .int u_8.2.2.2.2.2.2.2.2.2.2.2.2.1, .int u_8.2.2.2.2.2.2.2.2.2.2.2.2.2.1, .ref h11, .int u_8.2.2.2.2.2.2.2.2.2.2.2.2.2.2.2])), (h1, .inl ((cA 1), 85, .inl g_11)), (h2, .inl ((cA 0), 9, .inr (.inl u_8.2.1))), (h3, .inl ((cA 1), 85, .inl u_8.2.2.1)), (h4, .inl ((cA 0), 9, .inr (.inl u_8.2.2.2.1))), (h5, .inl ((cA 1), 510, .inl u_8.2.2.2.2.1)), (h6, .inl ((cA 0), 54, .inr (.inl u_8.2.2.2.2.2.1))), (h7, .inl ((cA 1), 170, .inl u_8.2.2.2.2.2.2.2.1)), (h8, .inl ((cA 0), 18, .inr (.inl u_8.2.2.2.2.2.2.2.2.1))), (h9, .inl ((cA 2), 2, .inl u_8.2.2.2.2.2.2.2.2.2.1)), (h10, .inl ((cA 1), 80, .inl u_8.2.2.2.2.2.2.2.2.2.2.1)), (h11, .inl ((cA 1), 60, .inl u_8.2.2.2.2.2.2.2.2.2.2.2.2.2.2.1))] H := hP
        have hD : va_D A [(h0, .inr (10, [.ref h1, .ref h2, .ref h3, .ref h4, .ref h5, .ref h6, .int u_8.2.2.2.2.2.2.1, .ref h7, .ref h8, .ref h9, .ref h10, .int u_8.2.2.2.2.2.2.2.2.2.2.2.1, .int u_8.2.2.2.2.2.2.2.2.2.2.2.2.1, .int u_8.2.2.2.2.2.2.2.2.2.2.2.2.2.1, .ref h11, .int u_8.2.2.2.2.2.2.2.2.2.2.2.2.2.2.2])), (h1, .inl ((cA 1), 85, .inl g_11)), (h2, .inl ((cA 0), 9, .inr (.inl u_8.2.1))), (h3, .inl ((cA 1), 85, .inl u_8.2.2.1)), (h4, .inl ((cA 0), 9, .inr (.inl u_8.2.2.2.1))), (h5, .inl ((cA 1), 510, .inl u_8.2.2.2.2.1)), (h6, .inl ((cA 0), 54, .inr (.inl u_8.2.2.2.2.2.1))), (h7, .inl ((cA 1), 170, .inl u_8.2.2.2.2.2.2.2.1)), (h8, .inl ((cA 0), 18, .inr (.inl u_8.2.2.2.2.2.2.2.2.1))), (h9, .inl ((cA 2), 2, .inl u_8.2.2.2.2.2.2.2.2.2.1)), (h10, .inl ((cA 1), 80, .inl u_8.2.2.2.2.2.2.2.2.2.2.1)), (h11, .inl ((cA 1), 60, .inl u_8.2.2.2.2.2.2.2.2.2.2.2.2.2.2.1))] := hD
        refine lv_iload_n hx hb dX10_damp_83 rfl (lv_at hl 0 rfl) ?_
        have e9 : (fm_damp pm v x1) = ((u_8.1 8), (g_11, u_8.2)) := by unfold fm_damp; simp only [← eu_8, ← eg_10, ← eg_11, if_neg c_1, if_neg c_2, if_pos c_7] <;> rfl
        have hP9 : va_P D vwCl (wX10 cA h0 h1 h2 h3 h4 h5 h6 h7 h8 h9 h10 h11 ((g_11, u_8.2) : vX10)) H := hP
        have hD9 : va_D A (wX10 cA h0 h1 h2 h3 h4 h5 h6 h7 h8 h9 h10 h11 ((g_11, u_8.2) : vX10)) := hD
        subst hQ
        exact W.iret (v := (u_8.1 8)) hx hb hr (fun t ht hW => ⟨⟨(u_8.1 8), (g_11, u_8.2), rfl, e9.symm, ⟨by rw [ht]; exact hP9, va_K.moved hW.alike hK, hD9⟩⟩, hS.F ht⟩) hS.2.2 dX10_damp_84
      · skip
        refine lv_bipush (v := -5) hx hb dX10_damp_46 (by decide) ?_
        have e9 : (fm_damp pm v x1) = ((-5 : Int32), v) := by unfold fm_damp; simp only [if_neg c_1, if_neg c_2, if_neg c_7] <;> rfl
        have hP9 : va_P D vwCl (wX10 cA h0 h1 h2 h3 h4 h5 h6 h7 h8 h9 h10 h11 (v : vX10)) s.heap := hP
        have hD9 : va_D A (wX10 cA h0 h1 h2 h3 h4 h5 h6 h7 h8 h9 h10 h11 (v : vX10)) := hD
        subst hQ
        exact W.iret (v := (-5 : Int32)) hx hb hr (fun t ht hW => ⟨⟨(-5 : Int32), v, rfl, e9.symm, ⟨by rw [ht]; exact hP9, va_K.moved hW.alike hK, hD9⟩⟩, hS.F ht⟩) hS.2.2 dX10_damp_48
  · skip
    refine lv_bipush (v := -2) hx hb dX10_damp_9 (by decide) ?_
    have e9 : (fm_damp pm v x1) = ((-2 : Int32), v) := by unfold fm_damp; simp only [if_pos c_1] <;> rfl
    have hP9 : va_P D vwCl (wX10 cA h0 h1 h2 h3 h4 h5 h6 h7 h8 h9 h10 h11 (v : vX10)) s.heap := hP
    have hD9 : va_D A (wX10 cA h0 h1 h2 h3 h4 h5 h6 h7 h8 h9 h10 h11 (v : vX10)) := hD
    subst hQ
    exact W.iret (v := (-2 : Int32)) hx hb hr (fun t ht hW => ⟨⟨(-2 : Int32), v, rfl, e9.symm, ⟨by rw [ht]; exact hP9, va_K.moved hW.alike hK, hD9⟩⟩, hS.F ht⟩) hS.2.2 dX10_damp_11
set_option maxHeartbeats 4000000 in
set_option maxRecDepth 100000 in
theorem c_X10_forgetSwings (l : Launch) (D : va_G) (cA : Nat → ClassId) (h0 h1 h2 h3 h4 h5 h6 h7 h8 h9 h10 h11 : Nat) (sz : Nat) (pm : Nat) (v : vX10) (hpm : v.2.2.2.2.2.2.1 = nI pm) (hp6 : pm ≤ 6) : Met l yX10_forgetSwings wsX10_forgetSwings ({ frames := 1, cells := 0, slots := 0, locals := 21 }) (va_Pc [.ref h0] (zPre D (zty cA) (wX10 cA h0 h1 h2 h3 h4 h5 h6 h7 h8 h9 h10 h11 v) sz)) (va_Qi (fun (x : Int32) (u : vX10) => (x, u) = (fm_forget pm v)) (fun u => zPost D (zty cA) (va_A (wX10 cA h0 h1 h2 h3 h4 h5 h6 h7 h8 h9 h10 h11 v) sz) (wX10 cA h0 h1 h2 h3 h4 h5 h6 h7 h8 h9 h10 h11 u)) (va_A (wX10 cA h0 h1 h2 h3 h4 h5 h6 h7 h8 h9 h10 h11 v) sz)) 0 0 (va_A (wX10 cA h0 h1 h2 h3 h4 h5 h6 h7 h8 h9 h10 h11 v) sz) := by
  refine Met.ofW (cc := cX10_forgetSwings) (maxL := 2) (ret := (some .int)) (by decide) rfl ?_
  intro p e s m args below meth c s₁ B hml hv
  obtain ⟨rfl, hsz, hP, hK, hD0, hE⟩ := hv
  have hx := B.exec
  have hb := B.bytes
  have hr := B.returns
  have hts := atoms_spec (ws := wsX10_forgetSwings) B.pre
  have hown : s.vm.findClass RX10 = some m.cls := findClass_of_methodNamed B.named
  have hlocks := B.notSynchronized
  have hinX10 : ∀ w ∈ u_ws RX10 TX10 16, w ∈ wsX10_forgetSwings := fun w h => List.mem_cons_of_mem _ (List.mem_append_right _ h)
  subst hsz
  have hD := hD0.self (sz := s.heap.size)
  generalize hAe : va_A (wX10 cA h0 h1 h2 h3 h4 h5 h6 h7 h8 h9 h10 h11 v) s.heap.size = A at hD hE ⊢
  have hA : ∀ q : Nat, s.heap.size ≤ q → A q := fun q h => by rw [← hAe]; exact Or.inr h
  have hS : va_S A s.heap s.heap [] := va_S.rf
  have hN : zN s := hE.1
  have hP : va_P D vwCl [(h0, .inr (10, [.ref h1, .ref h2, .ref h3, .ref h4, .ref h5, .ref h6, .int v.2.2.2.2.2.2.1, .ref h7, .ref h8, .ref h9, .ref h10, .int v.2.2.2.2.2.2.2.2.2.2.2.1, .int v.2.2.2.2.2.2.2.2.2.2.2.2.1, .int v.2.2.2.2.2.2.2.2.2.2.2.2.2.1, .ref h11, .int v.2.2.2.2.2.2.2.2.2.2.2.2.2.2.2])), (h1, .inl ((cA 1), 85, .inl v.1)), (h2, .inl ((cA 0), 9, .inr (.inl v.2.1))), (h3, .inl ((cA 1), 85, .inl v.2.2.1)), (h4, .inl ((cA 0), 9, .inr (.inl v.2.2.2.1))), (h5, .inl ((cA 1), 510, .inl v.2.2.2.2.1)), (h6, .inl ((cA 0), 54, .inr (.inl v.2.2.2.2.2.1))), (h7, .inl ((cA 1), 170, .inl v.2.2.2.2.2.2.2.1)), (h8, .inl ((cA 0), 18, .inr (.inl v.2.2.2.2.2.2.2.2.1))), (h9, .inl ((cA 2), 2, .inl v.2.2.2.2.2.2.2.2.2.1)), (h10, .inl ((cA 1), 80, .inl v.2.2.2.2.2.2.2.2.2.2.1)), (h11, .inl ((cA 1), 60, .inl v.2.2.2.2.2.2.2.2.2.2.2.2.2.2.1))] s.heap := hP
  have hD : va_D A [(h0, .inr (10, [.ref h1, .ref h2, .ref h3, .ref h4, .ref h5, .ref h6, .int v.2.2.2.2.2.2.1, .ref h7, .ref h8, .ref h9, .ref h10, .int v.2.2.2.2.2.2.2.2.2.2.2.1, .int v.2.2.2.2.2.2.2.2.2.2.2.2.1, .int v.2.2.2.2.2.2.2.2.2.2.2.2.2.1, .ref h11, .int v.2.2.2.2.2.2.2.2.2.2.2.2.2.2.2])), (h1, .inl ((cA 1), 85, .inl v.1)), (h2, .inl ((cA 0), 9, .inr (.inl v.2.1))), (h3, .inl ((cA 1), 85, .inl v.2.2.1)), (h4, .inl ((cA 0), 9, .inr (.inl v.2.2.2.1))), (h5, .inl ((cA 1), 510, .inl v.2.2.2.2.1)), (h6, .inl ((cA 0), 54, .inr (.inl v.2.2.2.2.2.1))), (h7, .inl ((cA 1), 170, .inl v.2.2.2.2.2.2.2.1)), (h8, .inl ((cA 0), 18, .inr (.inl v.2.2.2.2.2.2.2.2.1))), (h9, .inl ((cA 2), 2, .inl v.2.2.2.2.2.2.2.2.2.1)), (h10, .inl ((cA 1), 80, .inl v.2.2.2.2.2.2.2.2.2.2.1)), (h11, .inl ((cA 1), 60, .inl v.2.2.2.2.2.2.2.2.2.2.2.2.2.2.1))] := hD
  have hl := lv_entry ([.ref h0]) (n := 2) (Nat.le_of_ble_eq_true rfl)
  rw [lg_entry_eq]
  generalize (lg_sl ([.ref h0]) ++ List.replicate (2 - (lg_sl ([.ref h0])).length) Slot.unset).toArray = ls at hl ⊢
  have hl : lv_has ls 2 [(0, .ref h0)] := hl
  refine z_genQ (fun Q hQ => ?_)
  refine lv_aload_n hx hb dX10_forgetSwings_0 rfl (lv_at hl 0 rfl) ?_
  refine z_Hv (wt := fun (u_1 : vX10) => [(h0, .inr (10, [.ref h1, .ref h2, .ref h3, .ref h4, .ref h5, .ref h6, .int u_1.2.2.2.2.2.2.1, .ref h7, .ref h8, .ref h9, .ref h10, .int u_1.2.2.2.2.2.2.2.2.2.2.2.1, .int u_1.2.2.2.2.2.2.2.2.2.2.2.2.1, .int u_1.2.2.2.2.2.2.2.2.2.2.2.2.2.1, .ref h11, .int u_1.2.2.2.2.2.2.2.2.2.2.2.2.2.2.2])), (h1, .inl ((cA 1), 85, .inl u_1.1)), (h2, .inl ((cA 0), 9, .inr (.inl u_1.2.1))), (h3, .inl ((cA 1), 85, .inl u_1.2.2.1)), (h4, .inl ((cA 0), 9, .inr (.inl u_1.2.2.2.1))), (h5, .inl ((cA 1), 510, .inl u_1.2.2.2.2.1)), (h6, .inl ((cA 0), 54, .inr (.inl u_1.2.2.2.2.2.1))), (h7, .inl ((cA 1), 170, .inl u_1.2.2.2.2.2.2.2.1)), (h8, .inl ((cA 0), 18, .inr (.inl u_1.2.2.2.2.2.2.2.2.1))), (h9, .inl ((cA 2), 2, .inl u_1.2.2.2.2.2.2.2.2.2.1)), (h10, .inl ((cA 1), 80, .inl u_1.2.2.2.2.2.2.2.2.2.2.1)), (h11, .inl ((cA 1), 60, .inl u_1.2.2.2.2.2.2.2.2.2.2.2.2.2.2.1))]) (va_runV (As := []) (rest := []) ⟨hx, hb, hml, hown, hts⟩ (c_X10_keep l D cA h0 h1 h2 h3 h4 h5 h6 h7 h8 h9 h10 h11 s.heap.size pm v hpm hp6) (cwV 0 hts gX10_forgetSwings_X10_keep rfl rfl rfl (by decide +kernel) ⟨Nat.le_of_ble_eq_true rfl, Nat.le_of_ble_eq_true rfl⟩) (zqV hK hP hD hS hA hE (z_c1 (a := []) (b := []) rfl) 0 rfl rfl) rfl rfl hl.1 rfl (lv_room (Nat.le_of_ble_eq_true rfl)) dX10_forgetSwings_1 ⟨Nat.le_of_ble_eq_true rfl, Nat.le_of_ble_eq_true rfl⟩) hP hD hS hA (z_c1 (a := []) (b := []) rfl) (fun u_1 => (z_c1' (a := []) (b := []) rfl)) (fun u_1 H locs eu_1 hP hD hS => ?_)
  have hP : va_P D vwCl [(h0, .inr (10, [.ref h1, .ref h2, .ref h3, .ref h4, .ref h5, .ref h6, .int u_1.2.2.2.2.2.2.1, .ref h7, .ref h8, .ref h9, .ref h10, .int u_1.2.2.2.2.2.2.2.2.2.2.2.1, .int u_1.2.2.2.2.2.2.2.2.2.2.2.2.1, .int u_1.2.2.2.2.2.2.2.2.2.2.2.2.2.1, .ref h11, .int u_1.2.2.2.2.2.2.2.2.2.2.2.2.2.2.2])), (h1, .inl ((cA 1), 85, .inl u_1.1)), (h2, .inl ((cA 0), 9, .inr (.inl u_1.2.1))), (h3, .inl ((cA 1), 85, .inl u_1.2.2.1)), (h4, .inl ((cA 0), 9, .inr (.inl u_1.2.2.2.1))), (h5, .inl ((cA 1), 510, .inl u_1.2.2.2.2.1)), (h6, .inl ((cA 0), 54, .inr (.inl u_1.2.2.2.2.2.1))), (h7, .inl ((cA 1), 170, .inl u_1.2.2.2.2.2.2.2.1)), (h8, .inl ((cA 0), 18, .inr (.inl u_1.2.2.2.2.2.2.2.2.1))), (h9, .inl ((cA 2), 2, .inl u_1.2.2.2.2.2.2.2.2.2.1)), (h10, .inl ((cA 1), 80, .inl u_1.2.2.2.2.2.2.2.2.2.2.1)), (h11, .inl ((cA 1), 60, .inl u_1.2.2.2.2.2.2.2.2.2.2.2.2.2.2.1))] H := hP
  have hD : va_D A [(h0, .inr (10, [.ref h1, .ref h2, .ref h3, .ref h4, .ref h5, .ref h6, .int u_1.2.2.2.2.2.2.1, .ref h7, .ref h8, .ref h9, .ref h10, .int u_1.2.2.2.2.2.2.2.2.2.2.2.1, .int u_1.2.2.2.2.2.2.2.2.2.2.2.2.1, .int u_1.2.2.2.2.2.2.2.2.2.2.2.2.2.1, .ref h11, .int u_1.2.2.2.2.2.2.2.2.2.2.2.2.2.2.2])), (h1, .inl ((cA 1), 85, .inl u_1.1)), (h2, .inl ((cA 0), 9, .inr (.inl u_1.2.1))), (h3, .inl ((cA 1), 85, .inl u_1.2.2.1)), (h4, .inl ((cA 0), 9, .inr (.inl u_1.2.2.2.1))), (h5, .inl ((cA 1), 510, .inl u_1.2.2.2.2.1)), (h6, .inl ((cA 0), 54, .inr (.inl u_1.2.2.2.2.2.1))), (h7, .inl ((cA 1), 170, .inl u_1.2.2.2.2.2.2.2.1)), (h8, .inl ((cA 0), 18, .inr (.inl u_1.2.2.2.2.2.2.2.2.1))), (h9, .inl ((cA 2), 2, .inl u_1.2.2.2.2.2.2.2.2.2.1)), (h10, .inl ((cA 1), 80, .inl u_1.2.2.2.2.2.2.2.2.2.2.1)), (h11, .inl ((cA 1), 60, .inl u_1.2.2.2.2.2.2.2.2.2.2.2.2.2.2.1))] := hD
  refine lv_aload_n hx hb dX10_forgetSwings_4 rfl (lv_at hl 0 rfl) ?_
  refine va_get (D := D) (ci := 10) (v := .ref h1) (C := RX10) (T := TX10) (N := 16) hx hb hts hinX10 hown hK hP 0 rfl rfl 0 (by decide) (hts (.fieldLink RX10 7 "GyroTrainerModel" "at" "[I") (List.mem_of_getElem? (i := 1) rfl)) (fun _ h9 => h9) rfl dX10_forgetSwings_5 ?_
  refine lv_bipush (v := 13) hx hb dX10_forgetSwings_8 (by decide) ?_
  refine z_iald (k := 13) hx hb hK hP 1 1 rfl rfl rfl (by decide) (by decide) dX10_forgetSwings_10 ?_
  refine lv_istore_n (lv' := [(1, .int (u_1.1 13)), (0, .ref h0)]) hx hb dX10_forgetSwings_11 rfl hl (by decide) rfl (fun ls hl => ?_)
  refine lv_aload_n hx hb dX10_forgetSwings_12 rfl (lv_at hl 1 rfl) ?_
  refine va_get (D := D) (ci := 10) (v := .ref h1) (C := RX10) (T := TX10) (N := 16) hx hb hts hinX10 hown hK hP 0 rfl rfl 0 (by decide) (hts (.fieldLink RX10 7 "GyroTrainerModel" "at" "[I") (List.mem_of_getElem? (i := 1) rfl)) (fun _ h9 => h9) rfl dX10_forgetSwings_13 ?_
  refine lv_bipush (v := 13) hx hb dX10_forgetSwings_16 (by decide) ?_
  refine lv_iconst (v := 0) hx hb dX10_forgetSwings_18 (by decide) ?_
  refine z_iast (k := 13) hx hb hK hP hD hS 1 1 rfl rfl rfl (by decide) (by decide) dX10_forgetSwings_19 (fun g_3 eg_3 H locs hP hD hS => ?_)
  have hP : va_P D vwCl [(h0, .inr (10, [.ref h1, .ref h2, .ref h3, .ref h4, .ref h5, .ref h6, .int u_1.2.2.2.2.2.2.1, .ref h7, .ref h8, .ref h9, .ref h10, .int u_1.2.2.2.2.2.2.2.2.2.2.2.1, .int u_1.2.2.2.2.2.2.2.2.2.2.2.2.1, .int u_1.2.2.2.2.2.2.2.2.2.2.2.2.2.1, .ref h11, .int u_1.2.2.2.2.2.2.2.2.2.2.2.2.2.2.2])), (h1, .inl ((cA 1), 85, .inl g_3)), (h2, .inl ((cA 0), 9, .inr (.inl u_1.2.1))), (h3, .inl ((cA 1), 85, .inl u_1.2.2.1)), (h4, .inl ((cA 0), 9, .inr (.inl u_1.2.2.2.1))), (h5, .inl ((cA 1), 510, .inl u_1.2.2.2.2.1)), (h6, .inl ((cA 0), 54, .inr (.inl u_1.2.2.2.2.2.1))), (h7, .inl ((cA 1), 170, .inl u_1.2.2.2.2.2.2.2.1)), (h8, .inl ((cA 0), 18, .inr (.inl u_1.2.2.2.2.2.2.2.2.1))), (h9, .inl ((cA 2), 2, .inl u_1.2.2.2.2.2.2.2.2.2.1)), (h10, .inl ((cA 1), 80, .inl u_1.2.2.2.2.2.2.2.2.2.2.1)), (h11, .inl ((cA 1), 60, .inl u_1.2.2.2.2.2.2.2.2.2.2.2.2.2.2.1))] H := hP
  have hD : va_D A [(h0, .inr (10, [.ref h1, .ref h2, .ref h3, .ref h4, .ref h5, .ref h6, .int u_1.2.2.2.2.2.2.1, .ref h7, .ref h8, .ref h9, .ref h10, .int u_1.2.2.2.2.2.2.2.2.2.2.2.1, .int u_1.2.2.2.2.2.2.2.2.2.2.2.2.1, .int u_1.2.2.2.2.2.2.2.2.2.2.2.2.2.1, .ref h11, .int u_1.2.2.2.2.2.2.2.2.2.2.2.2.2.2.2])), (h1, .inl ((cA 1), 85, .inl g_3)), (h2, .inl ((cA 0), 9, .inr (.inl u_1.2.1))), (h3, .inl ((cA 1), 85, .inl u_1.2.2.1)), (h4, .inl ((cA 0), 9, .inr (.inl u_1.2.2.2.1))), (h5, .inl ((cA 1), 510, .inl u_1.2.2.2.2.1)), (h6, .inl ((cA 0), 54, .inr (.inl u_1.2.2.2.2.2.1))), (h7, .inl ((cA 1), 170, .inl u_1.2.2.2.2.2.2.2.1)), (h8, .inl ((cA 0), 18, .inr (.inl u_1.2.2.2.2.2.2.2.2.1))), (h9, .inl ((cA 2), 2, .inl u_1.2.2.2.2.2.2.2.2.2.1)), (h10, .inl ((cA 1), 80, .inl u_1.2.2.2.2.2.2.2.2.2.2.1)), (h11, .inl ((cA 1), 60, .inl u_1.2.2.2.2.2.2.2.2.2.2.2.2.2.2.1))] := hD
  refine lv_aload_n hx hb dX10_forgetSwings_20 rfl (lv_at hl 1 rfl) ?_
  refine va_get (D := D) (ci := 10) (v := .ref h1) (C := RX10) (T := TX10) (N := 16) hx hb hts hinX10 hown hK hP 0 rfl rfl 0 (by decide) (hts (.fieldLink RX10 7 "GyroTrainerModel" "at" "[I") (List.mem_of_getElem? (i := 1) rfl)) (fun _ h9 => h9) rfl dX10_forgetSwings_21 ?_
  refine lv_bipush (v := 12) hx hb dX10_forgetSwings_24 (by decide) ?_
  refine lv_iconst (v := 0) hx hb dX10_forgetSwings_26 (by decide) ?_
  refine z_iast (k := 12) hx hb hK hP hD hS 1 1 rfl rfl rfl (by decide) (by decide) dX10_forgetSwings_27 (fun g_4 eg_4 H locs hP hD hS => ?_)
  have hP : va_P D vwCl [(h0, .inr (10, [.ref h1, .ref h2, .ref h3, .ref h4, .ref h5, .ref h6, .int u_1.2.2.2.2.2.2.1, .ref h7, .ref h8, .ref h9, .ref h10, .int u_1.2.2.2.2.2.2.2.2.2.2.2.1, .int u_1.2.2.2.2.2.2.2.2.2.2.2.2.1, .int u_1.2.2.2.2.2.2.2.2.2.2.2.2.2.1, .ref h11, .int u_1.2.2.2.2.2.2.2.2.2.2.2.2.2.2.2])), (h1, .inl ((cA 1), 85, .inl g_4)), (h2, .inl ((cA 0), 9, .inr (.inl u_1.2.1))), (h3, .inl ((cA 1), 85, .inl u_1.2.2.1)), (h4, .inl ((cA 0), 9, .inr (.inl u_1.2.2.2.1))), (h5, .inl ((cA 1), 510, .inl u_1.2.2.2.2.1)), (h6, .inl ((cA 0), 54, .inr (.inl u_1.2.2.2.2.2.1))), (h7, .inl ((cA 1), 170, .inl u_1.2.2.2.2.2.2.2.1)), (h8, .inl ((cA 0), 18, .inr (.inl u_1.2.2.2.2.2.2.2.2.1))), (h9, .inl ((cA 2), 2, .inl u_1.2.2.2.2.2.2.2.2.2.1)), (h10, .inl ((cA 1), 80, .inl u_1.2.2.2.2.2.2.2.2.2.2.1)), (h11, .inl ((cA 1), 60, .inl u_1.2.2.2.2.2.2.2.2.2.2.2.2.2.2.1))] H := hP
  have hD : va_D A [(h0, .inr (10, [.ref h1, .ref h2, .ref h3, .ref h4, .ref h5, .ref h6, .int u_1.2.2.2.2.2.2.1, .ref h7, .ref h8, .ref h9, .ref h10, .int u_1.2.2.2.2.2.2.2.2.2.2.2.1, .int u_1.2.2.2.2.2.2.2.2.2.2.2.2.1, .int u_1.2.2.2.2.2.2.2.2.2.2.2.2.2.1, .ref h11, .int u_1.2.2.2.2.2.2.2.2.2.2.2.2.2.2.2])), (h1, .inl ((cA 1), 85, .inl g_4)), (h2, .inl ((cA 0), 9, .inr (.inl u_1.2.1))), (h3, .inl ((cA 1), 85, .inl u_1.2.2.1)), (h4, .inl ((cA 0), 9, .inr (.inl u_1.2.2.2.1))), (h5, .inl ((cA 1), 510, .inl u_1.2.2.2.2.1)), (h6, .inl ((cA 0), 54, .inr (.inl u_1.2.2.2.2.2.1))), (h7, .inl ((cA 1), 170, .inl u_1.2.2.2.2.2.2.2.1)), (h8, .inl ((cA 0), 18, .inr (.inl u_1.2.2.2.2.2.2.2.2.1))), (h9, .inl ((cA 2), 2, .inl u_1.2.2.2.2.2.2.2.2.2.1)), (h10, .inl ((cA 1), 80, .inl u_1.2.2.2.2.2.2.2.2.2.2.1)), (h11, .inl ((cA 1), 60, .inl u_1.2.2.2.2.2.2.2.2.2.2.2.2.2.2.1))] := hD
  refine lv_iload_n hx hb dX10_forgetSwings_28 rfl (lv_at hl 0 rfl) ?_
  have e9 : (fm_forget pm v) = ((u_1.1 13), (g_4, u_1.2)) := by unfold fm_forget; simp only [← eu_1, ← eg_3, ← eg_4] <;> rfl
  have hP9 : va_P D vwCl (wX10 cA h0 h1 h2 h3 h4 h5 h6 h7 h8 h9 h10 h11 ((g_4, u_1.2) : vX10)) H := hP
  have hD9 : va_D A (wX10 cA h0 h1 h2 h3 h4 h5 h6 h7 h8 h9 h10 h11 ((g_4, u_1.2) : vX10)) := hD
  subst hQ
  exact W.iret (v := (u_1.1 13)) hx hb hr (fun t ht hW => ⟨⟨(u_1.1 13), (g_4, u_1.2), rfl, e9.symm, ⟨by rw [ht]; exact hP9, va_K.moved hW.alike hK, hD9⟩⟩, hS.F ht⟩) hS.2.2 dX10_forgetSwings_29
set_option maxHeartbeats 4000000 in
set_option maxRecDepth 100000 in
theorem c_X10_wipe (l : Launch) (D : va_G) (cA : Nat → ClassId) (h0 h1 h2 h3 h4 h5 h6 h7 h8 h9 h10 h11 : Nat) (sz : Nat) (v : vX10)  : Met l yX10_wipe wsX10_wipe ({ frames := 0, cells := 0, slots := 0, locals := 0 }) (va_Pc [.ref h0] (zPre D (zty cA) (wX10 cA h0 h1 h2 h3 h4 h5 h6 h7 h8 h9 h10 h11 v) sz)) (va_Qi (fun (x : Int32) (u : vX10) => (x, u) = (fm_wipe v)) (fun u => zPost D (zty cA) (va_A (wX10 cA h0 h1 h2 h3 h4 h5 h6 h7 h8 h9 h10 h11 v) sz) (wX10 cA h0 h1 h2 h3 h4 h5 h6 h7 h8 h9 h10 h11 u)) (va_A (wX10 cA h0 h1 h2 h3 h4 h5 h6 h7 h8 h9 h10 h11 v) sz)) 0 0 (va_A (wX10 cA h0 h1 h2 h3 h4 h5 h6 h7 h8 h9 h10 h11 v) sz) := by
  refine Met.ofW (cc := cX10_wipe) (maxL := 2) (ret := (some .int)) (by decide) rfl ?_
  intro p e s m args below meth c s₁ B hml hv
  obtain ⟨rfl, hsz, hP, hK, hD0, hE⟩ := hv
  have hx := B.exec
  have hb := B.bytes
  have hr := B.returns
  have hts := atoms_spec (ws := wsX10_wipe) B.pre
  have hown : s.vm.findClass RX10 = some m.cls := findClass_of_methodNamed B.named
  have hlocks := B.notSynchronized
  have hinX10 : ∀ w ∈ u_ws RX10 TX10 16, w ∈ wsX10_wipe := fun w h => List.mem_cons_of_mem _ (List.mem_append_right _ h)
  subst hsz
  have hD := hD0.self (sz := s.heap.size)
  generalize hAe : va_A (wX10 cA h0 h1 h2 h3 h4 h5 h6 h7 h8 h9 h10 h11 v) s.heap.size = A at hD hE ⊢
  have hA : ∀ q : Nat, s.heap.size ≤ q → A q := fun q h => by rw [← hAe]; exact Or.inr h
  have hS : va_S A s.heap s.heap [] := va_S.rf
  have hN : zN s := hE.1
  have hP : va_P D vwCl [(h0, .inr (10, [.ref h1, .ref h2, .ref h3, .ref h4, .ref h5, .ref h6, .int v.2.2.2.2.2.2.1, .ref h7, .ref h8, .ref h9, .ref h10, .int v.2.2.2.2.2.2.2.2.2.2.2.1, .int v.2.2.2.2.2.2.2.2.2.2.2.2.1, .int v.2.2.2.2.2.2.2.2.2.2.2.2.2.1, .ref h11, .int v.2.2.2.2.2.2.2.2.2.2.2.2.2.2.2])), (h1, .inl ((cA 1), 85, .inl v.1)), (h2, .inl ((cA 0), 9, .inr (.inl v.2.1))), (h3, .inl ((cA 1), 85, .inl v.2.2.1)), (h4, .inl ((cA 0), 9, .inr (.inl v.2.2.2.1))), (h5, .inl ((cA 1), 510, .inl v.2.2.2.2.1)), (h6, .inl ((cA 0), 54, .inr (.inl v.2.2.2.2.2.1))), (h7, .inl ((cA 1), 170, .inl v.2.2.2.2.2.2.2.1)), (h8, .inl ((cA 0), 18, .inr (.inl v.2.2.2.2.2.2.2.2.1))), (h9, .inl ((cA 2), 2, .inl v.2.2.2.2.2.2.2.2.2.1)), (h10, .inl ((cA 1), 80, .inl v.2.2.2.2.2.2.2.2.2.2.1)), (h11, .inl ((cA 1), 60, .inl v.2.2.2.2.2.2.2.2.2.2.2.2.2.2.1))] s.heap := hP
  have hD : va_D A [(h0, .inr (10, [.ref h1, .ref h2, .ref h3, .ref h4, .ref h5, .ref h6, .int v.2.2.2.2.2.2.1, .ref h7, .ref h8, .ref h9, .ref h10, .int v.2.2.2.2.2.2.2.2.2.2.2.1, .int v.2.2.2.2.2.2.2.2.2.2.2.2.1, .int v.2.2.2.2.2.2.2.2.2.2.2.2.2.1, .ref h11, .int v.2.2.2.2.2.2.2.2.2.2.2.2.2.2.2])), (h1, .inl ((cA 1), 85, .inl v.1)), (h2, .inl ((cA 0), 9, .inr (.inl v.2.1))), (h3, .inl ((cA 1), 85, .inl v.2.2.1)), (h4, .inl ((cA 0), 9, .inr (.inl v.2.2.2.1))), (h5, .inl ((cA 1), 510, .inl v.2.2.2.2.1)), (h6, .inl ((cA 0), 54, .inr (.inl v.2.2.2.2.2.1))), (h7, .inl ((cA 1), 170, .inl v.2.2.2.2.2.2.2.1)), (h8, .inl ((cA 0), 18, .inr (.inl v.2.2.2.2.2.2.2.2.1))), (h9, .inl ((cA 2), 2, .inl v.2.2.2.2.2.2.2.2.2.1)), (h10, .inl ((cA 1), 80, .inl v.2.2.2.2.2.2.2.2.2.2.1)), (h11, .inl ((cA 1), 60, .inl v.2.2.2.2.2.2.2.2.2.2.2.2.2.2.1))] := hD
  have hl := lv_entry ([.ref h0]) (n := 2) (Nat.le_of_ble_eq_true rfl)
  rw [lg_entry_eq]
  generalize (lg_sl ([.ref h0]) ++ List.replicate (2 - (lg_sl ([.ref h0])).length) Slot.unset).toArray = ls at hl ⊢
  have hl : lv_has ls 2 [(0, .ref h0)] := hl
  refine z_genQ (fun Q hQ => ?_)
  refine lv_aload_n hx hb dX10_wipe_0 rfl (lv_at hl 0 rfl) ?_
  refine va_get (D := D) (ci := 10) (v := .int v.2.2.2.2.2.2.2.2.2.2.2.1) (C := RX10) (T := TX10) (N := 16) hx hb hts hinX10 hown hK hP 0 rfl rfl 11 (by decide) (hts (.fieldLink RX10 177 "GyroTrainerModel" "padMany" "I") (List.mem_of_getElem? (i := 1) rfl)) (fun _ h9 => h9) rfl dX10_wipe_1 ?_
  refine lv_istore_n (lv' := [(1, .int v.2.2.2.2.2.2.2.2.2.2.2.1), (0, .ref h0)]) hx hb dX10_wipe_4 rfl hl (by decide) rfl (fun ls hl => ?_)
  refine lv_aload_n hx hb dX10_wipe_5 rfl (lv_at hl 1 rfl) ?_
  refine lv_iconst (v := 0) hx hb dX10_wipe_6 (by decide) ?_
  refine va_put (D := D) (ci := 10) (v := .int (0 : Int32)) (ty := .int) (C := RX10) (T := TX10) (N := 16) hx hb hts hinX10 tyX10 tyX10_ok nmX10 hown hK hP hD hS 0 rfl rfl 11 (by decide) (hts (.fieldLink RX10 177 "GyroTrainerModel" "padMany" "I") (List.mem_of_getElem? (i := 1) rfl)) (fun _ h9 => h9) rfl (by decide +kernel) rfl rfl (Nat.le_of_ble_eq_true rfl) dX10_wipe_7 (fun H locs hP hD hS => ?_)
  have hP : va_P D vwCl [(h0, .inr (10, [.ref h1, .ref h2, .ref h3, .ref h4, .ref h5, .ref h6, .int v.2.2.2.2.2.2.1, .ref h7, .ref h8, .ref h9, .ref h10, .int (0 : Int32), .int v.2.2.2.2.2.2.2.2.2.2.2.2.1, .int v.2.2.2.2.2.2.2.2.2.2.2.2.2.1, .ref h11, .int v.2.2.2.2.2.2.2.2.2.2.2.2.2.2.2])), (h1, .inl ((cA 1), 85, .inl v.1)), (h2, .inl ((cA 0), 9, .inr (.inl v.2.1))), (h3, .inl ((cA 1), 85, .inl v.2.2.1)), (h4, .inl ((cA 0), 9, .inr (.inl v.2.2.2.1))), (h5, .inl ((cA 1), 510, .inl v.2.2.2.2.1)), (h6, .inl ((cA 0), 54, .inr (.inl v.2.2.2.2.2.1))), (h7, .inl ((cA 1), 170, .inl v.2.2.2.2.2.2.2.1)), (h8, .inl ((cA 0), 18, .inr (.inl v.2.2.2.2.2.2.2.2.1))), (h9, .inl ((cA 2), 2, .inl v.2.2.2.2.2.2.2.2.2.1)), (h10, .inl ((cA 1), 80, .inl v.2.2.2.2.2.2.2.2.2.2.1)), (h11, .inl ((cA 1), 60, .inl v.2.2.2.2.2.2.2.2.2.2.2.2.2.2.1))] H := hP
  have hD : va_D A [(h0, .inr (10, [.ref h1, .ref h2, .ref h3, .ref h4, .ref h5, .ref h6, .int v.2.2.2.2.2.2.1, .ref h7, .ref h8, .ref h9, .ref h10, .int (0 : Int32), .int v.2.2.2.2.2.2.2.2.2.2.2.2.1, .int v.2.2.2.2.2.2.2.2.2.2.2.2.2.1, .ref h11, .int v.2.2.2.2.2.2.2.2.2.2.2.2.2.2.2])), (h1, .inl ((cA 1), 85, .inl v.1)), (h2, .inl ((cA 0), 9, .inr (.inl v.2.1))), (h3, .inl ((cA 1), 85, .inl v.2.2.1)), (h4, .inl ((cA 0), 9, .inr (.inl v.2.2.2.1))), (h5, .inl ((cA 1), 510, .inl v.2.2.2.2.1)), (h6, .inl ((cA 0), 54, .inr (.inl v.2.2.2.2.2.1))), (h7, .inl ((cA 1), 170, .inl v.2.2.2.2.2.2.2.1)), (h8, .inl ((cA 0), 18, .inr (.inl v.2.2.2.2.2.2.2.2.1))), (h9, .inl ((cA 2), 2, .inl v.2.2.2.2.2.2.2.2.2.1)), (h10, .inl ((cA 1), 80, .inl v.2.2.2.2.2.2.2.2.2.2.1)), (h11, .inl ((cA 1), 60, .inl v.2.2.2.2.2.2.2.2.2.2.2.2.2.2.1))] := hD
  refine lv_iload_n hx hb dX10_wipe_10 rfl (lv_at hl 0 rfl) ?_
  have e9 : (fm_wipe v) = (v.2.2.2.2.2.2.2.2.2.2.2.1, (v.1, v.2.1, v.2.2.1, v.2.2.2.1, v.2.2.2.2.1, v.2.2.2.2.2.1, v.2.2.2.2.2.2.1, v.2.2.2.2.2.2.2.1, v.2.2.2.2.2.2.2.2.1, v.2.2.2.2.2.2.2.2.2.1, v.2.2.2.2.2.2.2.2.2.2.1, (0 : Int32), v.2.2.2.2.2.2.2.2.2.2.2.2)) := by rfl
  have hP9 : va_P D vwCl (wX10 cA h0 h1 h2 h3 h4 h5 h6 h7 h8 h9 h10 h11 ((v.1, v.2.1, v.2.2.1, v.2.2.2.1, v.2.2.2.2.1, v.2.2.2.2.2.1, v.2.2.2.2.2.2.1, v.2.2.2.2.2.2.2.1, v.2.2.2.2.2.2.2.2.1, v.2.2.2.2.2.2.2.2.2.1, v.2.2.2.2.2.2.2.2.2.2.1, (0 : Int32), v.2.2.2.2.2.2.2.2.2.2.2.2) : vX10)) H := hP
  have hD9 : va_D A (wX10 cA h0 h1 h2 h3 h4 h5 h6 h7 h8 h9 h10 h11 ((v.1, v.2.1, v.2.2.1, v.2.2.2.1, v.2.2.2.2.1, v.2.2.2.2.2.1, v.2.2.2.2.2.2.1, v.2.2.2.2.2.2.2.1, v.2.2.2.2.2.2.2.2.1, v.2.2.2.2.2.2.2.2.2.1, v.2.2.2.2.2.2.2.2.2.2.1, (0 : Int32), v.2.2.2.2.2.2.2.2.2.2.2.2) : vX10)) := hD
  subst hQ
  exact W.iret (v := v.2.2.2.2.2.2.2.2.2.2.2.1) hx hb hr (fun t ht hW => ⟨⟨v.2.2.2.2.2.2.2.2.2.2.2.1, (v.1, v.2.1, v.2.2.1, v.2.2.2.1, v.2.2.2.2.1, v.2.2.2.2.2.1, v.2.2.2.2.2.2.1, v.2.2.2.2.2.2.2.1, v.2.2.2.2.2.2.2.2.1, v.2.2.2.2.2.2.2.2.2.1, v.2.2.2.2.2.2.2.2.2.2.1, (0 : Int32), v.2.2.2.2.2.2.2.2.2.2.2.2), rfl, e9.symm, ⟨by rw [ht]; exact hP9, va_K.moved hW.alike hK, hD9⟩⟩, hS.F ht⟩) hS.2.2 dX10_wipe_11
set_option maxHeartbeats 4000000 in
set_option maxRecDepth 100000 in
theorem c_X10_line (l : Launch) (D : va_G) (cA : Nat → ClassId) (h0 h1 h2 h3 h4 h5 h6 h7 h8 h9 h10 h11 : Nat) (sz : Nat) (pm : Nat) (n : Nat) (v : vX10) (x1 : Int32) (hpm : v.2.2.2.2.2.2.1 = nI pm) (hp6 : pm ≤ 6) (hn19 : v.1 19 = nI n) (hn6 : n ≤ 6) : Met l yX10_line wsX10_line ({ frames := 2, cells := 0, slots := 0, locals := 42 }) (va_Pc [.ref h0, .int x1] (zPre D (zty cA) (wX10 cA h0 h1 h2 h3 h4 h5 h6 h7 h8 h9 h10 h11 v) sz)) (va_Qi (fun (x : Int32) (u : vX10) => (x, u) = (fm_line pm n v x1)) (fun u => zPost D (zty cA) (va_A (wX10 cA h0 h1 h2 h3 h4 h5 h6 h7 h8 h9 h10 h11 v) sz) (wX10 cA h0 h1 h2 h3 h4 h5 h6 h7 h8 h9 h10 h11 u)) (va_A (wX10 cA h0 h1 h2 h3 h4 h5 h6 h7 h8 h9 h10 h11 v) sz)) 0 0 (va_A (wX10 cA h0 h1 h2 h3 h4 h5 h6 h7 h8 h9 h10 h11 v) sz) := by
  refine Met.ofW (cc := cX10_line) (maxL := 2) (ret := (some .int)) (by decide) rfl ?_
  intro p e s m args below meth c s₁ B hml hv
  obtain ⟨rfl, hsz, hP, hK, hD0, hE⟩ := hv
  have hx := B.exec
  have hb := B.bytes
  have hr := B.returns
  have hts := atoms_spec (ws := wsX10_line) B.pre
  have hown : s.vm.findClass RX10 = some m.cls := findClass_of_methodNamed B.named
  have hlocks := B.notSynchronized
  have hinX10 : ∀ w ∈ u_ws RX10 TX10 16, w ∈ wsX10_line := fun w h => List.mem_cons_of_mem _ (List.mem_append_right _ h)
  subst hsz
  have hD := hD0.self (sz := s.heap.size)
  generalize hAe : va_A (wX10 cA h0 h1 h2 h3 h4 h5 h6 h7 h8 h9 h10 h11 v) s.heap.size = A at hD hE ⊢
  have hA : ∀ q : Nat, s.heap.size ≤ q → A q := fun q h => by rw [← hAe]; exact Or.inr h
  have hS : va_S A s.heap s.heap [] := va_S.rf
  have hN : zN s := hE.1
  have hP : va_P D vwCl [(h0, .inr (10, [.ref h1, .ref h2, .ref h3, .ref h4, .ref h5, .ref h6, .int v.2.2.2.2.2.2.1, .ref h7, .ref h8, .ref h9, .ref h10, .int v.2.2.2.2.2.2.2.2.2.2.2.1, .int v.2.2.2.2.2.2.2.2.2.2.2.2.1, .int v.2.2.2.2.2.2.2.2.2.2.2.2.2.1, .ref h11, .int v.2.2.2.2.2.2.2.2.2.2.2.2.2.2.2])), (h1, .inl ((cA 1), 85, .inl v.1)), (h2, .inl ((cA 0), 9, .inr (.inl v.2.1))), (h3, .inl ((cA 1), 85, .inl v.2.2.1)), (h4, .inl ((cA 0), 9, .inr (.inl v.2.2.2.1))), (h5, .inl ((cA 1), 510, .inl v.2.2.2.2.1)), (h6, .inl ((cA 0), 54, .inr (.inl v.2.2.2.2.2.1))), (h7, .inl ((cA 1), 170, .inl v.2.2.2.2.2.2.2.1)), (h8, .inl ((cA 0), 18, .inr (.inl v.2.2.2.2.2.2.2.2.1))), (h9, .inl ((cA 2), 2, .inl v.2.2.2.2.2.2.2.2.2.1)), (h10, .inl ((cA 1), 80, .inl v.2.2.2.2.2.2.2.2.2.2.1)), (h11, .inl ((cA 1), 60, .inl v.2.2.2.2.2.2.2.2.2.2.2.2.2.2.1))] s.heap := hP
  have hD : va_D A [(h0, .inr (10, [.ref h1, .ref h2, .ref h3, .ref h4, .ref h5, .ref h6, .int v.2.2.2.2.2.2.1, .ref h7, .ref h8, .ref h9, .ref h10, .int v.2.2.2.2.2.2.2.2.2.2.2.1, .int v.2.2.2.2.2.2.2.2.2.2.2.2.1, .int v.2.2.2.2.2.2.2.2.2.2.2.2.2.1, .ref h11, .int v.2.2.2.2.2.2.2.2.2.2.2.2.2.2.2])), (h1, .inl ((cA 1), 85, .inl v.1)), (h2, .inl ((cA 0), 9, .inr (.inl v.2.1))), (h3, .inl ((cA 1), 85, .inl v.2.2.1)), (h4, .inl ((cA 0), 9, .inr (.inl v.2.2.2.1))), (h5, .inl ((cA 1), 510, .inl v.2.2.2.2.1)), (h6, .inl ((cA 0), 54, .inr (.inl v.2.2.2.2.2.1))), (h7, .inl ((cA 1), 170, .inl v.2.2.2.2.2.2.2.1)), (h8, .inl ((cA 0), 18, .inr (.inl v.2.2.2.2.2.2.2.2.1))), (h9, .inl ((cA 2), 2, .inl v.2.2.2.2.2.2.2.2.2.1)), (h10, .inl ((cA 1), 80, .inl v.2.2.2.2.2.2.2.2.2.2.1)), (h11, .inl ((cA 1), 60, .inl v.2.2.2.2.2.2.2.2.2.2.2.2.2.2.1))] := hD
  have hl := lv_entry ([.ref h0, .int x1]) (n := 2) (Nat.le_of_ble_eq_true rfl)
  rw [lg_entry_eq]
  generalize (lg_sl ([.ref h0, .int x1]) ++ List.replicate (2 - (lg_sl ([.ref h0, .int x1])).length) Slot.unset).toArray = ls at hl ⊢
  have hl : lv_has ls 2 [(0, .ref h0), (1, .int x1)] := hl
  refine z_genQ (fun Q hQ => ?_)
  refine lv_iload_n hx hb dX10_line_0 rfl (lv_at hl 1 rfl) ?_
  refine z_Ri (va_runS (As := [.int x1]) (rest := []) ⟨hx, hb, hml, hown, hts⟩ (c_X10_isCourse l D cA  x1) (va_cwS 1 hts gX10_line_X10_isCourse rfl rfl rfl (by decide +kernel) ⟨Nat.le_of_ble_eq_true rfl, Nat.le_of_ble_eq_true rfl⟩) (zqSR0 hK hN) rfl rfl hl.1 rfl (lv_room (Nat.le_of_ble_eq_true rfl)) dX10_line_1 ⟨Nat.le_of_ble_eq_true rfl, Nat.le_of_ble_eq_true rfl⟩) ?_
  refine lv_if_ne (tgt := 10) hx hb dX10_line_4 (by decide) (fun c_1 => ?_) (fun c_1 => ?_)
  · skip
    refine lv_aload_n hx hb dX10_line_10 rfl (lv_at hl 0 rfl) ?_
    refine va_get (D := D) (ci := 10) (v := .ref h1) (C := RX10) (T := TX10) (N := 16) hx hb hts hinX10 hown hK hP 0 rfl rfl 0 (by decide) (hts (.fieldLink RX10 7 "GyroTrainerModel" "at" "[I") (List.mem_of_getElem? (i := 1) rfl)) (fun _ h9 => h9) rfl dX10_line_11 ?_
    refine lv_bipush (v := 19) hx hb dX10_line_14 (by decide) ?_
    refine z_iald (k := 19) hx hb hK hP 1 1 rfl rfl rfl (by decide) (by decide) dX10_line_16 ?_
    refine lv_bipush (v := 6) hx hb dX10_line_17 (by decide) ?_
    refine lv_icmp_ne (tgt := 25) hx hb dX10_line_19 (by decide) (fun c_2 => ?_) (fun c_2 => ?_)
    · skip
      refine lv_aload_n hx hb dX10_line_25 rfl (lv_at hl 0 rfl) ?_
      refine z_Hv (wt := fun (u_3 : vX10) => [(h0, .inr (10, [.ref h1, .ref h2, .ref h3, .ref h4, .ref h5, .ref h6, .int u_3.2.2.2.2.2.2.1, .ref h7, .ref h8, .ref h9, .ref h10, .int u_3.2.2.2.2.2.2.2.2.2.2.2.1, .int u_3.2.2.2.2.2.2.2.2.2.2.2.2.1, .int u_3.2.2.2.2.2.2.2.2.2.2.2.2.2.1, .ref h11, .int u_3.2.2.2.2.2.2.2.2.2.2.2.2.2.2.2])), (h1, .inl ((cA 1), 85, .inl u_3.1)), (h2, .inl ((cA 0), 9, .inr (.inl u_3.2.1))), (h3, .inl ((cA 1), 85, .inl u_3.2.2.1)), (h4, .inl ((cA 0), 9, .inr (.inl u_3.2.2.2.1))), (h5, .inl ((cA 1), 510, .inl u_3.2.2.2.2.1)), (h6, .inl ((cA 0), 54, .inr (.inl u_3.2.2.2.2.2.1))), (h7, .inl ((cA 1), 170, .inl u_3.2.2.2.2.2.2.2.1)), (h8, .inl ((cA 0), 18, .inr (.inl u_3.2.2.2.2.2.2.2.2.1))), (h9, .inl ((cA 2), 2, .inl u_3.2.2.2.2.2.2.2.2.2.1)), (h10, .inl ((cA 1), 80, .inl u_3.2.2.2.2.2.2.2.2.2.2.1)), (h11, .inl ((cA 1), 60, .inl u_3.2.2.2.2.2.2.2.2.2.2.2.2.2.2.1))]) (va_runV (As := []) (rest := []) ⟨hx, hb, hml, hown, hts⟩ (c_X10_keep l D cA h0 h1 h2 h3 h4 h5 h6 h7 h8 h9 h10 h11 s.heap.size pm v hpm hp6) (cwV 0 hts gX10_line_X10_keep rfl rfl rfl (by decide +kernel) ⟨Nat.le_of_ble_eq_true rfl, Nat.le_of_ble_eq_true rfl⟩) (zqV hK hP hD hS hA hE (z_c1 (a := []) (b := []) rfl) 0 rfl rfl) rfl rfl hl.1 rfl (lv_room (Nat.le_of_ble_eq_true rfl)) dX10_line_26 ⟨Nat.le_of_ble_eq_true rfl, Nat.le_of_ble_eq_true rfl⟩) hP hD hS hA (z_c1 (a := []) (b := []) rfl) (fun u_3 => (z_c1' (a := []) (b := []) rfl)) (fun u_3 H locs eu_3 hP hD hS => ?_)
      have hP : va_P D vwCl [(h0, .inr (10, [.ref h1, .ref h2, .ref h3, .ref h4, .ref h5, .ref h6, .int u_3.2.2.2.2.2.2.1, .ref h7, .ref h8, .ref h9, .ref h10, .int u_3.2.2.2.2.2.2.2.2.2.2.2.1, .int u_3.2.2.2.2.2.2.2.2.2.2.2.2.1, .int u_3.2.2.2.2.2.2.2.2.2.2.2.2.2.1, .ref h11, .int u_3.2.2.2.2.2.2.2.2.2.2.2.2.2.2.2])), (h1, .inl ((cA 1), 85, .inl u_3.1)), (h2, .inl ((cA 0), 9, .inr (.inl u_3.2.1))), (h3, .inl ((cA 1), 85, .inl u_3.2.2.1)), (h4, .inl ((cA 0), 9, .inr (.inl u_3.2.2.2.1))), (h5, .inl ((cA 1), 510, .inl u_3.2.2.2.2.1)), (h6, .inl ((cA 0), 54, .inr (.inl u_3.2.2.2.2.2.1))), (h7, .inl ((cA 1), 170, .inl u_3.2.2.2.2.2.2.2.1)), (h8, .inl ((cA 0), 18, .inr (.inl u_3.2.2.2.2.2.2.2.2.1))), (h9, .inl ((cA 2), 2, .inl u_3.2.2.2.2.2.2.2.2.2.1)), (h10, .inl ((cA 1), 80, .inl u_3.2.2.2.2.2.2.2.2.2.2.1)), (h11, .inl ((cA 1), 60, .inl u_3.2.2.2.2.2.2.2.2.2.2.2.2.2.2.1))] H := hP
      have hD : va_D A [(h0, .inr (10, [.ref h1, .ref h2, .ref h3, .ref h4, .ref h5, .ref h6, .int u_3.2.2.2.2.2.2.1, .ref h7, .ref h8, .ref h9, .ref h10, .int u_3.2.2.2.2.2.2.2.2.2.2.2.1, .int u_3.2.2.2.2.2.2.2.2.2.2.2.2.1, .int u_3.2.2.2.2.2.2.2.2.2.2.2.2.2.1, .ref h11, .int u_3.2.2.2.2.2.2.2.2.2.2.2.2.2.2.2])), (h1, .inl ((cA 1), 85, .inl u_3.1)), (h2, .inl ((cA 0), 9, .inr (.inl u_3.2.1))), (h3, .inl ((cA 1), 85, .inl u_3.2.2.1)), (h4, .inl ((cA 0), 9, .inr (.inl u_3.2.2.2.1))), (h5, .inl ((cA 1), 510, .inl u_3.2.2.2.2.1)), (h6, .inl ((cA 0), 54, .inr (.inl u_3.2.2.2.2.2.1))), (h7, .inl ((cA 1), 170, .inl u_3.2.2.2.2.2.2.2.1)), (h8, .inl ((cA 0), 18, .inr (.inl u_3.2.2.2.2.2.2.2.2.1))), (h9, .inl ((cA 2), 2, .inl u_3.2.2.2.2.2.2.2.2.2.1)), (h10, .inl ((cA 1), 80, .inl u_3.2.2.2.2.2.2.2.2.2.2.1)), (h11, .inl ((cA 1), 60, .inl u_3.2.2.2.2.2.2.2.2.2.2.2.2.2.2.1))] := hD
      refine lv_aload_n hx hb dX10_line_29 rfl (lv_at hl 0 rfl) ?_
      refine va_get (D := D) (ci := 10) (v := .ref h1) (C := RX10) (T := TX10) (N := 16) hx hb hts hinX10 hown hK hP 0 rfl rfl 0 (by decide) (hts (.fieldLink RX10 7 "GyroTrainerModel" "at" "[I") (List.mem_of_getElem? (i := 1) rfl)) (fun _ h9 => h9) rfl dX10_line_30 ?_
      refine lv_bipush (v := 79) hx hb dX10_line_33 (by decide) ?_
      refine lv_aload_n hx hb dX10_line_35 rfl (lv_at hl 0 rfl) ?_
      refine va_get (D := D) (ci := 10) (v := .ref h1) (C := RX10) (T := TX10) (N := 16) hx hb hts hinX10 hown hK hP 0 rfl rfl 0 (by decide) (hts (.fieldLink RX10 7 "GyroTrainerModel" "at" "[I") (List.mem_of_getElem? (i := 1) rfl)) (fun _ h9 => h9) rfl dX10_line_36 ?_
      refine lv_bipush (v := 19) hx hb dX10_line_39 (by decide) ?_
      refine z_iald (k := 19) hx hb hK hP 1 1 rfl rfl rfl (by decide) (by decide) dX10_line_41 ?_
      refine lv_iadd hx hb dX10_line_42 ?_
      refine lv_iload_n hx hb dX10_line_43 rfl (lv_at hl 1 rfl) ?_
      refine z_iast (k := (79 + n)) hx hb hK hP hD hS 1 1 rfl rfl (by rw [eu_3]; show nI 79 + v.1 19 = _; rw [hn19]; exact nI_add 79 n) (by have h66 : ¬ n = 6 := fun h => c_2 (by rw [hn19, h]; rfl); omega) (by decide) dX10_line_44 (fun g_5 eg_5 H locs hP hD hS => ?_)
      have hP : va_P D vwCl [(h0, .inr (10, [.ref h1, .ref h2, .ref h3, .ref h4, .ref h5, .ref h6, .int u_3.2.2.2.2.2.2.1, .ref h7, .ref h8, .ref h9, .ref h10, .int u_3.2.2.2.2.2.2.2.2.2.2.2.1, .int u_3.2.2.2.2.2.2.2.2.2.2.2.2.1, .int u_3.2.2.2.2.2.2.2.2.2.2.2.2.2.1, .ref h11, .int u_3.2.2.2.2.2.2.2.2.2.2.2.2.2.2.2])), (h1, .inl ((cA 1), 85, .inl g_5)), (h2, .inl ((cA 0), 9, .inr (.inl u_3.2.1))), (h3, .inl ((cA 1), 85, .inl u_3.2.2.1)), (h4, .inl ((cA 0), 9, .inr (.inl u_3.2.2.2.1))), (h5, .inl ((cA 1), 510, .inl u_3.2.2.2.2.1)), (h6, .inl ((cA 0), 54, .inr (.inl u_3.2.2.2.2.2.1))), (h7, .inl ((cA 1), 170, .inl u_3.2.2.2.2.2.2.2.1)), (h8, .inl ((cA 0), 18, .inr (.inl u_3.2.2.2.2.2.2.2.2.1))), (h9, .inl ((cA 2), 2, .inl u_3.2.2.2.2.2.2.2.2.2.1)), (h10, .inl ((cA 1), 80, .inl u_3.2.2.2.2.2.2.2.2.2.2.1)), (h11, .inl ((cA 1), 60, .inl u_3.2.2.2.2.2.2.2.2.2.2.2.2.2.2.1))] H := hP
      have hD : va_D A [(h0, .inr (10, [.ref h1, .ref h2, .ref h3, .ref h4, .ref h5, .ref h6, .int u_3.2.2.2.2.2.2.1, .ref h7, .ref h8, .ref h9, .ref h10, .int u_3.2.2.2.2.2.2.2.2.2.2.2.1, .int u_3.2.2.2.2.2.2.2.2.2.2.2.2.1, .int u_3.2.2.2.2.2.2.2.2.2.2.2.2.2.1, .ref h11, .int u_3.2.2.2.2.2.2.2.2.2.2.2.2.2.2.2])), (h1, .inl ((cA 1), 85, .inl g_5)), (h2, .inl ((cA 0), 9, .inr (.inl u_3.2.1))), (h3, .inl ((cA 1), 85, .inl u_3.2.2.1)), (h4, .inl ((cA 0), 9, .inr (.inl u_3.2.2.2.1))), (h5, .inl ((cA 1), 510, .inl u_3.2.2.2.2.1)), (h6, .inl ((cA 0), 54, .inr (.inl u_3.2.2.2.2.2.1))), (h7, .inl ((cA 1), 170, .inl u_3.2.2.2.2.2.2.2.1)), (h8, .inl ((cA 0), 18, .inr (.inl u_3.2.2.2.2.2.2.2.2.1))), (h9, .inl ((cA 2), 2, .inl u_3.2.2.2.2.2.2.2.2.2.1)), (h10, .inl ((cA 1), 80, .inl u_3.2.2.2.2.2.2.2.2.2.2.1)), (h11, .inl ((cA 1), 60, .inl u_3.2.2.2.2.2.2.2.2.2.2.2.2.2.2.1))] := hD
      refine lv_aload_n hx hb dX10_line_45 rfl (lv_at hl 0 rfl) ?_
      refine va_get (D := D) (ci := 10) (v := .ref h1) (C := RX10) (T := TX10) (N := 16) hx hb hts hinX10 hown hK hP 0 rfl rfl 0 (by decide) (hts (.fieldLink RX10 7 "GyroTrainerModel" "at" "[I") (List.mem_of_getElem? (i := 1) rfl)) (fun _ h9 => h9) rfl dX10_line_46 ?_
      refine lv_bipush (v := 19) hx hb dX10_line_49 (by decide) ?_
      refine lv_dup2_11 hx hb dX10_line_51 rfl rfl ?_
      refine z_iald (k := 19) hx hb hK hP 1 1 rfl rfl rfl (by decide) (by decide) dX10_line_52 ?_
      refine lv_iconst (v := 1) hx hb dX10_line_53 (by decide) ?_
      refine lv_iadd hx hb dX10_line_54 ?_
      refine z_iast (k := 19) hx hb hK hP hD hS 1 1 rfl rfl rfl (by decide) (by decide) dX10_line_55 (fun g_6 eg_6 H locs hP hD hS => ?_)
      have hP : va_P D vwCl [(h0, .inr (10, [.ref h1, .ref h2, .ref h3, .ref h4, .ref h5, .ref h6, .int u_3.2.2.2.2.2.2.1, .ref h7, .ref h8, .ref h9, .ref h10, .int u_3.2.2.2.2.2.2.2.2.2.2.2.1, .int u_3.2.2.2.2.2.2.2.2.2.2.2.2.1, .int u_3.2.2.2.2.2.2.2.2.2.2.2.2.2.1, .ref h11, .int u_3.2.2.2.2.2.2.2.2.2.2.2.2.2.2.2])), (h1, .inl ((cA 1), 85, .inl g_6)), (h2, .inl ((cA 0), 9, .inr (.inl u_3.2.1))), (h3, .inl ((cA 1), 85, .inl u_3.2.2.1)), (h4, .inl ((cA 0), 9, .inr (.inl u_3.2.2.2.1))), (h5, .inl ((cA 1), 510, .inl u_3.2.2.2.2.1)), (h6, .inl ((cA 0), 54, .inr (.inl u_3.2.2.2.2.2.1))), (h7, .inl ((cA 1), 170, .inl u_3.2.2.2.2.2.2.2.1)), (h8, .inl ((cA 0), 18, .inr (.inl u_3.2.2.2.2.2.2.2.2.1))), (h9, .inl ((cA 2), 2, .inl u_3.2.2.2.2.2.2.2.2.2.1)), (h10, .inl ((cA 1), 80, .inl u_3.2.2.2.2.2.2.2.2.2.2.1)), (h11, .inl ((cA 1), 60, .inl u_3.2.2.2.2.2.2.2.2.2.2.2.2.2.2.1))] H := hP
      have hD : va_D A [(h0, .inr (10, [.ref h1, .ref h2, .ref h3, .ref h4, .ref h5, .ref h6, .int u_3.2.2.2.2.2.2.1, .ref h7, .ref h8, .ref h9, .ref h10, .int u_3.2.2.2.2.2.2.2.2.2.2.2.1, .int u_3.2.2.2.2.2.2.2.2.2.2.2.2.1, .int u_3.2.2.2.2.2.2.2.2.2.2.2.2.2.1, .ref h11, .int u_3.2.2.2.2.2.2.2.2.2.2.2.2.2.2.2])), (h1, .inl ((cA 1), 85, .inl g_6)), (h2, .inl ((cA 0), 9, .inr (.inl u_3.2.1))), (h3, .inl ((cA 1), 85, .inl u_3.2.2.1)), (h4, .inl ((cA 0), 9, .inr (.inl u_3.2.2.2.1))), (h5, .inl ((cA 1), 510, .inl u_3.2.2.2.2.1)), (h6, .inl ((cA 0), 54, .inr (.inl u_3.2.2.2.2.2.1))), (h7, .inl ((cA 1), 170, .inl u_3.2.2.2.2.2.2.2.1)), (h8, .inl ((cA 0), 18, .inr (.inl u_3.2.2.2.2.2.2.2.2.1))), (h9, .inl ((cA 2), 2, .inl u_3.2.2.2.2.2.2.2.2.2.1)), (h10, .inl ((cA 1), 80, .inl u_3.2.2.2.2.2.2.2.2.2.2.1)), (h11, .inl ((cA 1), 60, .inl u_3.2.2.2.2.2.2.2.2.2.2.2.2.2.2.1))] := hD
      refine lv_aload_n hx hb dX10_line_56 rfl (lv_at hl 0 rfl) ?_
      refine va_get (D := D) (ci := 10) (v := .ref h1) (C := RX10) (T := TX10) (N := 16) hx hb hts hinX10 hown hK hP 0 rfl rfl 0 (by decide) (hts (.fieldLink RX10 7 "GyroTrainerModel" "at" "[I") (List.mem_of_getElem? (i := 1) rfl)) (fun _ h9 => h9) rfl dX10_line_57 ?_
      refine lv_bipush (v := 19) hx hb dX10_line_60 (by decide) ?_
      refine z_iald (k := 19) hx hb hK hP 1 1 rfl rfl rfl (by decide) (by decide) dX10_line_62 ?_
      refine lv_iconst (v := 1) hx hb dX10_line_63 (by decide) ?_
      refine lv_isub hx hb dX10_line_64 ?_
      have e9 : (fm_line pm n v x1) = (((g_6 19) - (1 : Int32)), (g_6, u_3.2)) := by unfold fm_line; simp only [← eu_3, ← eg_5, ← eg_6, if_neg c_1, if_neg c_2] <;> rfl
      have hP9 : va_P D vwCl (wX10 cA h0 h1 h2 h3 h4 h5 h6 h7 h8 h9 h10 h11 ((g_6, u_3.2) : vX10)) H := hP
      have hD9 : va_D A (wX10 cA h0 h1 h2 h3 h4 h5 h6 h7 h8 h9 h10 h11 ((g_6, u_3.2) : vX10)) := hD
      subst hQ
      exact W.iret (v := ((g_6 19) - (1 : Int32))) hx hb hr (fun t ht hW => ⟨⟨((g_6 19) - (1 : Int32)), (g_6, u_3.2), rfl, e9.symm, ⟨by rw [ht]; exact hP9, va_K.moved hW.alike hK, hD9⟩⟩, hS.F ht⟩) hS.2.2 dX10_line_65
    · skip
      refine lv_bipush (v := -4) hx hb dX10_line_22 (by decide) ?_
      have e9 : (fm_line pm n v x1) = ((-4 : Int32), v) := by unfold fm_line; simp only [if_neg c_1, if_pos c_2] <;> rfl
      have hP9 : va_P D vwCl (wX10 cA h0 h1 h2 h3 h4 h5 h6 h7 h8 h9 h10 h11 (v : vX10)) s.heap := hP
      have hD9 : va_D A (wX10 cA h0 h1 h2 h3 h4 h5 h6 h7 h8 h9 h10 h11 (v : vX10)) := hD
      subst hQ
      exact W.iret (v := (-4 : Int32)) hx hb hr (fun t ht hW => ⟨⟨(-4 : Int32), v, rfl, e9.symm, ⟨by rw [ht]; exact hP9, va_K.moved hW.alike hK, hD9⟩⟩, hS.F ht⟩) hS.2.2 dX10_line_24
  · skip
    refine lv_bipush (v := -2) hx hb dX10_line_7 (by decide) ?_
    have e9 : (fm_line pm n v x1) = ((-2 : Int32), v) := by unfold fm_line; simp only [if_pos c_1] <;> rfl
    have hP9 : va_P D vwCl (wX10 cA h0 h1 h2 h3 h4 h5 h6 h7 h8 h9 h10 h11 (v : vX10)) s.heap := hP
    have hD9 : va_D A (wX10 cA h0 h1 h2 h3 h4 h5 h6 h7 h8 h9 h10 h11 (v : vX10)) := hD
    subst hQ
    exact W.iret (v := (-2 : Int32)) hx hb hr (fun t ht hW => ⟨⟨(-2 : Int32), v, rfl, e9.symm, ⟨by rw [ht]; exact hP9, va_K.moved hW.alike hK, hD9⟩⟩, hS.F ht⟩) hS.2.2 dX10_line_9
set_option maxHeartbeats 4000000 in
set_option maxRecDepth 100000 in
theorem c_X10_addLeg (l : Launch) (D : va_G) (cA : Nat → ClassId) (h0 h1 h2 h3 h4 h5 h6 h7 h8 h9 h10 h11 : Nat) (sz : Nat) (k : Nat) (v : vX10) (x1 : Int32) (x2 : Int32) (x3 : Int32) (hk3 : v.1 3 = nI k) (hk8 : k < 8) : Met l yX10_addLeg wsX10_addLeg ({ frames := 0, cells := 0, slots := 0, locals := 0 }) (va_Pc [.ref h0, .int x1, .int x2, .int x3] (zPre D (zty cA) (wX10 cA h0 h1 h2 h3 h4 h5 h6 h7 h8 h9 h10 h11 v) sz)) (va_Qv (fun (u : vX10) => u = (fm_addL k v x1 x2 x3)) (fun u => zPost D (zty cA) (va_A (wX10 cA h0 h1 h2 h3 h4 h5 h6 h7 h8 h9 h10 h11 v) sz) (wX10 cA h0 h1 h2 h3 h4 h5 h6 h7 h8 h9 h10 h11 u)) (va_A (wX10 cA h0 h1 h2 h3 h4 h5 h6 h7 h8 h9 h10 h11 v) sz)) 0 0 (va_A (wX10 cA h0 h1 h2 h3 h4 h5 h6 h7 h8 h9 h10 h11 v) sz) := by
  refine Met.ofW (cc := cX10_addLeg) (maxL := 5) (ret := none) (by decide) rfl ?_
  intro p e s m args below meth c s₁ B hml hv
  obtain ⟨rfl, hsz, hP, hK, hD0, hE⟩ := hv
  have hx := B.exec
  have hb := B.bytes
  have hr := B.returns
  have hts := atoms_spec (ws := wsX10_addLeg) B.pre
  have hown : s.vm.findClass RX10 = some m.cls := findClass_of_methodNamed B.named
  have hlocks := B.notSynchronized
  have hinX10 : ∀ w ∈ u_ws RX10 TX10 16, w ∈ wsX10_addLeg := fun w h => List.mem_cons_of_mem _ (List.mem_append_right _ h)
  subst hsz
  have hD := hD0.self (sz := s.heap.size)
  generalize hAe : va_A (wX10 cA h0 h1 h2 h3 h4 h5 h6 h7 h8 h9 h10 h11 v) s.heap.size = A at hD hE ⊢
  have hA : ∀ q : Nat, s.heap.size ≤ q → A q := fun q h => by rw [← hAe]; exact Or.inr h
  have hS : va_S A s.heap s.heap [] := va_S.rf
  have hN : zN s := hE.1
  have hP : va_P D vwCl [(h0, .inr (10, [.ref h1, .ref h2, .ref h3, .ref h4, .ref h5, .ref h6, .int v.2.2.2.2.2.2.1, .ref h7, .ref h8, .ref h9, .ref h10, .int v.2.2.2.2.2.2.2.2.2.2.2.1, .int v.2.2.2.2.2.2.2.2.2.2.2.2.1, .int v.2.2.2.2.2.2.2.2.2.2.2.2.2.1, .ref h11, .int v.2.2.2.2.2.2.2.2.2.2.2.2.2.2.2])), (h1, .inl ((cA 1), 85, .inl v.1)), (h2, .inl ((cA 0), 9, .inr (.inl v.2.1))), (h3, .inl ((cA 1), 85, .inl v.2.2.1)), (h4, .inl ((cA 0), 9, .inr (.inl v.2.2.2.1))), (h5, .inl ((cA 1), 510, .inl v.2.2.2.2.1)), (h6, .inl ((cA 0), 54, .inr (.inl v.2.2.2.2.2.1))), (h7, .inl ((cA 1), 170, .inl v.2.2.2.2.2.2.2.1)), (h8, .inl ((cA 0), 18, .inr (.inl v.2.2.2.2.2.2.2.2.1))), (h9, .inl ((cA 2), 2, .inl v.2.2.2.2.2.2.2.2.2.1)), (h10, .inl ((cA 1), 80, .inl v.2.2.2.2.2.2.2.2.2.2.1)), (h11, .inl ((cA 1), 60, .inl v.2.2.2.2.2.2.2.2.2.2.2.2.2.2.1))] s.heap := hP
  have hD : va_D A [(h0, .inr (10, [.ref h1, .ref h2, .ref h3, .ref h4, .ref h5, .ref h6, .int v.2.2.2.2.2.2.1, .ref h7, .ref h8, .ref h9, .ref h10, .int v.2.2.2.2.2.2.2.2.2.2.2.1, .int v.2.2.2.2.2.2.2.2.2.2.2.2.1, .int v.2.2.2.2.2.2.2.2.2.2.2.2.2.1, .ref h11, .int v.2.2.2.2.2.2.2.2.2.2.2.2.2.2.2])), (h1, .inl ((cA 1), 85, .inl v.1)), (h2, .inl ((cA 0), 9, .inr (.inl v.2.1))), (h3, .inl ((cA 1), 85, .inl v.2.2.1)), (h4, .inl ((cA 0), 9, .inr (.inl v.2.2.2.1))), (h5, .inl ((cA 1), 510, .inl v.2.2.2.2.1)), (h6, .inl ((cA 0), 54, .inr (.inl v.2.2.2.2.2.1))), (h7, .inl ((cA 1), 170, .inl v.2.2.2.2.2.2.2.1)), (h8, .inl ((cA 0), 18, .inr (.inl v.2.2.2.2.2.2.2.2.1))), (h9, .inl ((cA 2), 2, .inl v.2.2.2.2.2.2.2.2.2.1)), (h10, .inl ((cA 1), 80, .inl v.2.2.2.2.2.2.2.2.2.2.1)), (h11, .inl ((cA 1), 60, .inl v.2.2.2.2.2.2.2.2.2.2.2.2.2.2.1))] := hD
  have hl := lv_entry ([.ref h0, .int x1, .int x2, .int x3]) (n := 5) (Nat.le_of_ble_eq_true rfl)
  rw [lg_entry_eq]
  generalize (lg_sl ([.ref h0, .int x1, .int x2, .int x3]) ++ List.replicate (5 - (lg_sl ([.ref h0, .int x1, .int x2, .int x3])).length) Slot.unset).toArray = ls at hl ⊢
  have hl : lv_has ls 5 [(0, .ref h0), (1, .int x1), (2, .int x2), (3, .int x3)] := hl
  refine z_genQ (fun Q hQ => ?_)
  refine lv_bipush (v := 34) hx hb dX10_addLeg_0 (by decide) ?_
  refine lv_iconst (v := 3) hx hb dX10_addLeg_2 (by decide) ?_
  refine lv_aload_n hx hb dX10_addLeg_3 rfl (lv_at hl 0 rfl) ?_
  refine va_get (D := D) (ci := 10) (v := .ref h1) (C := RX10) (T := TX10) (N := 16) hx hb hts hinX10 hown hK hP 0 rfl rfl 0 (by decide) (hts (.fieldLink RX10 7 "GyroTrainerModel" "at" "[I") (List.mem_of_getElem? (i := 1) rfl)) (fun _ h9 => h9) rfl dX10_addLeg_4 ?_
  refine lv_iconst (v := 3) hx hb dX10_addLeg_7 (by decide) ?_
  refine z_iald (k := 3) hx hb hK hP 1 1 rfl rfl rfl (by decide) (by decide) dX10_addLeg_8 ?_
  refine lv_imul hx hb dX10_addLeg_9 ?_
  refine lv_iadd hx hb dX10_addLeg_10 ?_
  rw [hk3, show (34 : Int32) + 3 * nI k = nI (34 + 3 * k) from zm_ix 34 3 k]
  refine lv_istore (lv' := [(4, .int (nI (34 + 3 * k))), (0, .ref h0), (1, .int x1), (2, .int x2), (3, .int x3)]) hx hb dX10_addLeg_11 hl (by decide) rfl (fun ls hl => ?_)
  refine lv_aload_n hx hb dX10_addLeg_13 rfl (lv_at hl 1 rfl) ?_
  refine va_get (D := D) (ci := 10) (v := .ref h1) (C := RX10) (T := TX10) (N := 16) hx hb hts hinX10 hown hK hP 0 rfl rfl 0 (by decide) (hts (.fieldLink RX10 7 "GyroTrainerModel" "at" "[I") (List.mem_of_getElem? (i := 1) rfl)) (fun _ h9 => h9) rfl dX10_addLeg_14 ?_
  refine lv_iload hx hb dX10_addLeg_17 (lv_at hl 0 rfl) ?_
  refine lv_iload_n hx hb dX10_addLeg_19 rfl (lv_at hl 2 rfl) ?_
  refine z_iast (k := (34 + 3 * k)) hx hb hK hP hD hS 1 1 rfl rfl rfl (by omega) (by decide) dX10_addLeg_20 (fun g_1 eg_1 H locs hP hD hS => ?_)
  have hP : va_P D vwCl [(h0, .inr (10, [.ref h1, .ref h2, .ref h3, .ref h4, .ref h5, .ref h6, .int v.2.2.2.2.2.2.1, .ref h7, .ref h8, .ref h9, .ref h10, .int v.2.2.2.2.2.2.2.2.2.2.2.1, .int v.2.2.2.2.2.2.2.2.2.2.2.2.1, .int v.2.2.2.2.2.2.2.2.2.2.2.2.2.1, .ref h11, .int v.2.2.2.2.2.2.2.2.2.2.2.2.2.2.2])), (h1, .inl ((cA 1), 85, .inl g_1)), (h2, .inl ((cA 0), 9, .inr (.inl v.2.1))), (h3, .inl ((cA 1), 85, .inl v.2.2.1)), (h4, .inl ((cA 0), 9, .inr (.inl v.2.2.2.1))), (h5, .inl ((cA 1), 510, .inl v.2.2.2.2.1)), (h6, .inl ((cA 0), 54, .inr (.inl v.2.2.2.2.2.1))), (h7, .inl ((cA 1), 170, .inl v.2.2.2.2.2.2.2.1)), (h8, .inl ((cA 0), 18, .inr (.inl v.2.2.2.2.2.2.2.2.1))), (h9, .inl ((cA 2), 2, .inl v.2.2.2.2.2.2.2.2.2.1)), (h10, .inl ((cA 1), 80, .inl v.2.2.2.2.2.2.2.2.2.2.1)), (h11, .inl ((cA 1), 60, .inl v.2.2.2.2.2.2.2.2.2.2.2.2.2.2.1))] H := hP
  have hD : va_D A [(h0, .inr (10, [.ref h1, .ref h2, .ref h3, .ref h4, .ref h5, .ref h6, .int v.2.2.2.2.2.2.1, .ref h7, .ref h8, .ref h9, .ref h10, .int v.2.2.2.2.2.2.2.2.2.2.2.1, .int v.2.2.2.2.2.2.2.2.2.2.2.2.1, .int v.2.2.2.2.2.2.2.2.2.2.2.2.2.1, .ref h11, .int v.2.2.2.2.2.2.2.2.2.2.2.2.2.2.2])), (h1, .inl ((cA 1), 85, .inl g_1)), (h2, .inl ((cA 0), 9, .inr (.inl v.2.1))), (h3, .inl ((cA 1), 85, .inl v.2.2.1)), (h4, .inl ((cA 0), 9, .inr (.inl v.2.2.2.1))), (h5, .inl ((cA 1), 510, .inl v.2.2.2.2.1)), (h6, .inl ((cA 0), 54, .inr (.inl v.2.2.2.2.2.1))), (h7, .inl ((cA 1), 170, .inl v.2.2.2.2.2.2.2.1)), (h8, .inl ((cA 0), 18, .inr (.inl v.2.2.2.2.2.2.2.2.1))), (h9, .inl ((cA 2), 2, .inl v.2.2.2.2.2.2.2.2.2.1)), (h10, .inl ((cA 1), 80, .inl v.2.2.2.2.2.2.2.2.2.2.1)), (h11, .inl ((cA 1), 60, .inl v.2.2.2.2.2.2.2.2.2.2.2.2.2.2.1))] := hD
  refine lv_aload_n hx hb dX10_addLeg_21 rfl (lv_at hl 1 rfl) ?_
  refine va_get (D := D) (ci := 10) (v := .ref h1) (C := RX10) (T := TX10) (N := 16) hx hb hts hinX10 hown hK hP 0 rfl rfl 0 (by decide) (hts (.fieldLink RX10 7 "GyroTrainerModel" "at" "[I") (List.mem_of_getElem? (i := 1) rfl)) (fun _ h9 => h9) rfl dX10_addLeg_22 ?_
  refine lv_iload hx hb dX10_addLeg_25 (lv_at hl 0 rfl) ?_
  refine lv_iconst (v := 1) hx hb dX10_addLeg_27 (by decide) ?_
  refine lv_iadd hx hb dX10_addLeg_28 ?_
  refine lv_iload_n hx hb dX10_addLeg_29 rfl (lv_at hl 3 rfl) ?_
  refine z_iast (k := (34 + 3 * k + 1)) hx hb hK hP hD hS 1 1 rfl rfl (nI_add (34 + 3 * k) 1) (by omega) (by decide) dX10_addLeg_30 (fun g_2 eg_2 H locs hP hD hS => ?_)
  have hP : va_P D vwCl [(h0, .inr (10, [.ref h1, .ref h2, .ref h3, .ref h4, .ref h5, .ref h6, .int v.2.2.2.2.2.2.1, .ref h7, .ref h8, .ref h9, .ref h10, .int v.2.2.2.2.2.2.2.2.2.2.2.1, .int v.2.2.2.2.2.2.2.2.2.2.2.2.1, .int v.2.2.2.2.2.2.2.2.2.2.2.2.2.1, .ref h11, .int v.2.2.2.2.2.2.2.2.2.2.2.2.2.2.2])), (h1, .inl ((cA 1), 85, .inl g_2)), (h2, .inl ((cA 0), 9, .inr (.inl v.2.1))), (h3, .inl ((cA 1), 85, .inl v.2.2.1)), (h4, .inl ((cA 0), 9, .inr (.inl v.2.2.2.1))), (h5, .inl ((cA 1), 510, .inl v.2.2.2.2.1)), (h6, .inl ((cA 0), 54, .inr (.inl v.2.2.2.2.2.1))), (h7, .inl ((cA 1), 170, .inl v.2.2.2.2.2.2.2.1)), (h8, .inl ((cA 0), 18, .inr (.inl v.2.2.2.2.2.2.2.2.1))), (h9, .inl ((cA 2), 2, .inl v.2.2.2.2.2.2.2.2.2.1)), (h10, .inl ((cA 1), 80, .inl v.2.2.2.2.2.2.2.2.2.2.1)), (h11, .inl ((cA 1), 60, .inl v.2.2.2.2.2.2.2.2.2.2.2.2.2.2.1))] H := hP
  have hD : va_D A [(h0, .inr (10, [.ref h1, .ref h2, .ref h3, .ref h4, .ref h5, .ref h6, .int v.2.2.2.2.2.2.1, .ref h7, .ref h8, .ref h9, .ref h10, .int v.2.2.2.2.2.2.2.2.2.2.2.1, .int v.2.2.2.2.2.2.2.2.2.2.2.2.1, .int v.2.2.2.2.2.2.2.2.2.2.2.2.2.1, .ref h11, .int v.2.2.2.2.2.2.2.2.2.2.2.2.2.2.2])), (h1, .inl ((cA 1), 85, .inl g_2)), (h2, .inl ((cA 0), 9, .inr (.inl v.2.1))), (h3, .inl ((cA 1), 85, .inl v.2.2.1)), (h4, .inl ((cA 0), 9, .inr (.inl v.2.2.2.1))), (h5, .inl ((cA 1), 510, .inl v.2.2.2.2.1)), (h6, .inl ((cA 0), 54, .inr (.inl v.2.2.2.2.2.1))), (h7, .inl ((cA 1), 170, .inl v.2.2.2.2.2.2.2.1)), (h8, .inl ((cA 0), 18, .inr (.inl v.2.2.2.2.2.2.2.2.1))), (h9, .inl ((cA 2), 2, .inl v.2.2.2.2.2.2.2.2.2.1)), (h10, .inl ((cA 1), 80, .inl v.2.2.2.2.2.2.2.2.2.2.1)), (h11, .inl ((cA 1), 60, .inl v.2.2.2.2.2.2.2.2.2.2.2.2.2.2.1))] := hD
  refine lv_aload_n hx hb dX10_addLeg_31 rfl (lv_at hl 1 rfl) ?_
  refine va_get (D := D) (ci := 10) (v := .ref h1) (C := RX10) (T := TX10) (N := 16) hx hb hts hinX10 hown hK hP 0 rfl rfl 0 (by decide) (hts (.fieldLink RX10 7 "GyroTrainerModel" "at" "[I") (List.mem_of_getElem? (i := 1) rfl)) (fun _ h9 => h9) rfl dX10_addLeg_32 ?_
  refine lv_iload hx hb dX10_addLeg_35 (lv_at hl 0 rfl) ?_
  refine lv_iconst (v := 2) hx hb dX10_addLeg_37 (by decide) ?_
  refine lv_iadd hx hb dX10_addLeg_38 ?_
  refine lv_iload_n hx hb dX10_addLeg_39 rfl (lv_at hl 4 rfl) ?_
  refine z_iast (k := (34 + 3 * k + 2)) hx hb hK hP hD hS 1 1 rfl rfl (nI_add (34 + 3 * k) 2) (by omega) (by decide) dX10_addLeg_40 (fun g_3 eg_3 H locs hP hD hS => ?_)
  have hP : va_P D vwCl [(h0, .inr (10, [.ref h1, .ref h2, .ref h3, .ref h4, .ref h5, .ref h6, .int v.2.2.2.2.2.2.1, .ref h7, .ref h8, .ref h9, .ref h10, .int v.2.2.2.2.2.2.2.2.2.2.2.1, .int v.2.2.2.2.2.2.2.2.2.2.2.2.1, .int v.2.2.2.2.2.2.2.2.2.2.2.2.2.1, .ref h11, .int v.2.2.2.2.2.2.2.2.2.2.2.2.2.2.2])), (h1, .inl ((cA 1), 85, .inl g_3)), (h2, .inl ((cA 0), 9, .inr (.inl v.2.1))), (h3, .inl ((cA 1), 85, .inl v.2.2.1)), (h4, .inl ((cA 0), 9, .inr (.inl v.2.2.2.1))), (h5, .inl ((cA 1), 510, .inl v.2.2.2.2.1)), (h6, .inl ((cA 0), 54, .inr (.inl v.2.2.2.2.2.1))), (h7, .inl ((cA 1), 170, .inl v.2.2.2.2.2.2.2.1)), (h8, .inl ((cA 0), 18, .inr (.inl v.2.2.2.2.2.2.2.2.1))), (h9, .inl ((cA 2), 2, .inl v.2.2.2.2.2.2.2.2.2.1)), (h10, .inl ((cA 1), 80, .inl v.2.2.2.2.2.2.2.2.2.2.1)), (h11, .inl ((cA 1), 60, .inl v.2.2.2.2.2.2.2.2.2.2.2.2.2.2.1))] H := hP
  have hD : va_D A [(h0, .inr (10, [.ref h1, .ref h2, .ref h3, .ref h4, .ref h5, .ref h6, .int v.2.2.2.2.2.2.1, .ref h7, .ref h8, .ref h9, .ref h10, .int v.2.2.2.2.2.2.2.2.2.2.2.1, .int v.2.2.2.2.2.2.2.2.2.2.2.2.1, .int v.2.2.2.2.2.2.2.2.2.2.2.2.2.1, .ref h11, .int v.2.2.2.2.2.2.2.2.2.2.2.2.2.2.2])), (h1, .inl ((cA 1), 85, .inl g_3)), (h2, .inl ((cA 0), 9, .inr (.inl v.2.1))), (h3, .inl ((cA 1), 85, .inl v.2.2.1)), (h4, .inl ((cA 0), 9, .inr (.inl v.2.2.2.1))), (h5, .inl ((cA 1), 510, .inl v.2.2.2.2.1)), (h6, .inl ((cA 0), 54, .inr (.inl v.2.2.2.2.2.1))), (h7, .inl ((cA 1), 170, .inl v.2.2.2.2.2.2.2.1)), (h8, .inl ((cA 0), 18, .inr (.inl v.2.2.2.2.2.2.2.2.1))), (h9, .inl ((cA 2), 2, .inl v.2.2.2.2.2.2.2.2.2.1)), (h10, .inl ((cA 1), 80, .inl v.2.2.2.2.2.2.2.2.2.2.1)), (h11, .inl ((cA 1), 60, .inl v.2.2.2.2.2.2.2.2.2.2.2.2.2.2.1))] := hD
  refine lv_aload_n hx hb dX10_addLeg_41 rfl (lv_at hl 1 rfl) ?_
  refine va_get (D := D) (ci := 10) (v := .ref h1) (C := RX10) (T := TX10) (N := 16) hx hb hts hinX10 hown hK hP 0 rfl rfl 0 (by decide) (hts (.fieldLink RX10 7 "GyroTrainerModel" "at" "[I") (List.mem_of_getElem? (i := 1) rfl)) (fun _ h9 => h9) rfl dX10_addLeg_42 ?_
  refine lv_iconst (v := 3) hx hb dX10_addLeg_45 (by decide) ?_
  refine lv_dup2_11 hx hb dX10_addLeg_46 rfl rfl ?_
  refine z_iald (k := 3) hx hb hK hP 1 1 rfl rfl rfl (by decide) (by decide) dX10_addLeg_47 ?_
  refine lv_iconst (v := 1) hx hb dX10_addLeg_48 (by decide) ?_
  refine lv_iadd hx hb dX10_addLeg_49 ?_
  refine z_iast (k := 3) hx hb hK hP hD hS 1 1 rfl rfl rfl (by decide) (by decide) dX10_addLeg_50 (fun g_4 eg_4 H locs hP hD hS => ?_)
  have hP : va_P D vwCl [(h0, .inr (10, [.ref h1, .ref h2, .ref h3, .ref h4, .ref h5, .ref h6, .int v.2.2.2.2.2.2.1, .ref h7, .ref h8, .ref h9, .ref h10, .int v.2.2.2.2.2.2.2.2.2.2.2.1, .int v.2.2.2.2.2.2.2.2.2.2.2.2.1, .int v.2.2.2.2.2.2.2.2.2.2.2.2.2.1, .ref h11, .int v.2.2.2.2.2.2.2.2.2.2.2.2.2.2.2])), (h1, .inl ((cA 1), 85, .inl g_4)), (h2, .inl ((cA 0), 9, .inr (.inl v.2.1))), (h3, .inl ((cA 1), 85, .inl v.2.2.1)), (h4, .inl ((cA 0), 9, .inr (.inl v.2.2.2.1))), (h5, .inl ((cA 1), 510, .inl v.2.2.2.2.1)), (h6, .inl ((cA 0), 54, .inr (.inl v.2.2.2.2.2.1))), (h7, .inl ((cA 1), 170, .inl v.2.2.2.2.2.2.2.1)), (h8, .inl ((cA 0), 18, .inr (.inl v.2.2.2.2.2.2.2.2.1))), (h9, .inl ((cA 2), 2, .inl v.2.2.2.2.2.2.2.2.2.1)), (h10, .inl ((cA 1), 80, .inl v.2.2.2.2.2.2.2.2.2.2.1)), (h11, .inl ((cA 1), 60, .inl v.2.2.2.2.2.2.2.2.2.2.2.2.2.2.1))] H := hP
  have hD : va_D A [(h0, .inr (10, [.ref h1, .ref h2, .ref h3, .ref h4, .ref h5, .ref h6, .int v.2.2.2.2.2.2.1, .ref h7, .ref h8, .ref h9, .ref h10, .int v.2.2.2.2.2.2.2.2.2.2.2.1, .int v.2.2.2.2.2.2.2.2.2.2.2.2.1, .int v.2.2.2.2.2.2.2.2.2.2.2.2.2.1, .ref h11, .int v.2.2.2.2.2.2.2.2.2.2.2.2.2.2.2])), (h1, .inl ((cA 1), 85, .inl g_4)), (h2, .inl ((cA 0), 9, .inr (.inl v.2.1))), (h3, .inl ((cA 1), 85, .inl v.2.2.1)), (h4, .inl ((cA 0), 9, .inr (.inl v.2.2.2.1))), (h5, .inl ((cA 1), 510, .inl v.2.2.2.2.1)), (h6, .inl ((cA 0), 54, .inr (.inl v.2.2.2.2.2.1))), (h7, .inl ((cA 1), 170, .inl v.2.2.2.2.2.2.2.1)), (h8, .inl ((cA 0), 18, .inr (.inl v.2.2.2.2.2.2.2.2.1))), (h9, .inl ((cA 2), 2, .inl v.2.2.2.2.2.2.2.2.2.1)), (h10, .inl ((cA 1), 80, .inl v.2.2.2.2.2.2.2.2.2.2.1)), (h11, .inl ((cA 1), 60, .inl v.2.2.2.2.2.2.2.2.2.2.2.2.2.2.1))] := hD
  have e9 : (fm_addL k v x1 x2 x3) = (g_4, v.2) := by unfold fm_addL fm_addLeg; simp only [← eg_1, ← eg_2, ← eg_3, ← eg_4]
  have hP9 : va_P D vwCl (wX10 cA h0 h1 h2 h3 h4 h5 h6 h7 h8 h9 h10 h11 ((g_4, v.2) : vX10)) H := hP
  have hD9 : va_D A (wX10 cA h0 h1 h2 h3 h4 h5 h6 h7 h8 h9 h10 h11 ((g_4, v.2) : vX10)) := hD
  subst hQ
  exact W.vret hx hb hr (fun t ht hW => ⟨⟨(g_4, v.2), rfl, e9.symm, ⟨by rw [ht]; exact hP9, va_K.moved hW.alike hK, hD9⟩⟩, hS.F ht⟩) hS.2.2 dX10_addLeg_51
set_option maxHeartbeats 4000000 in
set_option maxRecDepth 100000 in
theorem c_X10_leg (l : Launch) (D : va_G) (cA : Nat → ClassId) (h0 h1 h2 h3 h4 h5 h6 h7 h8 h9 h10 h11 : Nat) (sz : Nat) (pm : Nat) (k : Nat) (v : vX10) (x1 : Int32) (x2 : Int32) (x3 : Int32) (hpm : v.2.2.2.2.2.2.1 = nI pm) (hp6 : pm ≤ 6) (hk3 : v.1 3 = nI k) (hk8 : k ≤ 8) : Met l yX10_leg wsX10_leg ({ frames := 2, cells := 0, slots := 0, locals := 42 }) (va_Pc [.ref h0, .int x1, .int x2, .int x3] (zPre D (zty cA) (wX10 cA h0 h1 h2 h3 h4 h5 h6 h7 h8 h9 h10 h11 v) sz)) (va_Qi (fun (x : Int32) (u : vX10) => (x, u) = (fm_leg pm k v x1 x2 x3)) (fun u => zPost D (zty cA) (va_A (wX10 cA h0 h1 h2 h3 h4 h5 h6 h7 h8 h9 h10 h11 v) sz) (wX10 cA h0 h1 h2 h3 h4 h5 h6 h7 h8 h9 h10 h11 u)) (va_A (wX10 cA h0 h1 h2 h3 h4 h5 h6 h7 h8 h9 h10 h11 v) sz)) 0 0 (va_A (wX10 cA h0 h1 h2 h3 h4 h5 h6 h7 h8 h9 h10 h11 v) sz) := by
  refine Met.ofW (cc := cX10_leg) (maxL := 4) (ret := (some .int)) (by decide) rfl ?_
  intro p e s m args below meth c s₁ B hml hv
  obtain ⟨rfl, hsz, hP, hK, hD0, hE⟩ := hv
  have hx := B.exec
  have hb := B.bytes
  have hr := B.returns
  have hts := atoms_spec (ws := wsX10_leg) B.pre
  have hown : s.vm.findClass RX10 = some m.cls := findClass_of_methodNamed B.named
  have hlocks := B.notSynchronized
  have hinX10 : ∀ w ∈ u_ws RX10 TX10 16, w ∈ wsX10_leg := fun w h => List.mem_cons_of_mem _ (List.mem_append_right _ h)
  subst hsz
  have hD := hD0.self (sz := s.heap.size)
  generalize hAe : va_A (wX10 cA h0 h1 h2 h3 h4 h5 h6 h7 h8 h9 h10 h11 v) s.heap.size = A at hD hE ⊢
  have hA : ∀ q : Nat, s.heap.size ≤ q → A q := fun q h => by rw [← hAe]; exact Or.inr h
  have hS : va_S A s.heap s.heap [] := va_S.rf
  have hN : zN s := hE.1
  have hP : va_P D vwCl [(h0, .inr (10, [.ref h1, .ref h2, .ref h3, .ref h4, .ref h5, .ref h6, .int v.2.2.2.2.2.2.1, .ref h7, .ref h8, .ref h9, .ref h10, .int v.2.2.2.2.2.2.2.2.2.2.2.1, .int v.2.2.2.2.2.2.2.2.2.2.2.2.1, .int v.2.2.2.2.2.2.2.2.2.2.2.2.2.1, .ref h11, .int v.2.2.2.2.2.2.2.2.2.2.2.2.2.2.2])), (h1, .inl ((cA 1), 85, .inl v.1)), (h2, .inl ((cA 0), 9, .inr (.inl v.2.1))), (h3, .inl ((cA 1), 85, .inl v.2.2.1)), (h4, .inl ((cA 0), 9, .inr (.inl v.2.2.2.1))), (h5, .inl ((cA 1), 510, .inl v.2.2.2.2.1)), (h6, .inl ((cA 0), 54, .inr (.inl v.2.2.2.2.2.1))), (h7, .inl ((cA 1), 170, .inl v.2.2.2.2.2.2.2.1)), (h8, .inl ((cA 0), 18, .inr (.inl v.2.2.2.2.2.2.2.2.1))), (h9, .inl ((cA 2), 2, .inl v.2.2.2.2.2.2.2.2.2.1)), (h10, .inl ((cA 1), 80, .inl v.2.2.2.2.2.2.2.2.2.2.1)), (h11, .inl ((cA 1), 60, .inl v.2.2.2.2.2.2.2.2.2.2.2.2.2.2.1))] s.heap := hP
  have hD : va_D A [(h0, .inr (10, [.ref h1, .ref h2, .ref h3, .ref h4, .ref h5, .ref h6, .int v.2.2.2.2.2.2.1, .ref h7, .ref h8, .ref h9, .ref h10, .int v.2.2.2.2.2.2.2.2.2.2.2.1, .int v.2.2.2.2.2.2.2.2.2.2.2.2.1, .int v.2.2.2.2.2.2.2.2.2.2.2.2.2.1, .ref h11, .int v.2.2.2.2.2.2.2.2.2.2.2.2.2.2.2])), (h1, .inl ((cA 1), 85, .inl v.1)), (h2, .inl ((cA 0), 9, .inr (.inl v.2.1))), (h3, .inl ((cA 1), 85, .inl v.2.2.1)), (h4, .inl ((cA 0), 9, .inr (.inl v.2.2.2.1))), (h5, .inl ((cA 1), 510, .inl v.2.2.2.2.1)), (h6, .inl ((cA 0), 54, .inr (.inl v.2.2.2.2.2.1))), (h7, .inl ((cA 1), 170, .inl v.2.2.2.2.2.2.2.1)), (h8, .inl ((cA 0), 18, .inr (.inl v.2.2.2.2.2.2.2.2.1))), (h9, .inl ((cA 2), 2, .inl v.2.2.2.2.2.2.2.2.2.1)), (h10, .inl ((cA 1), 80, .inl v.2.2.2.2.2.2.2.2.2.2.1)), (h11, .inl ((cA 1), 60, .inl v.2.2.2.2.2.2.2.2.2.2.2.2.2.2.1))] := hD
  have hl := lv_entry ([.ref h0, .int x1, .int x2, .int x3]) (n := 4) (Nat.le_of_ble_eq_true rfl)
  rw [lg_entry_eq]
  generalize (lg_sl ([.ref h0, .int x1, .int x2, .int x3]) ++ List.replicate (4 - (lg_sl ([.ref h0, .int x1, .int x2, .int x3])).length) Slot.unset).toArray = ls at hl ⊢
  have hl : lv_has ls 4 [(0, .ref h0), (1, .int x1), (2, .int x2), (3, .int x3)] := hl
  refine z_genQ (fun Q hQ => ?_)
  refine lv_iload_n hx hb dX10_leg_0 rfl (lv_at hl 1 rfl) ?_
  refine z_Ri (va_runS (As := [.int x1]) (rest := []) ⟨hx, hb, hml, hown, hts⟩ (c_X10_isCourse l D cA  x1) (va_cwS 1 hts gX10_leg_X10_isCourse rfl rfl rfl (by decide +kernel) ⟨Nat.le_of_ble_eq_true rfl, Nat.le_of_ble_eq_true rfl⟩) (zqSR0 hK hN) rfl rfl hl.1 rfl (lv_room (Nat.le_of_ble_eq_true rfl)) dX10_leg_1 ⟨Nat.le_of_ble_eq_true rfl, Nat.le_of_ble_eq_true rfl⟩) ?_
  refine lv_if_eq (tgt := 25) hx hb dX10_leg_4 (by decide) (fun c_1 => ?_) (fun c_1 => ?_)
  · skip
    refine lv_bipush (v := -2) hx hb dX10_leg_25 (by decide) ?_
    have e9 : (fm_leg pm k v x1 x2 x3) = ((-2 : Int32), v) := by unfold fm_leg; simp only [if_pos c_1] <;> rfl
    have hP9 : va_P D vwCl (wX10 cA h0 h1 h2 h3 h4 h5 h6 h7 h8 h9 h10 h11 (v : vX10)) s.heap := hP
    have hD9 : va_D A (wX10 cA h0 h1 h2 h3 h4 h5 h6 h7 h8 h9 h10 h11 (v : vX10)) := hD
    subst hQ
    exact W.iret (v := (-2 : Int32)) hx hb hr (fun t ht hW => ⟨⟨(-2 : Int32), v, rfl, e9.symm, ⟨by rw [ht]; exact hP9, va_K.moved hW.alike hK, hD9⟩⟩, hS.F ht⟩) hS.2.2 dX10_leg_27
  · skip
    refine lv_iload_n hx hb dX10_leg_7 rfl (lv_at hl 2 rfl) ?_
    refine z_Ri (va_runS (As := [.int x2]) (rest := []) ⟨hx, hb, hml, hown, hts⟩ (c_X10_isSpeed l D cA  x2) (va_cwS 1 hts gX10_leg_X10_isSpeed rfl rfl rfl (by decide +kernel) ⟨Nat.le_of_ble_eq_true rfl, Nat.le_of_ble_eq_true rfl⟩) (zqSR0 hK hN) rfl rfl hl.1 rfl (lv_room (Nat.le_of_ble_eq_true rfl)) dX10_leg_8 ⟨Nat.le_of_ble_eq_true rfl, Nat.le_of_ble_eq_true rfl⟩) ?_
    refine lv_if_eq (tgt := 25) hx hb dX10_leg_11 (by decide) (fun c_2 => ?_) (fun c_2 => ?_)
    · skip
      refine lv_bipush (v := -2) hx hb dX10_leg_25 (by decide) ?_
      have e9 : (fm_leg pm k v x1 x2 x3) = ((-2 : Int32), v) := by unfold fm_leg; simp only [if_neg c_1, if_pos c_2] <;> rfl
      have hP9 : va_P D vwCl (wX10 cA h0 h1 h2 h3 h4 h5 h6 h7 h8 h9 h10 h11 (v : vX10)) s.heap := hP
      have hD9 : va_D A (wX10 cA h0 h1 h2 h3 h4 h5 h6 h7 h8 h9 h10 h11 (v : vX10)) := hD
      subst hQ
      exact W.iret (v := (-2 : Int32)) hx hb hr (fun t ht hW => ⟨⟨(-2 : Int32), v, rfl, e9.symm, ⟨by rw [ht]; exact hP9, va_K.moved hW.alike hK, hD9⟩⟩, hS.F ht⟩) hS.2.2 dX10_leg_27
    · skip
      refine lv_iload_n hx hb dX10_leg_14 rfl (lv_at hl 3 rfl) ?_
      refine lv_iconst (v := 1) hx hb dX10_leg_15 (by decide) ?_
      refine lv_sipush (v := 600) hx hb dX10_leg_16 (by decide) ?_
      refine z_Ri (va_runS (As := [.int x3, .int (1 : Int32), .int (600 : Int32)]) (rest := []) ⟨hx, hb, hml, hown, hts⟩ (c_X10_in l D cA  x3 (1 : Int32) (600 : Int32)) (va_cwS 3 hts gX10_leg_X10_in rfl rfl rfl (by decide +kernel) ⟨Nat.le_of_ble_eq_true rfl, Nat.le_of_ble_eq_true rfl⟩) (zqSR0 hK hN) rfl rfl hl.1 rfl (lv_room (Nat.le_of_ble_eq_true rfl)) dX10_leg_19 ⟨Nat.le_of_ble_eq_true rfl, Nat.le_of_ble_eq_true rfl⟩) ?_
      refine lv_if_ne (tgt := 28) hx hb dX10_leg_22 (by decide) (fun c_3 => ?_) (fun c_3 => ?_)
      · skip
        refine lv_aload_n hx hb dX10_leg_28 rfl (lv_at hl 0 rfl) ?_
        refine va_get (D := D) (ci := 10) (v := .ref h1) (C := RX10) (T := TX10) (N := 16) hx hb hts hinX10 hown hK hP 0 rfl rfl 0 (by decide) (hts (.fieldLink RX10 7 "GyroTrainerModel" "at" "[I") (List.mem_of_getElem? (i := 1) rfl)) (fun _ h9 => h9) rfl dX10_leg_29 ?_
        refine lv_iconst (v := 3) hx hb dX10_leg_32 (by decide) ?_
        refine z_iald (k := 3) hx hb hK hP 1 1 rfl rfl rfl (by decide) (by decide) dX10_leg_33 ?_
        refine lv_bipush (v := 8) hx hb dX10_leg_34 (by decide) ?_
        refine lv_icmp_ne (tgt := 42) hx hb dX10_leg_36 (by decide) (fun c_4 => ?_) (fun c_4 => ?_)
        · skip
          refine lv_aload_n hx hb dX10_leg_42 rfl (lv_at hl 0 rfl) ?_
          refine z_Hv (wt := fun (u_5 : vX10) => [(h0, .inr (10, [.ref h1, .ref h2, .ref h3, .ref h4, .ref h5, .ref h6, .int u_5.2.2.2.2.2.2.1, .ref h7, .ref h8, .ref h9, .ref h10, .int u_5.2.2.2.2.2.2.2.2.2.2.2.1, .int u_5.2.2.2.2.2.2.2.2.2.2.2.2.1, .int u_5.2.2.2.2.2.2.2.2.2.2.2.2.2.1, .ref h11, .int u_5.2.2.2.2.2.2.2.2.2.2.2.2.2.2.2])), (h1, .inl ((cA 1), 85, .inl u_5.1)), (h2, .inl ((cA 0), 9, .inr (.inl u_5.2.1))), (h3, .inl ((cA 1), 85, .inl u_5.2.2.1)), (h4, .inl ((cA 0), 9, .inr (.inl u_5.2.2.2.1))), (h5, .inl ((cA 1), 510, .inl u_5.2.2.2.2.1)), (h6, .inl ((cA 0), 54, .inr (.inl u_5.2.2.2.2.2.1))), (h7, .inl ((cA 1), 170, .inl u_5.2.2.2.2.2.2.2.1)), (h8, .inl ((cA 0), 18, .inr (.inl u_5.2.2.2.2.2.2.2.2.1))), (h9, .inl ((cA 2), 2, .inl u_5.2.2.2.2.2.2.2.2.2.1)), (h10, .inl ((cA 1), 80, .inl u_5.2.2.2.2.2.2.2.2.2.2.1)), (h11, .inl ((cA 1), 60, .inl u_5.2.2.2.2.2.2.2.2.2.2.2.2.2.2.1))]) (va_runV (As := []) (rest := []) ⟨hx, hb, hml, hown, hts⟩ (c_X10_keep l D cA h0 h1 h2 h3 h4 h5 h6 h7 h8 h9 h10 h11 s.heap.size pm v hpm hp6) (cwV 0 hts gX10_leg_X10_keep rfl rfl rfl (by decide +kernel) ⟨Nat.le_of_ble_eq_true rfl, Nat.le_of_ble_eq_true rfl⟩) (zqV hK hP hD hS hA hE (z_c1 (a := []) (b := []) rfl) 0 rfl rfl) rfl rfl hl.1 rfl (lv_room (Nat.le_of_ble_eq_true rfl)) dX10_leg_43 ⟨Nat.le_of_ble_eq_true rfl, Nat.le_of_ble_eq_true rfl⟩) hP hD hS hA (z_c1 (a := []) (b := []) rfl) (fun u_5 => (z_c1' (a := []) (b := []) rfl)) (fun u_5 H locs eu_5 hP hD hS => ?_)
          have hP : va_P D vwCl [(h0, .inr (10, [.ref h1, .ref h2, .ref h3, .ref h4, .ref h5, .ref h6, .int u_5.2.2.2.2.2.2.1, .ref h7, .ref h8, .ref h9, .ref h10, .int u_5.2.2.2.2.2.2.2.2.2.2.2.1, .int u_5.2.2.2.2.2.2.2.2.2.2.2.2.1, .int u_5.2.2.2.2.2.2.2.2.2.2.2.2.2.1, .ref h11, .int u_5.2.2.2.2.2.2.2.2.2.2.2.2.2.2.2])), (h1, .inl ((cA 1), 85, .inl u_5.1)), (h2, .inl ((cA 0), 9, .inr (.inl u_5.2.1))), (h3, .inl ((cA 1), 85, .inl u_5.2.2.1)), (h4, .inl ((cA 0), 9, .inr (.inl u_5.2.2.2.1))), (h5, .inl ((cA 1), 510, .inl u_5.2.2.2.2.1)), (h6, .inl ((cA 0), 54, .inr (.inl u_5.2.2.2.2.2.1))), (h7, .inl ((cA 1), 170, .inl u_5.2.2.2.2.2.2.2.1)), (h8, .inl ((cA 0), 18, .inr (.inl u_5.2.2.2.2.2.2.2.2.1))), (h9, .inl ((cA 2), 2, .inl u_5.2.2.2.2.2.2.2.2.2.1)), (h10, .inl ((cA 1), 80, .inl u_5.2.2.2.2.2.2.2.2.2.2.1)), (h11, .inl ((cA 1), 60, .inl u_5.2.2.2.2.2.2.2.2.2.2.2.2.2.2.1))] H := hP
          have hD : va_D A [(h0, .inr (10, [.ref h1, .ref h2, .ref h3, .ref h4, .ref h5, .ref h6, .int u_5.2.2.2.2.2.2.1, .ref h7, .ref h8, .ref h9, .ref h10, .int u_5.2.2.2.2.2.2.2.2.2.2.2.1, .int u_5.2.2.2.2.2.2.2.2.2.2.2.2.1, .int u_5.2.2.2.2.2.2.2.2.2.2.2.2.2.1, .ref h11, .int u_5.2.2.2.2.2.2.2.2.2.2.2.2.2.2.2])), (h1, .inl ((cA 1), 85, .inl u_5.1)), (h2, .inl ((cA 0), 9, .inr (.inl u_5.2.1))), (h3, .inl ((cA 1), 85, .inl u_5.2.2.1)), (h4, .inl ((cA 0), 9, .inr (.inl u_5.2.2.2.1))), (h5, .inl ((cA 1), 510, .inl u_5.2.2.2.2.1)), (h6, .inl ((cA 0), 54, .inr (.inl u_5.2.2.2.2.2.1))), (h7, .inl ((cA 1), 170, .inl u_5.2.2.2.2.2.2.2.1)), (h8, .inl ((cA 0), 18, .inr (.inl u_5.2.2.2.2.2.2.2.2.1))), (h9, .inl ((cA 2), 2, .inl u_5.2.2.2.2.2.2.2.2.2.1)), (h10, .inl ((cA 1), 80, .inl u_5.2.2.2.2.2.2.2.2.2.2.1)), (h11, .inl ((cA 1), 60, .inl u_5.2.2.2.2.2.2.2.2.2.2.2.2.2.2.1))] := hD
          refine lv_aload_n hx hb dX10_leg_46 rfl (lv_at hl 0 rfl) ?_
          refine lv_iload_n hx hb dX10_leg_47 rfl (lv_at hl 1 rfl) ?_
          refine lv_iload_n hx hb dX10_leg_48 rfl (lv_at hl 2 rfl) ?_
          refine lv_iload_n hx hb dX10_leg_49 rfl (lv_at hl 3 rfl) ?_
          refine z_Hv (wt := fun (u_7 : vX10) => [(h0, .inr (10, [.ref h1, .ref h2, .ref h3, .ref h4, .ref h5, .ref h6, .int u_7.2.2.2.2.2.2.1, .ref h7, .ref h8, .ref h9, .ref h10, .int u_7.2.2.2.2.2.2.2.2.2.2.2.1, .int u_7.2.2.2.2.2.2.2.2.2.2.2.2.1, .int u_7.2.2.2.2.2.2.2.2.2.2.2.2.2.1, .ref h11, .int u_7.2.2.2.2.2.2.2.2.2.2.2.2.2.2.2])), (h1, .inl ((cA 1), 85, .inl u_7.1)), (h2, .inl ((cA 0), 9, .inr (.inl u_7.2.1))), (h3, .inl ((cA 1), 85, .inl u_7.2.2.1)), (h4, .inl ((cA 0), 9, .inr (.inl u_7.2.2.2.1))), (h5, .inl ((cA 1), 510, .inl u_7.2.2.2.2.1)), (h6, .inl ((cA 0), 54, .inr (.inl u_7.2.2.2.2.2.1))), (h7, .inl ((cA 1), 170, .inl u_7.2.2.2.2.2.2.2.1)), (h8, .inl ((cA 0), 18, .inr (.inl u_7.2.2.2.2.2.2.2.2.1))), (h9, .inl ((cA 2), 2, .inl u_7.2.2.2.2.2.2.2.2.2.1)), (h10, .inl ((cA 1), 80, .inl u_7.2.2.2.2.2.2.2.2.2.2.1)), (h11, .inl ((cA 1), 60, .inl u_7.2.2.2.2.2.2.2.2.2.2.2.2.2.2.1))]) (va_runV (As := [.int x1, .int x2, .int x3]) (rest := []) ⟨hx, hb, hml, hown, hts⟩ (c_X10_addLeg l D cA h0 h1 h2 h3 h4 h5 h6 h7 h8 h9 h10 h11 H.size k u_5 x1 x2 x3 (by rw [eu_5]; exact hk3) (by have h88 : ¬ k = 8 := fun h => c_4 (by rw [hk3, h]; rfl); omega)) (cwV 3 hts gX10_leg_X10_addLeg rfl rfl rfl (by decide +kernel) ⟨Nat.le_of_ble_eq_true rfl, Nat.le_of_ble_eq_true rfl⟩) (zqV hK hP hD hS hA hE (z_c1 (a := []) (b := []) rfl) 0 rfl rfl) rfl rfl hl.1 rfl (lv_room (Nat.le_of_ble_eq_true rfl)) dX10_leg_50 ⟨Nat.le_of_ble_eq_true rfl, Nat.le_of_ble_eq_true rfl⟩) hP hD hS hA (z_c1 (a := []) (b := []) rfl) (fun u_7 => (z_c1' (a := []) (b := []) rfl)) (fun u_7 H locs eu_7 hP hD hS => ?_)
          have hP : va_P D vwCl [(h0, .inr (10, [.ref h1, .ref h2, .ref h3, .ref h4, .ref h5, .ref h6, .int u_7.2.2.2.2.2.2.1, .ref h7, .ref h8, .ref h9, .ref h10, .int u_7.2.2.2.2.2.2.2.2.2.2.2.1, .int u_7.2.2.2.2.2.2.2.2.2.2.2.2.1, .int u_7.2.2.2.2.2.2.2.2.2.2.2.2.2.1, .ref h11, .int u_7.2.2.2.2.2.2.2.2.2.2.2.2.2.2.2])), (h1, .inl ((cA 1), 85, .inl u_7.1)), (h2, .inl ((cA 0), 9, .inr (.inl u_7.2.1))), (h3, .inl ((cA 1), 85, .inl u_7.2.2.1)), (h4, .inl ((cA 0), 9, .inr (.inl u_7.2.2.2.1))), (h5, .inl ((cA 1), 510, .inl u_7.2.2.2.2.1)), (h6, .inl ((cA 0), 54, .inr (.inl u_7.2.2.2.2.2.1))), (h7, .inl ((cA 1), 170, .inl u_7.2.2.2.2.2.2.2.1)), (h8, .inl ((cA 0), 18, .inr (.inl u_7.2.2.2.2.2.2.2.2.1))), (h9, .inl ((cA 2), 2, .inl u_7.2.2.2.2.2.2.2.2.2.1)), (h10, .inl ((cA 1), 80, .inl u_7.2.2.2.2.2.2.2.2.2.2.1)), (h11, .inl ((cA 1), 60, .inl u_7.2.2.2.2.2.2.2.2.2.2.2.2.2.2.1))] H := hP
          have hD : va_D A [(h0, .inr (10, [.ref h1, .ref h2, .ref h3, .ref h4, .ref h5, .ref h6, .int u_7.2.2.2.2.2.2.1, .ref h7, .ref h8, .ref h9, .ref h10, .int u_7.2.2.2.2.2.2.2.2.2.2.2.1, .int u_7.2.2.2.2.2.2.2.2.2.2.2.2.1, .int u_7.2.2.2.2.2.2.2.2.2.2.2.2.2.1, .ref h11, .int u_7.2.2.2.2.2.2.2.2.2.2.2.2.2.2.2])), (h1, .inl ((cA 1), 85, .inl u_7.1)), (h2, .inl ((cA 0), 9, .inr (.inl u_7.2.1))), (h3, .inl ((cA 1), 85, .inl u_7.2.2.1)), (h4, .inl ((cA 0), 9, .inr (.inl u_7.2.2.2.1))), (h5, .inl ((cA 1), 510, .inl u_7.2.2.2.2.1)), (h6, .inl ((cA 0), 54, .inr (.inl u_7.2.2.2.2.2.1))), (h7, .inl ((cA 1), 170, .inl u_7.2.2.2.2.2.2.2.1)), (h8, .inl ((cA 0), 18, .inr (.inl u_7.2.2.2.2.2.2.2.2.1))), (h9, .inl ((cA 2), 2, .inl u_7.2.2.2.2.2.2.2.2.2.1)), (h10, .inl ((cA 1), 80, .inl u_7.2.2.2.2.2.2.2.2.2.2.1)), (h11, .inl ((cA 1), 60, .inl u_7.2.2.2.2.2.2.2.2.2.2.2.2.2.2.1))] := hD
          refine lv_aload_n hx hb dX10_leg_53 rfl (lv_at hl 0 rfl) ?_
          refine va_get (D := D) (ci := 10) (v := .ref h1) (C := RX10) (T := TX10) (N := 16) hx hb hts hinX10 hown hK hP 0 rfl rfl 0 (by decide) (hts (.fieldLink RX10 7 "GyroTrainerModel" "at" "[I") (List.mem_of_getElem? (i := 1) rfl)) (fun _ h9 => h9) rfl dX10_leg_54 ?_
          refine lv_iconst (v := 3) hx hb dX10_leg_57 (by decide) ?_
          refine z_iald (k := 3) hx hb hK hP 1 1 rfl rfl rfl (by decide) (by decide) dX10_leg_58 ?_
          have e9 : (fm_leg pm k v x1 x2 x3) = ((u_7.1 3), u_7) := by unfold fm_leg; simp only [← eu_5, ← eu_7, if_neg c_1, if_neg c_2, if_neg c_3, if_neg c_4] <;> rfl
          have hP9 : va_P D vwCl (wX10 cA h0 h1 h2 h3 h4 h5 h6 h7 h8 h9 h10 h11 (u_7 : vX10)) H := hP
          have hD9 : va_D A (wX10 cA h0 h1 h2 h3 h4 h5 h6 h7 h8 h9 h10 h11 (u_7 : vX10)) := hD
          subst hQ
          exact W.iret (v := (u_7.1 3)) hx hb hr (fun t ht hW => ⟨⟨(u_7.1 3), u_7, rfl, e9.symm, ⟨by rw [ht]; exact hP9, va_K.moved hW.alike hK, hD9⟩⟩, hS.F ht⟩) hS.2.2 dX10_leg_59
        · skip
          refine lv_bipush (v := -4) hx hb dX10_leg_39 (by decide) ?_
          have e9 : (fm_leg pm k v x1 x2 x3) = ((-4 : Int32), v) := by unfold fm_leg; simp only [if_neg c_1, if_neg c_2, if_neg c_3, if_pos c_4] <;> rfl
          have hP9 : va_P D vwCl (wX10 cA h0 h1 h2 h3 h4 h5 h6 h7 h8 h9 h10 h11 (v : vX10)) s.heap := hP
          have hD9 : va_D A (wX10 cA h0 h1 h2 h3 h4 h5 h6 h7 h8 h9 h10 h11 (v : vX10)) := hD
          subst hQ
          exact W.iret (v := (-4 : Int32)) hx hb hr (fun t ht hW => ⟨⟨(-4 : Int32), v, rfl, e9.symm, ⟨by rw [ht]; exact hP9, va_K.moved hW.alike hK, hD9⟩⟩, hS.F ht⟩) hS.2.2 dX10_leg_41
      · skip
        refine lv_bipush (v := -2) hx hb dX10_leg_25 (by decide) ?_
        have e9 : (fm_leg pm k v x1 x2 x3) = ((-2 : Int32), v) := by unfold fm_leg; simp only [if_neg c_1, if_neg c_2, if_pos c_3] <;> rfl
        have hP9 : va_P D vwCl (wX10 cA h0 h1 h2 h3 h4 h5 h6 h7 h8 h9 h10 h11 (v : vX10)) s.heap := hP
        have hD9 : va_D A (wX10 cA h0 h1 h2 h3 h4 h5 h6 h7 h8 h9 h10 h11 (v : vX10)) := hD
        subst hQ
        exact W.iret (v := (-2 : Int32)) hx hb hr (fun t ht hW => ⟨⟨(-2 : Int32), v, rfl, e9.symm, ⟨by rw [ht]; exact hP9, va_K.moved hW.alike hK, hD9⟩⟩, hS.F ht⟩) hS.2.2 dX10_leg_27
set_option maxHeartbeats 4000000 in
set_option maxRecDepth 100000 in
theorem c_X10_set (l : Launch) (D : va_G) (cA : Nat → ClassId) (h0 h1 h2 h3 h4 h5 h6 h7 h8 h9 h10 h11 : Nat) (sz : Nat) (pm : Nat) (v : vX10) (x1 : Int32) (x2 : Int32) (hpm : v.2.2.2.2.2.2.1 = nI pm) (hp6 : pm ≤ 6) : Met l yX10_set wsX10_set ({ frames := 2, cells := 0, slots := 0, locals := 43 }) (va_Pc [.ref h0, .int x1, .int x2] (zPre D (zty cA) (wX10 cA h0 h1 h2 h3 h4 h5 h6 h7 h8 h9 h10 h11 v) sz)) (va_Qi (fun (x : Int32) (u : vX10) => (x, u) = (fm_set pm v x1 x2)) (fun u => zPost D (zty cA) (va_A (wX10 cA h0 h1 h2 h3 h4 h5 h6 h7 h8 h9 h10 h11 v) sz) (wX10 cA h0 h1 h2 h3 h4 h5 h6 h7 h8 h9 h10 h11 u)) (va_A (wX10 cA h0 h1 h2 h3 h4 h5 h6 h7 h8 h9 h10 h11 v) sz)) 0 0 (va_A (wX10 cA h0 h1 h2 h3 h4 h5 h6 h7 h8 h9 h10 h11 v) sz) := by
  refine Met.ofW (cc := cX10_set) (maxL := 4) (ret := (some .int)) (by decide) rfl ?_
  intro p e s m args below meth c s₁ B hml hv
  obtain ⟨rfl, hsz, hP, hK, hD0, hE⟩ := hv
  have hx := B.exec
  have hb := B.bytes
  have hr := B.returns
  have hts := atoms_spec (ws := wsX10_set) B.pre
  have hown : s.vm.findClass RX10 = some m.cls := findClass_of_methodNamed B.named
  have hlocks := B.notSynchronized
  have hinX10 : ∀ w ∈ u_ws RX10 TX10 16, w ∈ wsX10_set := fun w h => List.mem_cons_of_mem _ (List.mem_append_right _ h)
  subst hsz
  have hD := hD0.self (sz := s.heap.size)
  generalize hAe : va_A (wX10 cA h0 h1 h2 h3 h4 h5 h6 h7 h8 h9 h10 h11 v) s.heap.size = A at hD hE ⊢
  have hA : ∀ q : Nat, s.heap.size ≤ q → A q := fun q h => by rw [← hAe]; exact Or.inr h
  have hS : va_S A s.heap s.heap [] := va_S.rf
  have hN : zN s := hE.1
  have hP : va_P D vwCl [(h0, .inr (10, [.ref h1, .ref h2, .ref h3, .ref h4, .ref h5, .ref h6, .int v.2.2.2.2.2.2.1, .ref h7, .ref h8, .ref h9, .ref h10, .int v.2.2.2.2.2.2.2.2.2.2.2.1, .int v.2.2.2.2.2.2.2.2.2.2.2.2.1, .int v.2.2.2.2.2.2.2.2.2.2.2.2.2.1, .ref h11, .int v.2.2.2.2.2.2.2.2.2.2.2.2.2.2.2])), (h1, .inl ((cA 1), 85, .inl v.1)), (h2, .inl ((cA 0), 9, .inr (.inl v.2.1))), (h3, .inl ((cA 1), 85, .inl v.2.2.1)), (h4, .inl ((cA 0), 9, .inr (.inl v.2.2.2.1))), (h5, .inl ((cA 1), 510, .inl v.2.2.2.2.1)), (h6, .inl ((cA 0), 54, .inr (.inl v.2.2.2.2.2.1))), (h7, .inl ((cA 1), 170, .inl v.2.2.2.2.2.2.2.1)), (h8, .inl ((cA 0), 18, .inr (.inl v.2.2.2.2.2.2.2.2.1))), (h9, .inl ((cA 2), 2, .inl v.2.2.2.2.2.2.2.2.2.1)), (h10, .inl ((cA 1), 80, .inl v.2.2.2.2.2.2.2.2.2.2.1)), (h11, .inl ((cA 1), 60, .inl v.2.2.2.2.2.2.2.2.2.2.2.2.2.2.1))] s.heap := hP
  have hD : va_D A [(h0, .inr (10, [.ref h1, .ref h2, .ref h3, .ref h4, .ref h5, .ref h6, .int v.2.2.2.2.2.2.1, .ref h7, .ref h8, .ref h9, .ref h10, .int v.2.2.2.2.2.2.2.2.2.2.2.1, .int v.2.2.2.2.2.2.2.2.2.2.2.2.1, .int v.2.2.2.2.2.2.2.2.2.2.2.2.2.1, .ref h11, .int v.2.2.2.2.2.2.2.2.2.2.2.2.2.2.2])), (h1, .inl ((cA 1), 85, .inl v.1)), (h2, .inl ((cA 0), 9, .inr (.inl v.2.1))), (h3, .inl ((cA 1), 85, .inl v.2.2.1)), (h4, .inl ((cA 0), 9, .inr (.inl v.2.2.2.1))), (h5, .inl ((cA 1), 510, .inl v.2.2.2.2.1)), (h6, .inl ((cA 0), 54, .inr (.inl v.2.2.2.2.2.1))), (h7, .inl ((cA 1), 170, .inl v.2.2.2.2.2.2.2.1)), (h8, .inl ((cA 0), 18, .inr (.inl v.2.2.2.2.2.2.2.2.1))), (h9, .inl ((cA 2), 2, .inl v.2.2.2.2.2.2.2.2.2.1)), (h10, .inl ((cA 1), 80, .inl v.2.2.2.2.2.2.2.2.2.2.1)), (h11, .inl ((cA 1), 60, .inl v.2.2.2.2.2.2.2.2.2.2.2.2.2.2.1))] := hD
  have hl := lv_entry ([.ref h0, .int x1, .int x2]) (n := 4) (Nat.le_of_ble_eq_true rfl)
  rw [lg_entry_eq]
  generalize (lg_sl ([.ref h0, .int x1, .int x2]) ++ List.replicate (4 - (lg_sl ([.ref h0, .int x1, .int x2])).length) Slot.unset).toArray = ls at hl ⊢
  have hl : lv_has ls 4 [(0, .ref h0), (1, .int x1), (2, .int x2)] := hl
  refine z_genQ (fun Q hQ => ?_)
  refine lv_iload_n hx hb dX10_set_0 rfl (lv_at hl 1 rfl) ?_
  refine lv_iload_n hx hb dX10_set_1 rfl (lv_at hl 2 rfl) ?_
  refine z_Ri (va_runS (As := [.int x1, .int x2]) (rest := []) ⟨hx, hb, hml, hown, hts⟩ (c_X10_takes l D cA  x1 x2) (va_cwS 2 hts gX10_set_X10_takes rfl rfl rfl (by decide +kernel) ⟨Nat.le_of_ble_eq_true rfl, Nat.le_of_ble_eq_true rfl⟩) (zqSR0 hK hN) rfl rfl hl.1 rfl (lv_room (Nat.le_of_ble_eq_true rfl)) dX10_set_2 ⟨Nat.le_of_ble_eq_true rfl, Nat.le_of_ble_eq_true rfl⟩) ?_
  refine lv_if_ne (tgt := 11) hx hb dX10_set_5 (by decide) (fun c_1 => ?_) (fun c_1 => ?_)
  · skip
    obtain ⟨w, hw, ew⟩ := z_takes c_1
    subst ew
    refine lv_aload_n hx hb dX10_set_11 rfl (lv_at hl 0 rfl) ?_
    refine z_Hv (wt := fun (u_2 : vX10) => [(h0, .inr (10, [.ref h1, .ref h2, .ref h3, .ref h4, .ref h5, .ref h6, .int u_2.2.2.2.2.2.2.1, .ref h7, .ref h8, .ref h9, .ref h10, .int u_2.2.2.2.2.2.2.2.2.2.2.2.1, .int u_2.2.2.2.2.2.2.2.2.2.2.2.2.1, .int u_2.2.2.2.2.2.2.2.2.2.2.2.2.2.1, .ref h11, .int u_2.2.2.2.2.2.2.2.2.2.2.2.2.2.2.2])), (h1, .inl ((cA 1), 85, .inl u_2.1)), (h2, .inl ((cA 0), 9, .inr (.inl u_2.2.1))), (h3, .inl ((cA 1), 85, .inl u_2.2.2.1)), (h4, .inl ((cA 0), 9, .inr (.inl u_2.2.2.2.1))), (h5, .inl ((cA 1), 510, .inl u_2.2.2.2.2.1)), (h6, .inl ((cA 0), 54, .inr (.inl u_2.2.2.2.2.2.1))), (h7, .inl ((cA 1), 170, .inl u_2.2.2.2.2.2.2.2.1)), (h8, .inl ((cA 0), 18, .inr (.inl u_2.2.2.2.2.2.2.2.2.1))), (h9, .inl ((cA 2), 2, .inl u_2.2.2.2.2.2.2.2.2.2.1)), (h10, .inl ((cA 1), 80, .inl u_2.2.2.2.2.2.2.2.2.2.2.1)), (h11, .inl ((cA 1), 60, .inl u_2.2.2.2.2.2.2.2.2.2.2.2.2.2.2.1))]) (va_runV (As := []) (rest := []) ⟨hx, hb, hml, hown, hts⟩ (c_X10_keep l D cA h0 h1 h2 h3 h4 h5 h6 h7 h8 h9 h10 h11 s.heap.size pm v hpm hp6) (cwV 0 hts gX10_set_X10_keep rfl rfl rfl (by decide +kernel) ⟨Nat.le_of_ble_eq_true rfl, Nat.le_of_ble_eq_true rfl⟩) (zqV hK hP hD hS hA hE (z_c1 (a := []) (b := []) rfl) 0 rfl rfl) rfl rfl hl.1 rfl (lv_room (Nat.le_of_ble_eq_true rfl)) dX10_set_12 ⟨Nat.le_of_ble_eq_true rfl, Nat.le_of_ble_eq_true rfl⟩) hP hD hS hA (z_c1 (a := []) (b := []) rfl) (fun u_2 => (z_c1' (a := []) (b := []) rfl)) (fun u_2 H locs eu_2 hP hD hS => ?_)
    have hP : va_P D vwCl [(h0, .inr (10, [.ref h1, .ref h2, .ref h3, .ref h4, .ref h5, .ref h6, .int u_2.2.2.2.2.2.2.1, .ref h7, .ref h8, .ref h9, .ref h10, .int u_2.2.2.2.2.2.2.2.2.2.2.2.1, .int u_2.2.2.2.2.2.2.2.2.2.2.2.2.1, .int u_2.2.2.2.2.2.2.2.2.2.2.2.2.2.1, .ref h11, .int u_2.2.2.2.2.2.2.2.2.2.2.2.2.2.2.2])), (h1, .inl ((cA 1), 85, .inl u_2.1)), (h2, .inl ((cA 0), 9, .inr (.inl u_2.2.1))), (h3, .inl ((cA 1), 85, .inl u_2.2.2.1)), (h4, .inl ((cA 0), 9, .inr (.inl u_2.2.2.2.1))), (h5, .inl ((cA 1), 510, .inl u_2.2.2.2.2.1)), (h6, .inl ((cA 0), 54, .inr (.inl u_2.2.2.2.2.2.1))), (h7, .inl ((cA 1), 170, .inl u_2.2.2.2.2.2.2.2.1)), (h8, .inl ((cA 0), 18, .inr (.inl u_2.2.2.2.2.2.2.2.2.1))), (h9, .inl ((cA 2), 2, .inl u_2.2.2.2.2.2.2.2.2.2.1)), (h10, .inl ((cA 1), 80, .inl u_2.2.2.2.2.2.2.2.2.2.2.1)), (h11, .inl ((cA 1), 60, .inl u_2.2.2.2.2.2.2.2.2.2.2.2.2.2.2.1))] H := hP
    have hD : va_D A [(h0, .inr (10, [.ref h1, .ref h2, .ref h3, .ref h4, .ref h5, .ref h6, .int u_2.2.2.2.2.2.2.1, .ref h7, .ref h8, .ref h9, .ref h10, .int u_2.2.2.2.2.2.2.2.2.2.2.2.1, .int u_2.2.2.2.2.2.2.2.2.2.2.2.2.1, .int u_2.2.2.2.2.2.2.2.2.2.2.2.2.2.1, .ref h11, .int u_2.2.2.2.2.2.2.2.2.2.2.2.2.2.2.2])), (h1, .inl ((cA 1), 85, .inl u_2.1)), (h2, .inl ((cA 0), 9, .inr (.inl u_2.2.1))), (h3, .inl ((cA 1), 85, .inl u_2.2.2.1)), (h4, .inl ((cA 0), 9, .inr (.inl u_2.2.2.2.1))), (h5, .inl ((cA 1), 510, .inl u_2.2.2.2.2.1)), (h6, .inl ((cA 0), 54, .inr (.inl u_2.2.2.2.2.2.1))), (h7, .inl ((cA 1), 170, .inl u_2.2.2.2.2.2.2.2.1)), (h8, .inl ((cA 0), 18, .inr (.inl u_2.2.2.2.2.2.2.2.2.1))), (h9, .inl ((cA 2), 2, .inl u_2.2.2.2.2.2.2.2.2.2.1)), (h10, .inl ((cA 1), 80, .inl u_2.2.2.2.2.2.2.2.2.2.2.1)), (h11, .inl ((cA 1), 60, .inl u_2.2.2.2.2.2.2.2.2.2.2.2.2.2.2.1))] := hD
    refine lv_aload_n hx hb dX10_set_15 rfl (lv_at hl 0 rfl) ?_
    refine lv_iload_n hx hb dX10_set_16 rfl (lv_at hl 1 rfl) ?_
    refine z_Ri (va_runV (As := [.int (nI w)]) (rest := []) ⟨hx, hb, hml, hown, hts⟩ (c_X10_setting l D cA h0 h1 h2 h3 h4 h5 h6 h7 h8 h9 h10 h11 w u_2 hw) (cwV 1 hts gX10_set_X10_setting rfl rfl rfl (by decide +kernel) ⟨Nat.le_of_ble_eq_true rfl, Nat.le_of_ble_eq_true rfl⟩) (zqVR hK hP hN (z_c1 (a := []) (b := []) rfl) 0 rfl rfl) rfl rfl hl.1 rfl (lv_room (Nat.le_of_ble_eq_true rfl)) dX10_set_17 ⟨Nat.le_of_ble_eq_true rfl, Nat.le_of_ble_eq_true rfl⟩) ?_
    refine lv_istore_n (lv' := [(3, .int (u_2.1 (20 + w))), (0, .ref h0), (1, .int (nI w)), (2, .int x2)]) hx hb dX10_set_20 rfl hl (by decide) rfl (fun ls hl => ?_)
    refine lv_aload_n hx hb dX10_set_21 rfl (lv_at hl 1 rfl) ?_
    refine va_get (D := D) (ci := 10) (v := .ref h1) (C := RX10) (T := TX10) (N := 16) hx hb hts hinX10 hown hK hP 0 rfl rfl 0 (by decide) (hts (.fieldLink RX10 7 "GyroTrainerModel" "at" "[I") (List.mem_of_getElem? (i := 1) rfl)) (fun _ h9 => h9) rfl dX10_set_22 ?_
    refine lv_bipush (v := 20) hx hb dX10_set_25 (by decide) ?_
    refine lv_iload_n hx hb dX10_set_27 rfl (lv_at hl 2 rfl) ?_
    refine lv_iadd hx hb dX10_set_28 ?_
    refine lv_iload_n hx hb dX10_set_29 rfl (lv_at hl 3 rfl) ?_
    refine z_iast (k := (20 + w)) hx hb hK hP hD hS 1 1 rfl rfl (nI_add 20 w) (by omega) (by decide) dX10_set_30 (fun g_4 eg_4 H locs hP hD hS => ?_)
    have hP : va_P D vwCl [(h0, .inr (10, [.ref h1, .ref h2, .ref h3, .ref h4, .ref h5, .ref h6, .int u_2.2.2.2.2.2.2.1, .ref h7, .ref h8, .ref h9, .ref h10, .int u_2.2.2.2.2.2.2.2.2.2.2.2.1, .int u_2.2.2.2.2.2.2.2.2.2.2.2.2.1, .int u_2.2.2.2.2.2.2.2.2.2.2.2.2.2.1, .ref h11, .int u_2.2.2.2.2.2.2.2.2.2.2.2.2.2.2.2])), (h1, .inl ((cA 1), 85, .inl g_4)), (h2, .inl ((cA 0), 9, .inr (.inl u_2.2.1))), (h3, .inl ((cA 1), 85, .inl u_2.2.2.1)), (h4, .inl ((cA 0), 9, .inr (.inl u_2.2.2.2.1))), (h5, .inl ((cA 1), 510, .inl u_2.2.2.2.2.1)), (h6, .inl ((cA 0), 54, .inr (.inl u_2.2.2.2.2.2.1))), (h7, .inl ((cA 1), 170, .inl u_2.2.2.2.2.2.2.2.1)), (h8, .inl ((cA 0), 18, .inr (.inl u_2.2.2.2.2.2.2.2.2.1))), (h9, .inl ((cA 2), 2, .inl u_2.2.2.2.2.2.2.2.2.2.1)), (h10, .inl ((cA 1), 80, .inl u_2.2.2.2.2.2.2.2.2.2.2.1)), (h11, .inl ((cA 1), 60, .inl u_2.2.2.2.2.2.2.2.2.2.2.2.2.2.2.1))] H := hP
    have hD : va_D A [(h0, .inr (10, [.ref h1, .ref h2, .ref h3, .ref h4, .ref h5, .ref h6, .int u_2.2.2.2.2.2.2.1, .ref h7, .ref h8, .ref h9, .ref h10, .int u_2.2.2.2.2.2.2.2.2.2.2.2.1, .int u_2.2.2.2.2.2.2.2.2.2.2.2.2.1, .int u_2.2.2.2.2.2.2.2.2.2.2.2.2.2.1, .ref h11, .int u_2.2.2.2.2.2.2.2.2.2.2.2.2.2.2.2])), (h1, .inl ((cA 1), 85, .inl g_4)), (h2, .inl ((cA 0), 9, .inr (.inl u_2.2.1))), (h3, .inl ((cA 1), 85, .inl u_2.2.2.1)), (h4, .inl ((cA 0), 9, .inr (.inl u_2.2.2.2.1))), (h5, .inl ((cA 1), 510, .inl u_2.2.2.2.2.1)), (h6, .inl ((cA 0), 54, .inr (.inl u_2.2.2.2.2.2.1))), (h7, .inl ((cA 1), 170, .inl u_2.2.2.2.2.2.2.2.1)), (h8, .inl ((cA 0), 18, .inr (.inl u_2.2.2.2.2.2.2.2.2.1))), (h9, .inl ((cA 2), 2, .inl u_2.2.2.2.2.2.2.2.2.2.1)), (h10, .inl ((cA 1), 80, .inl u_2.2.2.2.2.2.2.2.2.2.2.1)), (h11, .inl ((cA 1), 60, .inl u_2.2.2.2.2.2.2.2.2.2.2.2.2.2.2.1))] := hD
    refine lv_iload_n hx hb dX10_set_31 rfl (lv_at hl 0 rfl) ?_
    have e9 : (fm_set pm v (nI w) x2) = ((u_2.1 (20 + w)), (g_4, u_2.2)) := by unfold fm_set; simp only [if_neg c_1]; rw [nI_clamp (by omega)]; simp only [← eu_2, ← eg_4] <;> rfl
    have hP9 : va_P D vwCl (wX10 cA h0 h1 h2 h3 h4 h5 h6 h7 h8 h9 h10 h11 ((g_4, u_2.2) : vX10)) H := hP
    have hD9 : va_D A (wX10 cA h0 h1 h2 h3 h4 h5 h6 h7 h8 h9 h10 h11 ((g_4, u_2.2) : vX10)) := hD
    subst hQ
    exact W.iret (v := (u_2.1 (20 + w))) hx hb hr (fun t ht hW => ⟨⟨(u_2.1 (20 + w)), (g_4, u_2.2), rfl, e9.symm, ⟨by rw [ht]; exact hP9, va_K.moved hW.alike hK, hD9⟩⟩, hS.F ht⟩) hS.2.2 dX10_set_32
  · skip
    refine lv_bipush (v := -2) hx hb dX10_set_8 (by decide) ?_
    have e9 : (fm_set pm v x1 x2) = ((-2 : Int32), v) := by unfold fm_set; simp only [if_pos c_1] <;> rfl
    have hP9 : va_P D vwCl (wX10 cA h0 h1 h2 h3 h4 h5 h6 h7 h8 h9 h10 h11 (v : vX10)) s.heap := hP
    have hD9 : va_D A (wX10 cA h0 h1 h2 h3 h4 h5 h6 h7 h8 h9 h10 h11 (v : vX10)) := hD
    subst hQ
    exact W.iret (v := (-2 : Int32)) hx hb hr (fun t ht hW => ⟨⟨(-2 : Int32), v, rfl, e9.symm, ⟨by rw [ht]; exact hP9, va_K.moved hW.alike hK, hD9⟩⟩, hS.F ht⟩) hS.2.2 dX10_set_10
set_option maxHeartbeats 4000000 in
set_option maxRecDepth 100000 in
theorem c_X10_correct (l : Launch) (D : va_G) (cA : Nat → ClassId) (h0 h1 h2 h3 h4 h5 h6 h7 h8 h9 h10 h11 : Nat) (sz : Nat) (pm : Nat) (v : vX10) (x1 : Int32) (x2 : Int32) (hpm : v.2.2.2.2.2.2.1 = nI pm) (hp6 : pm ≤ 6) (hR : okR v.1) : Met l yX10_correct wsX10_correct ({ frames := 6, cells := 0, slots := 0, locals := 129 }) (va_Pc [.ref h0, .int x1, .int x2] (zPre D (zty cA) (wX10 cA h0 h1 h2 h3 h4 h5 h6 h7 h8 h9 h10 h11 v) sz)) (va_Qi (fun (x : Int32) (u : vX10) => (x, u) = (fm_correct pm v x1 x2)) (fun u => zPost D (zty cA) (va_A (wX10 cA h0 h1 h2 h3 h4 h5 h6 h7 h8 h9 h10 h11 v) sz) (wX10 cA h0 h1 h2 h3 h4 h5 h6 h7 h8 h9 h10 h11 u)) (va_A (wX10 cA h0 h1 h2 h3 h4 h5 h6 h7 h8 h9 h10 h11 v) sz)) 0 0 (va_A (wX10 cA h0 h1 h2 h3 h4 h5 h6 h7 h8 h9 h10 h11 v) sz) := by
  refine Met.ofW (cc := cX10_correct) (maxL := 4) (ret := (some .int)) (by decide) rfl ?_
  intro p e s m args below meth c s₁ B hml hv
  obtain ⟨rfl, hsz, hP, hK, hD0, hE⟩ := hv
  have hx := B.exec
  have hb := B.bytes
  have hr := B.returns
  have hts := atoms_spec (ws := wsX10_correct) B.pre
  have hown : s.vm.findClass RX10 = some m.cls := findClass_of_methodNamed B.named
  have hlocks := B.notSynchronized
  have hinX10 : ∀ w ∈ u_ws RX10 TX10 16, w ∈ wsX10_correct := fun w h => List.mem_cons_of_mem _ (List.mem_append_right _ h)
  subst hsz
  have hD := hD0.self (sz := s.heap.size)
  generalize hAe : va_A (wX10 cA h0 h1 h2 h3 h4 h5 h6 h7 h8 h9 h10 h11 v) s.heap.size = A at hD hE ⊢
  have hA : ∀ q : Nat, s.heap.size ≤ q → A q := fun q h => by rw [← hAe]; exact Or.inr h
  have hS : va_S A s.heap s.heap [] := va_S.rf
  have hN : zN s := hE.1
  have hP : va_P D vwCl [(h0, .inr (10, [.ref h1, .ref h2, .ref h3, .ref h4, .ref h5, .ref h6, .int v.2.2.2.2.2.2.1, .ref h7, .ref h8, .ref h9, .ref h10, .int v.2.2.2.2.2.2.2.2.2.2.2.1, .int v.2.2.2.2.2.2.2.2.2.2.2.2.1, .int v.2.2.2.2.2.2.2.2.2.2.2.2.2.1, .ref h11, .int v.2.2.2.2.2.2.2.2.2.2.2.2.2.2.2])), (h1, .inl ((cA 1), 85, .inl v.1)), (h2, .inl ((cA 0), 9, .inr (.inl v.2.1))), (h3, .inl ((cA 1), 85, .inl v.2.2.1)), (h4, .inl ((cA 0), 9, .inr (.inl v.2.2.2.1))), (h5, .inl ((cA 1), 510, .inl v.2.2.2.2.1)), (h6, .inl ((cA 0), 54, .inr (.inl v.2.2.2.2.2.1))), (h7, .inl ((cA 1), 170, .inl v.2.2.2.2.2.2.2.1)), (h8, .inl ((cA 0), 18, .inr (.inl v.2.2.2.2.2.2.2.2.1))), (h9, .inl ((cA 2), 2, .inl v.2.2.2.2.2.2.2.2.2.1)), (h10, .inl ((cA 1), 80, .inl v.2.2.2.2.2.2.2.2.2.2.1)), (h11, .inl ((cA 1), 60, .inl v.2.2.2.2.2.2.2.2.2.2.2.2.2.2.1))] s.heap := hP
  have hD : va_D A [(h0, .inr (10, [.ref h1, .ref h2, .ref h3, .ref h4, .ref h5, .ref h6, .int v.2.2.2.2.2.2.1, .ref h7, .ref h8, .ref h9, .ref h10, .int v.2.2.2.2.2.2.2.2.2.2.2.1, .int v.2.2.2.2.2.2.2.2.2.2.2.2.1, .int v.2.2.2.2.2.2.2.2.2.2.2.2.2.1, .ref h11, .int v.2.2.2.2.2.2.2.2.2.2.2.2.2.2.2])), (h1, .inl ((cA 1), 85, .inl v.1)), (h2, .inl ((cA 0), 9, .inr (.inl v.2.1))), (h3, .inl ((cA 1), 85, .inl v.2.2.1)), (h4, .inl ((cA 0), 9, .inr (.inl v.2.2.2.1))), (h5, .inl ((cA 1), 510, .inl v.2.2.2.2.1)), (h6, .inl ((cA 0), 54, .inr (.inl v.2.2.2.2.2.1))), (h7, .inl ((cA 1), 170, .inl v.2.2.2.2.2.2.2.1)), (h8, .inl ((cA 0), 18, .inr (.inl v.2.2.2.2.2.2.2.2.1))), (h9, .inl ((cA 2), 2, .inl v.2.2.2.2.2.2.2.2.2.1)), (h10, .inl ((cA 1), 80, .inl v.2.2.2.2.2.2.2.2.2.2.1)), (h11, .inl ((cA 1), 60, .inl v.2.2.2.2.2.2.2.2.2.2.2.2.2.2.1))] := hD
  have hl := lv_entry ([.ref h0, .int x1, .int x2]) (n := 4) (Nat.le_of_ble_eq_true rfl)
  rw [lg_entry_eq]
  generalize (lg_sl ([.ref h0, .int x1, .int x2]) ++ List.replicate (4 - (lg_sl ([.ref h0, .int x1, .int x2])).length) Slot.unset).toArray = ls at hl ⊢
  have hl : lv_has ls 4 [(0, .ref h0), (1, .int x1), (2, .int x2)] := hl
  refine z_genQ (fun Q hQ => ?_)
  refine lv_iload_n hx hb dX10_correct_0 rfl (lv_at hl 1 rfl) ?_
  refine z_Ri (va_runS (As := [.int x1]) (rest := []) ⟨hx, hb, hml, hown, hts⟩ (c_X10_isDegrees l D cA  x1) (va_cwS 1 hts gX10_correct_X10_isDegrees rfl rfl rfl (by decide +kernel) ⟨Nat.le_of_ble_eq_true rfl, Nat.le_of_ble_eq_true rfl⟩) (zqSR0 hK hN) rfl rfl hl.1 rfl (lv_room (Nat.le_of_ble_eq_true rfl)) dX10_correct_1 ⟨Nat.le_of_ble_eq_true rfl, Nat.le_of_ble_eq_true rfl⟩) ?_
  refine lv_if_eq (tgt := 14) hx hb dX10_correct_4 (by decide) (fun c_1 => ?_) (fun c_1 => ?_)
  · skip
    refine lv_bipush (v := -2) hx hb dX10_correct_14 (by decide) ?_
    have e9 : (fm_correct pm v x1 x2) = ((-2 : Int32), v) := by unfold fm_correct; simp only [if_pos c_1] <;> rfl
    have hP9 : va_P D vwCl (wX10 cA h0 h1 h2 h3 h4 h5 h6 h7 h8 h9 h10 h11 (v : vX10)) s.heap := hP
    have hD9 : va_D A (wX10 cA h0 h1 h2 h3 h4 h5 h6 h7 h8 h9 h10 h11 (v : vX10)) := hD
    subst hQ
    exact W.iret (v := (-2 : Int32)) hx hb hr (fun t ht hW => ⟨⟨(-2 : Int32), v, rfl, e9.symm, ⟨by rw [ht]; exact hP9, va_K.moved hW.alike hK, hD9⟩⟩, hS.F ht⟩) hS.2.2 dX10_correct_16
  · skip
    refine lv_iload_n hx hb dX10_correct_7 rfl (lv_at hl 2 rfl) ?_
    refine z_Ri (va_runS (As := [.int x2]) (rest := []) ⟨hx, hb, hml, hown, hts⟩ (c_X10_isSpeed l D cA  x2) (va_cwS 1 hts gX10_correct_X10_isSpeed rfl rfl rfl (by decide +kernel) ⟨Nat.le_of_ble_eq_true rfl, Nat.le_of_ble_eq_true rfl⟩) (zqSR0 hK hN) rfl rfl hl.1 rfl (lv_room (Nat.le_of_ble_eq_true rfl)) dX10_correct_8 ⟨Nat.le_of_ble_eq_true rfl, Nat.le_of_ble_eq_true rfl⟩) ?_
    refine lv_if_ne (tgt := 17) hx hb dX10_correct_11 (by decide) (fun c_2 => ?_) (fun c_2 => ?_)
    · skip
      refine lv_aload_n hx hb dX10_correct_17 rfl (lv_at hl 0 rfl) ?_
      refine z_Hv (wt := fun (u_3 : vX10) => [(h0, .inr (10, [.ref h1, .ref h2, .ref h3, .ref h4, .ref h5, .ref h6, .int u_3.2.2.2.2.2.2.1, .ref h7, .ref h8, .ref h9, .ref h10, .int u_3.2.2.2.2.2.2.2.2.2.2.2.1, .int u_3.2.2.2.2.2.2.2.2.2.2.2.2.1, .int u_3.2.2.2.2.2.2.2.2.2.2.2.2.2.1, .ref h11, .int u_3.2.2.2.2.2.2.2.2.2.2.2.2.2.2.2])), (h1, .inl ((cA 1), 85, .inl u_3.1)), (h2, .inl ((cA 0), 9, .inr (.inl u_3.2.1))), (h3, .inl ((cA 1), 85, .inl u_3.2.2.1)), (h4, .inl ((cA 0), 9, .inr (.inl u_3.2.2.2.1))), (h5, .inl ((cA 1), 510, .inl u_3.2.2.2.2.1)), (h6, .inl ((cA 0), 54, .inr (.inl u_3.2.2.2.2.2.1))), (h7, .inl ((cA 1), 170, .inl u_3.2.2.2.2.2.2.2.1)), (h8, .inl ((cA 0), 18, .inr (.inl u_3.2.2.2.2.2.2.2.2.1))), (h9, .inl ((cA 2), 2, .inl u_3.2.2.2.2.2.2.2.2.2.1)), (h10, .inl ((cA 1), 80, .inl u_3.2.2.2.2.2.2.2.2.2.2.1)), (h11, .inl ((cA 1), 60, .inl u_3.2.2.2.2.2.2.2.2.2.2.2.2.2.2.1))]) (va_runV (As := []) (rest := []) ⟨hx, hb, hml, hown, hts⟩ (c_X10_keep l D cA h0 h1 h2 h3 h4 h5 h6 h7 h8 h9 h10 h11 s.heap.size pm v hpm hp6) (cwV 0 hts gX10_correct_X10_keep rfl rfl rfl (by decide +kernel) ⟨Nat.le_of_ble_eq_true rfl, Nat.le_of_ble_eq_true rfl⟩) (zqV hK hP hD hS hA hE (z_c1 (a := []) (b := []) rfl) 0 rfl rfl) rfl rfl hl.1 rfl (lv_room (Nat.le_of_ble_eq_true rfl)) dX10_correct_18 ⟨Nat.le_of_ble_eq_true rfl, Nat.le_of_ble_eq_true rfl⟩) hP hD hS hA (z_c1 (a := []) (b := []) rfl) (fun u_3 => (z_c1' (a := []) (b := []) rfl)) (fun u_3 H locs eu_3 hP hD hS => ?_)
      have hP : va_P D vwCl [(h0, .inr (10, [.ref h1, .ref h2, .ref h3, .ref h4, .ref h5, .ref h6, .int u_3.2.2.2.2.2.2.1, .ref h7, .ref h8, .ref h9, .ref h10, .int u_3.2.2.2.2.2.2.2.2.2.2.2.1, .int u_3.2.2.2.2.2.2.2.2.2.2.2.2.1, .int u_3.2.2.2.2.2.2.2.2.2.2.2.2.2.1, .ref h11, .int u_3.2.2.2.2.2.2.2.2.2.2.2.2.2.2.2])), (h1, .inl ((cA 1), 85, .inl u_3.1)), (h2, .inl ((cA 0), 9, .inr (.inl u_3.2.1))), (h3, .inl ((cA 1), 85, .inl u_3.2.2.1)), (h4, .inl ((cA 0), 9, .inr (.inl u_3.2.2.2.1))), (h5, .inl ((cA 1), 510, .inl u_3.2.2.2.2.1)), (h6, .inl ((cA 0), 54, .inr (.inl u_3.2.2.2.2.2.1))), (h7, .inl ((cA 1), 170, .inl u_3.2.2.2.2.2.2.2.1)), (h8, .inl ((cA 0), 18, .inr (.inl u_3.2.2.2.2.2.2.2.2.1))), (h9, .inl ((cA 2), 2, .inl u_3.2.2.2.2.2.2.2.2.2.1)), (h10, .inl ((cA 1), 80, .inl u_3.2.2.2.2.2.2.2.2.2.2.1)), (h11, .inl ((cA 1), 60, .inl u_3.2.2.2.2.2.2.2.2.2.2.2.2.2.2.1))] H := hP
      have hD : va_D A [(h0, .inr (10, [.ref h1, .ref h2, .ref h3, .ref h4, .ref h5, .ref h6, .int u_3.2.2.2.2.2.2.1, .ref h7, .ref h8, .ref h9, .ref h10, .int u_3.2.2.2.2.2.2.2.2.2.2.2.1, .int u_3.2.2.2.2.2.2.2.2.2.2.2.2.1, .int u_3.2.2.2.2.2.2.2.2.2.2.2.2.2.1, .ref h11, .int u_3.2.2.2.2.2.2.2.2.2.2.2.2.2.2.2])), (h1, .inl ((cA 1), 85, .inl u_3.1)), (h2, .inl ((cA 0), 9, .inr (.inl u_3.2.1))), (h3, .inl ((cA 1), 85, .inl u_3.2.2.1)), (h4, .inl ((cA 0), 9, .inr (.inl u_3.2.2.2.1))), (h5, .inl ((cA 1), 510, .inl u_3.2.2.2.2.1)), (h6, .inl ((cA 0), 54, .inr (.inl u_3.2.2.2.2.2.1))), (h7, .inl ((cA 1), 170, .inl u_3.2.2.2.2.2.2.2.1)), (h8, .inl ((cA 0), 18, .inr (.inl u_3.2.2.2.2.2.2.2.2.1))), (h9, .inl ((cA 2), 2, .inl u_3.2.2.2.2.2.2.2.2.2.1)), (h10, .inl ((cA 1), 80, .inl u_3.2.2.2.2.2.2.2.2.2.2.1)), (h11, .inl ((cA 1), 60, .inl u_3.2.2.2.2.2.2.2.2.2.2.2.2.2.2.1))] := hD
      refine lv_aload_n hx hb dX10_correct_21 rfl (lv_at hl 0 rfl) ?_
      refine z_Ri (va_runV (As := []) (rest := []) ⟨hx, hb, hml, hown, hts⟩ (c_X10_rest l D cA h0 h1 h2 h3 h4 h5 h6 h7 h8 h9 h10 h11 u_3 (by rw [eu_3]; exact hR)) (cwV 0 hts gX10_correct_X10_rest rfl rfl rfl (by decide +kernel) ⟨Nat.le_of_ble_eq_true rfl, Nat.le_of_ble_eq_true rfl⟩) (zqVR hK hP hN (z_c1 (a := []) (b := []) rfl) 0 rfl rfl) rfl rfl hl.1 rfl (lv_room (Nat.le_of_ble_eq_true rfl)) dX10_correct_22 ⟨Nat.le_of_ble_eq_true rfl, Nat.le_of_ble_eq_true rfl⟩) ?_
      refine lv_istore_n (lv' := [(3, .int (fm_rest u_3.1)), (0, .ref h0), (1, .int x1), (2, .int x2)]) hx hb dX10_correct_25 rfl hl (by decide) rfl (fun ls hl => ?_)
      refine lv_aload_n hx hb dX10_correct_26 rfl (lv_at hl 1 rfl) ?_
      refine va_get (D := D) (ci := 10) (v := .ref h1) (C := RX10) (T := TX10) (N := 16) hx hb hts hinX10 hown hK hP 0 rfl rfl 0 (by decide) (hts (.fieldLink RX10 7 "GyroTrainerModel" "at" "[I") (List.mem_of_getElem? (i := 1) rfl)) (fun _ h9 => h9) rfl dX10_correct_27 ?_
      refine lv_bipush (v := 6) hx hb dX10_correct_30 (by decide) ?_
      refine lv_iload_n hx hb dX10_correct_32 rfl (lv_at hl 2 rfl) ?_
      refine z_iast (k := 6) hx hb hK hP hD hS 1 1 rfl rfl rfl (by decide) (by decide) dX10_correct_33 (fun g_5 eg_5 H locs hP hD hS => ?_)
      have hP : va_P D vwCl [(h0, .inr (10, [.ref h1, .ref h2, .ref h3, .ref h4, .ref h5, .ref h6, .int u_3.2.2.2.2.2.2.1, .ref h7, .ref h8, .ref h9, .ref h10, .int u_3.2.2.2.2.2.2.2.2.2.2.2.1, .int u_3.2.2.2.2.2.2.2.2.2.2.2.2.1, .int u_3.2.2.2.2.2.2.2.2.2.2.2.2.2.1, .ref h11, .int u_3.2.2.2.2.2.2.2.2.2.2.2.2.2.2.2])), (h1, .inl ((cA 1), 85, .inl g_5)), (h2, .inl ((cA 0), 9, .inr (.inl u_3.2.1))), (h3, .inl ((cA 1), 85, .inl u_3.2.2.1)), (h4, .inl ((cA 0), 9, .inr (.inl u_3.2.2.2.1))), (h5, .inl ((cA 1), 510, .inl u_3.2.2.2.2.1)), (h6, .inl ((cA 0), 54, .inr (.inl u_3.2.2.2.2.2.1))), (h7, .inl ((cA 1), 170, .inl u_3.2.2.2.2.2.2.2.1)), (h8, .inl ((cA 0), 18, .inr (.inl u_3.2.2.2.2.2.2.2.2.1))), (h9, .inl ((cA 2), 2, .inl u_3.2.2.2.2.2.2.2.2.2.1)), (h10, .inl ((cA 1), 80, .inl u_3.2.2.2.2.2.2.2.2.2.2.1)), (h11, .inl ((cA 1), 60, .inl u_3.2.2.2.2.2.2.2.2.2.2.2.2.2.2.1))] H := hP
      have hD : va_D A [(h0, .inr (10, [.ref h1, .ref h2, .ref h3, .ref h4, .ref h5, .ref h6, .int u_3.2.2.2.2.2.2.1, .ref h7, .ref h8, .ref h9, .ref h10, .int u_3.2.2.2.2.2.2.2.2.2.2.2.1, .int u_3.2.2.2.2.2.2.2.2.2.2.2.2.1, .int u_3.2.2.2.2.2.2.2.2.2.2.2.2.2.1, .ref h11, .int u_3.2.2.2.2.2.2.2.2.2.2.2.2.2.2.2])), (h1, .inl ((cA 1), 85, .inl g_5)), (h2, .inl ((cA 0), 9, .inr (.inl u_3.2.1))), (h3, .inl ((cA 1), 85, .inl u_3.2.2.1)), (h4, .inl ((cA 0), 9, .inr (.inl u_3.2.2.2.1))), (h5, .inl ((cA 1), 510, .inl u_3.2.2.2.2.1)), (h6, .inl ((cA 0), 54, .inr (.inl u_3.2.2.2.2.2.1))), (h7, .inl ((cA 1), 170, .inl u_3.2.2.2.2.2.2.2.1)), (h8, .inl ((cA 0), 18, .inr (.inl u_3.2.2.2.2.2.2.2.2.1))), (h9, .inl ((cA 2), 2, .inl u_3.2.2.2.2.2.2.2.2.2.1)), (h10, .inl ((cA 1), 80, .inl u_3.2.2.2.2.2.2.2.2.2.2.1)), (h11, .inl ((cA 1), 60, .inl u_3.2.2.2.2.2.2.2.2.2.2.2.2.2.2.1))] := hD
      refine lv_aload_n hx hb dX10_correct_34 rfl (lv_at hl 1 rfl) ?_
      refine va_get (D := D) (ci := 10) (v := .ref h1) (C := RX10) (T := TX10) (N := 16) hx hb hts hinX10 hown hK hP 0 rfl rfl 0 (by decide) (hts (.fieldLink RX10 7 "GyroTrainerModel" "at" "[I") (List.mem_of_getElem? (i := 1) rfl)) (fun _ h9 => h9) rfl dX10_correct_35 ?_
      refine lv_bipush (v := 7) hx hb dX10_correct_38 (by decide) ?_
      refine lv_iload_n hx hb dX10_correct_40 rfl (lv_at hl 3 rfl) ?_
      refine z_iast (k := 7) hx hb hK hP hD hS 1 1 rfl rfl rfl (by decide) (by decide) dX10_correct_41 (fun g_6 eg_6 H locs hP hD hS => ?_)
      have hP : va_P D vwCl [(h0, .inr (10, [.ref h1, .ref h2, .ref h3, .ref h4, .ref h5, .ref h6, .int u_3.2.2.2.2.2.2.1, .ref h7, .ref h8, .ref h9, .ref h10, .int u_3.2.2.2.2.2.2.2.2.2.2.2.1, .int u_3.2.2.2.2.2.2.2.2.2.2.2.2.1, .int u_3.2.2.2.2.2.2.2.2.2.2.2.2.2.1, .ref h11, .int u_3.2.2.2.2.2.2.2.2.2.2.2.2.2.2.2])), (h1, .inl ((cA 1), 85, .inl g_6)), (h2, .inl ((cA 0), 9, .inr (.inl u_3.2.1))), (h3, .inl ((cA 1), 85, .inl u_3.2.2.1)), (h4, .inl ((cA 0), 9, .inr (.inl u_3.2.2.2.1))), (h5, .inl ((cA 1), 510, .inl u_3.2.2.2.2.1)), (h6, .inl ((cA 0), 54, .inr (.inl u_3.2.2.2.2.2.1))), (h7, .inl ((cA 1), 170, .inl u_3.2.2.2.2.2.2.2.1)), (h8, .inl ((cA 0), 18, .inr (.inl u_3.2.2.2.2.2.2.2.2.1))), (h9, .inl ((cA 2), 2, .inl u_3.2.2.2.2.2.2.2.2.2.1)), (h10, .inl ((cA 1), 80, .inl u_3.2.2.2.2.2.2.2.2.2.2.1)), (h11, .inl ((cA 1), 60, .inl u_3.2.2.2.2.2.2.2.2.2.2.2.2.2.2.1))] H := hP
      have hD : va_D A [(h0, .inr (10, [.ref h1, .ref h2, .ref h3, .ref h4, .ref h5, .ref h6, .int u_3.2.2.2.2.2.2.1, .ref h7, .ref h8, .ref h9, .ref h10, .int u_3.2.2.2.2.2.2.2.2.2.2.2.1, .int u_3.2.2.2.2.2.2.2.2.2.2.2.2.1, .int u_3.2.2.2.2.2.2.2.2.2.2.2.2.2.1, .ref h11, .int u_3.2.2.2.2.2.2.2.2.2.2.2.2.2.2.2])), (h1, .inl ((cA 1), 85, .inl g_6)), (h2, .inl ((cA 0), 9, .inr (.inl u_3.2.1))), (h3, .inl ((cA 1), 85, .inl u_3.2.2.1)), (h4, .inl ((cA 0), 9, .inr (.inl u_3.2.2.2.1))), (h5, .inl ((cA 1), 510, .inl u_3.2.2.2.2.1)), (h6, .inl ((cA 0), 54, .inr (.inl u_3.2.2.2.2.2.1))), (h7, .inl ((cA 1), 170, .inl u_3.2.2.2.2.2.2.2.1)), (h8, .inl ((cA 0), 18, .inr (.inl u_3.2.2.2.2.2.2.2.2.1))), (h9, .inl ((cA 2), 2, .inl u_3.2.2.2.2.2.2.2.2.2.1)), (h10, .inl ((cA 1), 80, .inl u_3.2.2.2.2.2.2.2.2.2.2.1)), (h11, .inl ((cA 1), 60, .inl u_3.2.2.2.2.2.2.2.2.2.2.2.2.2.2.1))] := hD
      refine lv_aload_n hx hb dX10_correct_42 rfl (lv_at hl 1 rfl) ?_
      refine z_Ri (va_runV (As := []) (rest := []) ⟨hx, hb, hml, hown, hts⟩ (c_X10_rest l D cA h0 h1 h2 h3 h4 h5 h6 h7 h8 h9 h10 h11 (g_6, u_3.2) (by rw [eg_6, eg_5, eu_3]; exact okR_set hR (zdR_of c_1))) (cwV 0 hts gX10_correct_X10_rest rfl rfl rfl (by decide +kernel) ⟨Nat.le_of_ble_eq_true rfl, Nat.le_of_ble_eq_true rfl⟩) (zqVR hK hP hN (z_c1 (a := []) (b := []) rfl) 0 rfl rfl) rfl rfl hl.1 rfl (lv_room (Nat.le_of_ble_eq_true rfl)) dX10_correct_43 ⟨Nat.le_of_ble_eq_true rfl, Nat.le_of_ble_eq_true rfl⟩) ?_
      refine lv_iload_n hx hb dX10_correct_46 rfl (lv_at hl 0 rfl) ?_
      refine lv_icmp_ne (tgt := 54) hx hb dX10_correct_47 (by decide) (fun c_7 => ?_) (fun c_7 => ?_)
      · skip
        refine lv_iconst (v := 1) hx hb dX10_correct_54 (by decide) ?_
        have e9 : (fm_correct pm v x1 x2) = ((1 : Int32), (g_6, u_3.2)) := by unfold fm_correct; simp only [← eu_3, ← eg_5, ← eg_6, if_neg c_1, if_neg c_2, if_neg c_7] <;> rfl
        have hP9 : va_P D vwCl (wX10 cA h0 h1 h2 h3 h4 h5 h6 h7 h8 h9 h10 h11 ((g_6, u_3.2) : vX10)) H := hP
        have hD9 : va_D A (wX10 cA h0 h1 h2 h3 h4 h5 h6 h7 h8 h9 h10 h11 ((g_6, u_3.2) : vX10)) := hD
        subst hQ
        exact W.iret (v := (1 : Int32)) hx hb hr (fun t ht hW => ⟨⟨(1 : Int32), (g_6, u_3.2), rfl, e9.symm, ⟨by rw [ht]; exact hP9, va_K.moved hW.alike hK, hD9⟩⟩, hS.F ht⟩) hS.2.2 dX10_correct_55
      · skip
        refine lv_iconst (v := 0) hx hb dX10_correct_50 (by decide) ?_
        refine lv_goto (tgt := 55) hx hb dX10_correct_51 (by decide) ?_
        have e9 : (fm_correct pm v x1 x2) = ((0 : Int32), (g_6, u_3.2)) := by unfold fm_correct; simp only [← eu_3, ← eg_5, ← eg_6, if_neg c_1, if_neg c_2, if_pos c_7] <;> rfl
        have hP9 : va_P D vwCl (wX10 cA h0 h1 h2 h3 h4 h5 h6 h7 h8 h9 h10 h11 ((g_6, u_3.2) : vX10)) H := hP
        have hD9 : va_D A (wX10 cA h0 h1 h2 h3 h4 h5 h6 h7 h8 h9 h10 h11 ((g_6, u_3.2) : vX10)) := hD
        subst hQ
        exact W.iret (v := (0 : Int32)) hx hb hr (fun t ht hW => ⟨⟨(0 : Int32), (g_6, u_3.2), rfl, e9.symm, ⟨by rw [ht]; exact hP9, va_K.moved hW.alike hK, hD9⟩⟩, hS.F ht⟩) hS.2.2 dX10_correct_55
    · skip
      refine lv_bipush (v := -2) hx hb dX10_correct_14 (by decide) ?_
      have e9 : (fm_correct pm v x1 x2) = ((-2 : Int32), v) := by unfold fm_correct; simp only [if_neg c_1, if_pos c_2] <;> rfl
      have hP9 : va_P D vwCl (wX10 cA h0 h1 h2 h3 h4 h5 h6 h7 h8 h9 h10 h11 (v : vX10)) s.heap := hP
      have hD9 : va_D A (wX10 cA h0 h1 h2 h3 h4 h5 h6 h7 h8 h9 h10 h11 (v : vX10)) := hD
      subst hQ
      exact W.iret (v := (-2 : Int32)) hx hb hr (fun t ht hW => ⟨⟨(-2 : Int32), v, rfl, e9.symm, ⟨by rw [ht]; exact hP9, va_K.moved hW.alike hK, hD9⟩⟩, hS.F ht⟩) hS.2.2 dX10_correct_16
set_option maxHeartbeats 4000000 in
set_option maxRecDepth 100000 in
theorem c_X10_guess (l : Launch) (D : va_G) (cA : Nat → ClassId) (h0 h1 h2 h3 h4 h5 h6 h7 h8 h9 h10 h11 : Nat) (sz : Nat) (pm : Nat) (v : vX10) (x1 : Int32) (hpm : v.2.2.2.2.2.2.1 = nI pm) (hp6 : pm ≤ 6) (hR : okR v.1) : Met l yX10_guess wsX10_guess ({ frames := 6, cells := 0, slots := 0, locals := 129 }) (va_Pc [.ref h0, .int x1] (zPre D (zty cA) (wX10 cA h0 h1 h2 h3 h4 h5 h6 h7 h8 h9 h10 h11 v) sz)) (va_Qi (fun (x : Int32) (u : vX10) => (x, u) = (fm_guess pm v x1)) (fun u => zPost D (zty cA) (va_A (wX10 cA h0 h1 h2 h3 h4 h5 h6 h7 h8 h9 h10 h11 v) sz) (wX10 cA h0 h1 h2 h3 h4 h5 h6 h7 h8 h9 h10 h11 u)) (va_A (wX10 cA h0 h1 h2 h3 h4 h5 h6 h7 h8 h9 h10 h11 v) sz)) 0 0 (va_A (wX10 cA h0 h1 h2 h3 h4 h5 h6 h7 h8 h9 h10 h11 v) sz) := by
  refine Met.ofW (cc := cX10_guess) (maxL := 3) (ret := (some .int)) (by decide) rfl ?_
  intro p e s m args below meth c s₁ B hml hv
  obtain ⟨rfl, hsz, hP, hK, hD0, hE⟩ := hv
  have hx := B.exec
  have hb := B.bytes
  have hr := B.returns
  have hts := atoms_spec (ws := wsX10_guess) B.pre
  have hown : s.vm.findClass RX10 = some m.cls := findClass_of_methodNamed B.named
  have hlocks := B.notSynchronized
  have hinX10 : ∀ w ∈ u_ws RX10 TX10 16, w ∈ wsX10_guess := fun w h => List.mem_cons_of_mem _ (List.mem_append_right _ h)
  subst hsz
  have hD := hD0.self (sz := s.heap.size)
  generalize hAe : va_A (wX10 cA h0 h1 h2 h3 h4 h5 h6 h7 h8 h9 h10 h11 v) s.heap.size = A at hD hE ⊢
  have hA : ∀ q : Nat, s.heap.size ≤ q → A q := fun q h => by rw [← hAe]; exact Or.inr h
  have hS : va_S A s.heap s.heap [] := va_S.rf
  have hN : zN s := hE.1
  have hP : va_P D vwCl [(h0, .inr (10, [.ref h1, .ref h2, .ref h3, .ref h4, .ref h5, .ref h6, .int v.2.2.2.2.2.2.1, .ref h7, .ref h8, .ref h9, .ref h10, .int v.2.2.2.2.2.2.2.2.2.2.2.1, .int v.2.2.2.2.2.2.2.2.2.2.2.2.1, .int v.2.2.2.2.2.2.2.2.2.2.2.2.2.1, .ref h11, .int v.2.2.2.2.2.2.2.2.2.2.2.2.2.2.2])), (h1, .inl ((cA 1), 85, .inl v.1)), (h2, .inl ((cA 0), 9, .inr (.inl v.2.1))), (h3, .inl ((cA 1), 85, .inl v.2.2.1)), (h4, .inl ((cA 0), 9, .inr (.inl v.2.2.2.1))), (h5, .inl ((cA 1), 510, .inl v.2.2.2.2.1)), (h6, .inl ((cA 0), 54, .inr (.inl v.2.2.2.2.2.1))), (h7, .inl ((cA 1), 170, .inl v.2.2.2.2.2.2.2.1)), (h8, .inl ((cA 0), 18, .inr (.inl v.2.2.2.2.2.2.2.2.1))), (h9, .inl ((cA 2), 2, .inl v.2.2.2.2.2.2.2.2.2.1)), (h10, .inl ((cA 1), 80, .inl v.2.2.2.2.2.2.2.2.2.2.1)), (h11, .inl ((cA 1), 60, .inl v.2.2.2.2.2.2.2.2.2.2.2.2.2.2.1))] s.heap := hP
  have hD : va_D A [(h0, .inr (10, [.ref h1, .ref h2, .ref h3, .ref h4, .ref h5, .ref h6, .int v.2.2.2.2.2.2.1, .ref h7, .ref h8, .ref h9, .ref h10, .int v.2.2.2.2.2.2.2.2.2.2.2.1, .int v.2.2.2.2.2.2.2.2.2.2.2.2.1, .int v.2.2.2.2.2.2.2.2.2.2.2.2.2.1, .ref h11, .int v.2.2.2.2.2.2.2.2.2.2.2.2.2.2.2])), (h1, .inl ((cA 1), 85, .inl v.1)), (h2, .inl ((cA 0), 9, .inr (.inl v.2.1))), (h3, .inl ((cA 1), 85, .inl v.2.2.1)), (h4, .inl ((cA 0), 9, .inr (.inl v.2.2.2.1))), (h5, .inl ((cA 1), 510, .inl v.2.2.2.2.1)), (h6, .inl ((cA 0), 54, .inr (.inl v.2.2.2.2.2.1))), (h7, .inl ((cA 1), 170, .inl v.2.2.2.2.2.2.2.1)), (h8, .inl ((cA 0), 18, .inr (.inl v.2.2.2.2.2.2.2.2.1))), (h9, .inl ((cA 2), 2, .inl v.2.2.2.2.2.2.2.2.2.1)), (h10, .inl ((cA 1), 80, .inl v.2.2.2.2.2.2.2.2.2.2.1)), (h11, .inl ((cA 1), 60, .inl v.2.2.2.2.2.2.2.2.2.2.2.2.2.2.1))] := hD
  have hl := lv_entry ([.ref h0, .int x1]) (n := 3) (Nat.le_of_ble_eq_true rfl)
  rw [lg_entry_eq]
  generalize (lg_sl ([.ref h0, .int x1]) ++ List.replicate (3 - (lg_sl ([.ref h0, .int x1])).length) Slot.unset).toArray = ls at hl ⊢
  have hl : lv_has ls 3 [(0, .ref h0), (1, .int x1)] := hl
  refine z_genQ (fun Q hQ => ?_)
  refine lv_iload_n hx hb dX10_guess_0 rfl (lv_at hl 1 rfl) ?_
  refine lv_ldc hx hb hown (hts (.constant RX10 162 (-1800000)) (List.mem_of_getElem? (i := 1) rfl)) dX10_guess_1 ?_
  refine lv_ldc hx hb hown (hts (.constant RX10 140 (1800000)) (List.mem_of_getElem? (i := 2) rfl)) dX10_guess_3 ?_
  refine z_Ri (va_runS (As := [.int x1, .int (-1800000 : Int32), .int (1800000 : Int32)]) (rest := []) ⟨hx, hb, hml, hown, hts⟩ (c_X10_in l D cA  x1 (-1800000 : Int32) (1800000 : Int32)) (va_cwS 3 hts gX10_guess_X10_in rfl rfl rfl (by decide +kernel) ⟨Nat.le_of_ble_eq_true rfl, Nat.le_of_ble_eq_true rfl⟩) (zqSR0 hK hN) rfl rfl hl.1 rfl (lv_room (Nat.le_of_ble_eq_true rfl)) dX10_guess_5 ⟨Nat.le_of_ble_eq_true rfl, Nat.le_of_ble_eq_true rfl⟩) ?_
  refine lv_if_ne (tgt := 14) hx hb dX10_guess_8 (by decide) (fun c_1 => ?_) (fun c_1 => ?_)
  · skip
    refine lv_aload_n hx hb dX10_guess_14 rfl (lv_at hl 0 rfl) ?_
    refine z_Hv (wt := fun (u_2 : vX10) => [(h0, .inr (10, [.ref h1, .ref h2, .ref h3, .ref h4, .ref h5, .ref h6, .int u_2.2.2.2.2.2.2.1, .ref h7, .ref h8, .ref h9, .ref h10, .int u_2.2.2.2.2.2.2.2.2.2.2.2.1, .int u_2.2.2.2.2.2.2.2.2.2.2.2.2.1, .int u_2.2.2.2.2.2.2.2.2.2.2.2.2.2.1, .ref h11, .int u_2.2.2.2.2.2.2.2.2.2.2.2.2.2.2.2])), (h1, .inl ((cA 1), 85, .inl u_2.1)), (h2, .inl ((cA 0), 9, .inr (.inl u_2.2.1))), (h3, .inl ((cA 1), 85, .inl u_2.2.2.1)), (h4, .inl ((cA 0), 9, .inr (.inl u_2.2.2.2.1))), (h5, .inl ((cA 1), 510, .inl u_2.2.2.2.2.1)), (h6, .inl ((cA 0), 54, .inr (.inl u_2.2.2.2.2.2.1))), (h7, .inl ((cA 1), 170, .inl u_2.2.2.2.2.2.2.2.1)), (h8, .inl ((cA 0), 18, .inr (.inl u_2.2.2.2.2.2.2.2.2.1))), (h9, .inl ((cA 2), 2, .inl u_2.2.2.2.2.2.2.2.2.2.1)), (h10, .inl ((cA 1), 80, .inl u_2.2.2.2.2.2.2.2.2.2.2.1)), (h11, .inl ((cA 1), 60, .inl u_2.2.2.2.2.2.2.2.2.2.2.2.2.2.2.1))]) (va_runV (As := []) (rest := []) ⟨hx, hb, hml, hown, hts⟩ (c_X10_keep l D cA h0 h1 h2 h3 h4 h5 h6 h7 h8 h9 h10 h11 s.heap.size pm v hpm hp6) (cwV 0 hts gX10_guess_X10_keep rfl rfl rfl (by decide +kernel) ⟨Nat.le_of_ble_eq_true rfl, Nat.le_of_ble_eq_true rfl⟩) (zqV hK hP hD hS hA hE (z_c1 (a := []) (b := []) rfl) 0 rfl rfl) rfl rfl hl.1 rfl (lv_room (Nat.le_of_ble_eq_true rfl)) dX10_guess_15 ⟨Nat.le_of_ble_eq_true rfl, Nat.le_of_ble_eq_true rfl⟩) hP hD hS hA (z_c1 (a := []) (b := []) rfl) (fun u_2 => (z_c1' (a := []) (b := []) rfl)) (fun u_2 H locs eu_2 hP hD hS => ?_)
    have hP : va_P D vwCl [(h0, .inr (10, [.ref h1, .ref h2, .ref h3, .ref h4, .ref h5, .ref h6, .int u_2.2.2.2.2.2.2.1, .ref h7, .ref h8, .ref h9, .ref h10, .int u_2.2.2.2.2.2.2.2.2.2.2.2.1, .int u_2.2.2.2.2.2.2.2.2.2.2.2.2.1, .int u_2.2.2.2.2.2.2.2.2.2.2.2.2.2.1, .ref h11, .int u_2.2.2.2.2.2.2.2.2.2.2.2.2.2.2.2])), (h1, .inl ((cA 1), 85, .inl u_2.1)), (h2, .inl ((cA 0), 9, .inr (.inl u_2.2.1))), (h3, .inl ((cA 1), 85, .inl u_2.2.2.1)), (h4, .inl ((cA 0), 9, .inr (.inl u_2.2.2.2.1))), (h5, .inl ((cA 1), 510, .inl u_2.2.2.2.2.1)), (h6, .inl ((cA 0), 54, .inr (.inl u_2.2.2.2.2.2.1))), (h7, .inl ((cA 1), 170, .inl u_2.2.2.2.2.2.2.2.1)), (h8, .inl ((cA 0), 18, .inr (.inl u_2.2.2.2.2.2.2.2.2.1))), (h9, .inl ((cA 2), 2, .inl u_2.2.2.2.2.2.2.2.2.2.1)), (h10, .inl ((cA 1), 80, .inl u_2.2.2.2.2.2.2.2.2.2.2.1)), (h11, .inl ((cA 1), 60, .inl u_2.2.2.2.2.2.2.2.2.2.2.2.2.2.2.1))] H := hP
    have hD : va_D A [(h0, .inr (10, [.ref h1, .ref h2, .ref h3, .ref h4, .ref h5, .ref h6, .int u_2.2.2.2.2.2.2.1, .ref h7, .ref h8, .ref h9, .ref h10, .int u_2.2.2.2.2.2.2.2.2.2.2.2.1, .int u_2.2.2.2.2.2.2.2.2.2.2.2.2.1, .int u_2.2.2.2.2.2.2.2.2.2.2.2.2.2.1, .ref h11, .int u_2.2.2.2.2.2.2.2.2.2.2.2.2.2.2.2])), (h1, .inl ((cA 1), 85, .inl u_2.1)), (h2, .inl ((cA 0), 9, .inr (.inl u_2.2.1))), (h3, .inl ((cA 1), 85, .inl u_2.2.2.1)), (h4, .inl ((cA 0), 9, .inr (.inl u_2.2.2.2.1))), (h5, .inl ((cA 1), 510, .inl u_2.2.2.2.2.1)), (h6, .inl ((cA 0), 54, .inr (.inl u_2.2.2.2.2.2.1))), (h7, .inl ((cA 1), 170, .inl u_2.2.2.2.2.2.2.2.1)), (h8, .inl ((cA 0), 18, .inr (.inl u_2.2.2.2.2.2.2.2.2.1))), (h9, .inl ((cA 2), 2, .inl u_2.2.2.2.2.2.2.2.2.2.1)), (h10, .inl ((cA 1), 80, .inl u_2.2.2.2.2.2.2.2.2.2.2.1)), (h11, .inl ((cA 1), 60, .inl u_2.2.2.2.2.2.2.2.2.2.2.2.2.2.2.1))] := hD
    refine lv_iload_n hx hb dX10_guess_18 rfl (lv_at hl 1 rfl) ?_
    refine lv_aload_n hx hb dX10_guess_19 rfl (lv_at hl 0 rfl) ?_
    refine z_Ri (va_runV (As := []) (rest := [.int x1]) ⟨hx, hb, hml, hown, hts⟩ (c_X10_rest l D cA h0 h1 h2 h3 h4 h5 h6 h7 h8 h9 h10 h11 u_2 (by rw [eu_2]; exact hR)) (cwV 0 hts gX10_guess_X10_rest rfl rfl rfl (by decide +kernel) ⟨Nat.le_of_ble_eq_true rfl, Nat.le_of_ble_eq_true rfl⟩) (zqVR hK hP hN (z_c1 (a := []) (b := []) rfl) 0 rfl rfl) rfl rfl hl.1 rfl (lv_room (Nat.le_of_ble_eq_true rfl)) dX10_guess_20 ⟨Nat.le_of_ble_eq_true rfl, Nat.le_of_ble_eq_true rfl⟩) ?_
    refine lv_isub hx hb dX10_guess_23 ?_
    refine z_Ri (va_runS (As := [.int (x1 - (fm_rest u_2.1))]) (rest := []) ⟨hx, hb, hml, hown, hts⟩ (c_X10_sizeOf l D cA  (x1 - (fm_rest u_2.1))) (va_cwS 1 hts gX10_guess_X10_sizeOf rfl rfl rfl (by decide +kernel) ⟨Nat.le_of_ble_eq_true rfl, Nat.le_of_ble_eq_true rfl⟩) (zqSR0 hK hN) rfl rfl hl.1 rfl (lv_room (Nat.le_of_ble_eq_true rfl)) dX10_guess_24 ⟨Nat.le_of_ble_eq_true rfl, Nat.le_of_ble_eq_true rfl⟩) ?_
    refine lv_istore_n (lv' := [(2, .int (fm_size (x1 - (fm_rest u_2.1)))), (0, .ref h0), (1, .int x1)]) hx hb dX10_guess_27 rfl hl (by decide) rfl (fun ls hl => ?_)
    refine lv_aload_n hx hb dX10_guess_28 rfl (lv_at hl 1 rfl) ?_
    refine va_get (D := D) (ci := 10) (v := .ref h1) (C := RX10) (T := TX10) (N := 16) hx hb hts hinX10 hown hK hP 0 rfl rfl 0 (by decide) (hts (.fieldLink RX10 7 "GyroTrainerModel" "at" "[I") (List.mem_of_getElem? (i := 3) rfl)) (fun _ h9 => h9) rfl dX10_guess_29 ?_
    refine lv_bipush (v := 18) hx hb dX10_guess_32 (by decide) ?_
    refine lv_dup2_11 hx hb dX10_guess_34 rfl rfl ?_
    refine z_iald (k := 18) hx hb hK hP 1 1 rfl rfl rfl (by decide) (by decide) dX10_guess_35 ?_
    refine lv_iload_n hx hb dX10_guess_36 rfl (lv_at hl 0 rfl) ?_
    refine lv_iadd hx hb dX10_guess_37 ?_
    refine z_iast (k := 18) hx hb hK hP hD hS 1 1 rfl rfl rfl (by decide) (by decide) dX10_guess_38 (fun g_4 eg_4 H locs hP hD hS => ?_)
    have hP : va_P D vwCl [(h0, .inr (10, [.ref h1, .ref h2, .ref h3, .ref h4, .ref h5, .ref h6, .int u_2.2.2.2.2.2.2.1, .ref h7, .ref h8, .ref h9, .ref h10, .int u_2.2.2.2.2.2.2.2.2.2.2.2.1, .int u_2.2.2.2.2.2.2.2.2.2.2.2.2.1, .int u_2.2.2.2.2.2.2.2.2.2.2.2.2.2.1, .ref h11, .int u_2.2.2.2.2.2.2.2.2.2.2.2.2.2.2.2])), (h1, .inl ((cA 1), 85, .inl g_4)), (h2, .inl ((cA 0), 9, .inr (.inl u_2.2.1))), (h3, .inl ((cA 1), 85, .inl u_2.2.2.1)), (h4, .inl ((cA 0), 9, .inr (.inl u_2.2.2.2.1))), (h5, .inl ((cA 1), 510, .inl u_2.2.2.2.2.1)), (h6, .inl ((cA 0), 54, .inr (.inl u_2.2.2.2.2.2.1))), (h7, .inl ((cA 1), 170, .inl u_2.2.2.2.2.2.2.2.1)), (h8, .inl ((cA 0), 18, .inr (.inl u_2.2.2.2.2.2.2.2.2.1))), (h9, .inl ((cA 2), 2, .inl u_2.2.2.2.2.2.2.2.2.2.1)), (h10, .inl ((cA 1), 80, .inl u_2.2.2.2.2.2.2.2.2.2.2.1)), (h11, .inl ((cA 1), 60, .inl u_2.2.2.2.2.2.2.2.2.2.2.2.2.2.2.1))] H := hP
    have hD : va_D A [(h0, .inr (10, [.ref h1, .ref h2, .ref h3, .ref h4, .ref h5, .ref h6, .int u_2.2.2.2.2.2.2.1, .ref h7, .ref h8, .ref h9, .ref h10, .int u_2.2.2.2.2.2.2.2.2.2.2.2.1, .int u_2.2.2.2.2.2.2.2.2.2.2.2.2.1, .int u_2.2.2.2.2.2.2.2.2.2.2.2.2.2.1, .ref h11, .int u_2.2.2.2.2.2.2.2.2.2.2.2.2.2.2.2])), (h1, .inl ((cA 1), 85, .inl g_4)), (h2, .inl ((cA 0), 9, .inr (.inl u_2.2.1))), (h3, .inl ((cA 1), 85, .inl u_2.2.2.1)), (h4, .inl ((cA 0), 9, .inr (.inl u_2.2.2.2.1))), (h5, .inl ((cA 1), 510, .inl u_2.2.2.2.2.1)), (h6, .inl ((cA 0), 54, .inr (.inl u_2.2.2.2.2.2.1))), (h7, .inl ((cA 1), 170, .inl u_2.2.2.2.2.2.2.2.1)), (h8, .inl ((cA 0), 18, .inr (.inl u_2.2.2.2.2.2.2.2.2.1))), (h9, .inl ((cA 2), 2, .inl u_2.2.2.2.2.2.2.2.2.2.1)), (h10, .inl ((cA 1), 80, .inl u_2.2.2.2.2.2.2.2.2.2.2.1)), (h11, .inl ((cA 1), 60, .inl u_2.2.2.2.2.2.2.2.2.2.2.2.2.2.2.1))] := hD
    refine lv_aload_n hx hb dX10_guess_39 rfl (lv_at hl 1 rfl) ?_
    refine va_get (D := D) (ci := 10) (v := .ref h1) (C := RX10) (T := TX10) (N := 16) hx hb hts hinX10 hown hK hP 0 rfl rfl 0 (by decide) (hts (.fieldLink RX10 7 "GyroTrainerModel" "at" "[I") (List.mem_of_getElem? (i := 3) rfl)) (fun _ h9 => h9) rfl dX10_guess_40 ?_
    refine lv_bipush (v := 17) hx hb dX10_guess_43 (by decide) ?_
    refine lv_dup2_11 hx hb dX10_guess_45 rfl rfl ?_
    refine z_iald (k := 17) hx hb hK hP 1 1 rfl rfl rfl (by decide) (by decide) dX10_guess_46 ?_
    refine lv_iconst (v := 1) hx hb dX10_guess_47 (by decide) ?_
    refine lv_iadd hx hb dX10_guess_48 ?_
    refine z_iast (k := 17) hx hb hK hP hD hS 1 1 rfl rfl rfl (by decide) (by decide) dX10_guess_49 (fun g_5 eg_5 H locs hP hD hS => ?_)
    have hP : va_P D vwCl [(h0, .inr (10, [.ref h1, .ref h2, .ref h3, .ref h4, .ref h5, .ref h6, .int u_2.2.2.2.2.2.2.1, .ref h7, .ref h8, .ref h9, .ref h10, .int u_2.2.2.2.2.2.2.2.2.2.2.2.1, .int u_2.2.2.2.2.2.2.2.2.2.2.2.2.1, .int u_2.2.2.2.2.2.2.2.2.2.2.2.2.2.1, .ref h11, .int u_2.2.2.2.2.2.2.2.2.2.2.2.2.2.2.2])), (h1, .inl ((cA 1), 85, .inl g_5)), (h2, .inl ((cA 0), 9, .inr (.inl u_2.2.1))), (h3, .inl ((cA 1), 85, .inl u_2.2.2.1)), (h4, .inl ((cA 0), 9, .inr (.inl u_2.2.2.2.1))), (h5, .inl ((cA 1), 510, .inl u_2.2.2.2.2.1)), (h6, .inl ((cA 0), 54, .inr (.inl u_2.2.2.2.2.2.1))), (h7, .inl ((cA 1), 170, .inl u_2.2.2.2.2.2.2.2.1)), (h8, .inl ((cA 0), 18, .inr (.inl u_2.2.2.2.2.2.2.2.2.1))), (h9, .inl ((cA 2), 2, .inl u_2.2.2.2.2.2.2.2.2.2.1)), (h10, .inl ((cA 1), 80, .inl u_2.2.2.2.2.2.2.2.2.2.2.1)), (h11, .inl ((cA 1), 60, .inl u_2.2.2.2.2.2.2.2.2.2.2.2.2.2.2.1))] H := hP
    have hD : va_D A [(h0, .inr (10, [.ref h1, .ref h2, .ref h3, .ref h4, .ref h5, .ref h6, .int u_2.2.2.2.2.2.2.1, .ref h7, .ref h8, .ref h9, .ref h10, .int u_2.2.2.2.2.2.2.2.2.2.2.2.1, .int u_2.2.2.2.2.2.2.2.2.2.2.2.2.1, .int u_2.2.2.2.2.2.2.2.2.2.2.2.2.2.1, .ref h11, .int u_2.2.2.2.2.2.2.2.2.2.2.2.2.2.2.2])), (h1, .inl ((cA 1), 85, .inl g_5)), (h2, .inl ((cA 0), 9, .inr (.inl u_2.2.1))), (h3, .inl ((cA 1), 85, .inl u_2.2.2.1)), (h4, .inl ((cA 0), 9, .inr (.inl u_2.2.2.2.1))), (h5, .inl ((cA 1), 510, .inl u_2.2.2.2.2.1)), (h6, .inl ((cA 0), 54, .inr (.inl u_2.2.2.2.2.2.1))), (h7, .inl ((cA 1), 170, .inl u_2.2.2.2.2.2.2.2.1)), (h8, .inl ((cA 0), 18, .inr (.inl u_2.2.2.2.2.2.2.2.2.1))), (h9, .inl ((cA 2), 2, .inl u_2.2.2.2.2.2.2.2.2.2.1)), (h10, .inl ((cA 1), 80, .inl u_2.2.2.2.2.2.2.2.2.2.2.1)), (h11, .inl ((cA 1), 60, .inl u_2.2.2.2.2.2.2.2.2.2.2.2.2.2.2.1))] := hD
    refine lv_iload_n hx hb dX10_guess_50 rfl (lv_at hl 0 rfl) ?_
    have e9 : (fm_guess pm v x1) = ((fm_size (x1 - (fm_rest u_2.1))), (g_5, u_2.2)) := by unfold fm_guess; simp only [← eu_2, ← eg_4, ← eg_5, if_neg c_1] <;> rfl
    have hP9 : va_P D vwCl (wX10 cA h0 h1 h2 h3 h4 h5 h6 h7 h8 h9 h10 h11 ((g_5, u_2.2) : vX10)) H := hP
    have hD9 : va_D A (wX10 cA h0 h1 h2 h3 h4 h5 h6 h7 h8 h9 h10 h11 ((g_5, u_2.2) : vX10)) := hD
    subst hQ
    exact W.iret (v := (fm_size (x1 - (fm_rest u_2.1)))) hx hb hr (fun t ht hW => ⟨⟨(fm_size (x1 - (fm_rest u_2.1))), (g_5, u_2.2), rfl, e9.symm, ⟨by rw [ht]; exact hP9, va_K.moved hW.alike hK, hD9⟩⟩, hS.F ht⟩) hS.2.2 dX10_guess_51
  · skip
    refine lv_bipush (v := -2) hx hb dX10_guess_11 (by decide) ?_
    have e9 : (fm_guess pm v x1) = ((-2 : Int32), v) := by unfold fm_guess; simp only [if_pos c_1] <;> rfl
    have hP9 : va_P D vwCl (wX10 cA h0 h1 h2 h3 h4 h5 h6 h7 h8 h9 h10 h11 (v : vX10)) s.heap := hP
    have hD9 : va_D A (wX10 cA h0 h1 h2 h3 h4 h5 h6 h7 h8 h9 h10 h11 (v : vX10)) := hD
    subst hQ
    exact W.iret (v := (-2 : Int32)) hx hb hr (fun t ht hW => ⟨⟨(-2 : Int32), v, rfl, e9.symm, ⟨by rw [ht]; exact hP9, va_K.moved hW.alike hK, hD9⟩⟩, hS.F ht⟩) hS.2.2 dX10_guess_13
set_option maxHeartbeats 4000000 in
set_option maxRecDepth 100000 in
theorem c_X10_undo (l : Launch) (D : va_G) (cA : Nat → ClassId) (h0 h1 h2 h3 h4 h5 h6 h7 h8 h9 h10 h11 : Nat) (sz : Nat) (pm : Nat) (v : vX10) (hpm : v.2.2.2.2.2.2.1 = nI pm) (hp6 : pm ≤ 6) : Met l yX10_undo wsX10_undo ({ frames := 0, cells := 0, slots := 0, locals := 0 }) (va_Pc [.ref h0] (zPre D (zty cA) (wX10 cA h0 h1 h2 h3 h4 h5 h6 h7 h8 h9 h10 h11 v) sz)) (va_Qi (fun (x : Int32) (u : vX10) => (x, u) = (fm_undo pm v)) (fun u => zPost D (zty cA) (va_A (wX10 cA h0 h1 h2 h3 h4 h5 h6 h7 h8 h9 h10 h11 v) sz) (wX10 cA h0 h1 h2 h3 h4 h5 h6 h7 h8 h9 h10 h11 u)) (va_A (wX10 cA h0 h1 h2 h3 h4 h5 h6 h7 h8 h9 h10 h11 v) sz)) 0 0 (va_A (wX10 cA h0 h1 h2 h3 h4 h5 h6 h7 h8 h9 h10 h11 v) sz) := by
  refine Met.ofW (cc := cX10_undo) (maxL := 2) (ret := (some .int)) (by decide) rfl ?_
  intro p e s m args below meth c s₁ B hml hv
  obtain ⟨rfl, hsz, hP, hK, hD0, hE⟩ := hv
  have hx := B.exec
  have hb := B.bytes
  have hr := B.returns
  have hts := atoms_spec (ws := wsX10_undo) B.pre
  have hown : s.vm.findClass RX10 = some m.cls := findClass_of_methodNamed B.named
  have hlocks := B.notSynchronized
  have hinX10 : ∀ w ∈ u_ws RX10 TX10 16, w ∈ wsX10_undo := fun w h => List.mem_cons_of_mem _ (List.mem_append_right _ h)
  subst hsz
  have hD := hD0.self (sz := s.heap.size)
  generalize hAe : va_A (wX10 cA h0 h1 h2 h3 h4 h5 h6 h7 h8 h9 h10 h11 v) s.heap.size = A at hD hE ⊢
  have hA : ∀ q : Nat, s.heap.size ≤ q → A q := fun q h => by rw [← hAe]; exact Or.inr h
  have hS : va_S A s.heap s.heap [] := va_S.rf
  have hN : zN s := hE.1
  have hP : va_P D vwCl [(h0, .inr (10, [.ref h1, .ref h2, .ref h3, .ref h4, .ref h5, .ref h6, .int v.2.2.2.2.2.2.1, .ref h7, .ref h8, .ref h9, .ref h10, .int v.2.2.2.2.2.2.2.2.2.2.2.1, .int v.2.2.2.2.2.2.2.2.2.2.2.2.1, .int v.2.2.2.2.2.2.2.2.2.2.2.2.2.1, .ref h11, .int v.2.2.2.2.2.2.2.2.2.2.2.2.2.2.2])), (h1, .inl ((cA 1), 85, .inl v.1)), (h2, .inl ((cA 0), 9, .inr (.inl v.2.1))), (h3, .inl ((cA 1), 85, .inl v.2.2.1)), (h4, .inl ((cA 0), 9, .inr (.inl v.2.2.2.1))), (h5, .inl ((cA 1), 510, .inl v.2.2.2.2.1)), (h6, .inl ((cA 0), 54, .inr (.inl v.2.2.2.2.2.1))), (h7, .inl ((cA 1), 170, .inl v.2.2.2.2.2.2.2.1)), (h8, .inl ((cA 0), 18, .inr (.inl v.2.2.2.2.2.2.2.2.1))), (h9, .inl ((cA 2), 2, .inl v.2.2.2.2.2.2.2.2.2.1)), (h10, .inl ((cA 1), 80, .inl v.2.2.2.2.2.2.2.2.2.2.1)), (h11, .inl ((cA 1), 60, .inl v.2.2.2.2.2.2.2.2.2.2.2.2.2.2.1))] s.heap := hP
  have hD : va_D A [(h0, .inr (10, [.ref h1, .ref h2, .ref h3, .ref h4, .ref h5, .ref h6, .int v.2.2.2.2.2.2.1, .ref h7, .ref h8, .ref h9, .ref h10, .int v.2.2.2.2.2.2.2.2.2.2.2.1, .int v.2.2.2.2.2.2.2.2.2.2.2.2.1, .int v.2.2.2.2.2.2.2.2.2.2.2.2.2.1, .ref h11, .int v.2.2.2.2.2.2.2.2.2.2.2.2.2.2.2])), (h1, .inl ((cA 1), 85, .inl v.1)), (h2, .inl ((cA 0), 9, .inr (.inl v.2.1))), (h3, .inl ((cA 1), 85, .inl v.2.2.1)), (h4, .inl ((cA 0), 9, .inr (.inl v.2.2.2.1))), (h5, .inl ((cA 1), 510, .inl v.2.2.2.2.1)), (h6, .inl ((cA 0), 54, .inr (.inl v.2.2.2.2.2.1))), (h7, .inl ((cA 1), 170, .inl v.2.2.2.2.2.2.2.1)), (h8, .inl ((cA 0), 18, .inr (.inl v.2.2.2.2.2.2.2.2.1))), (h9, .inl ((cA 2), 2, .inl v.2.2.2.2.2.2.2.2.2.1)), (h10, .inl ((cA 1), 80, .inl v.2.2.2.2.2.2.2.2.2.2.1)), (h11, .inl ((cA 1), 60, .inl v.2.2.2.2.2.2.2.2.2.2.2.2.2.2.1))] := hD
  have hl := lv_entry ([.ref h0]) (n := 2) (Nat.le_of_ble_eq_true rfl)
  rw [lg_entry_eq]
  generalize (lg_sl ([.ref h0]) ++ List.replicate (2 - (lg_sl ([.ref h0])).length) Slot.unset).toArray = ls at hl ⊢
  have hl : lv_has ls 2 [(0, .ref h0)] := hl
  refine z_genQ (fun Q hQ => ?_)
  refine lv_aload_n hx hb dX10_undo_0 rfl (lv_at hl 0 rfl) ?_
  refine va_get (D := D) (ci := 10) (v := .int v.2.2.2.2.2.2.1) (C := RX10) (T := TX10) (N := 16) hx hb hts hinX10 hown hK hP 0 rfl rfl 6 (by decide) (hts (.fieldLink RX10 45 "GyroTrainerModel" "pastMany" "I") (List.mem_of_getElem? (i := 1) rfl)) (fun _ h9 => h9) rfl dX10_undo_1 ?_
  refine lv_if_ne (tgt := 10) hx hb dX10_undo_4 (by decide) (fun c_1 => ?_) (fun c_1 => ?_)
  · skip
    refine lv_aload_n hx hb dX10_undo_10 rfl (lv_at hl 0 rfl) ?_
    refine lv_dup hx hb dX10_undo_11 rfl ?_
    refine va_get (D := D) (ci := 10) (v := .int v.2.2.2.2.2.2.1) (C := RX10) (T := TX10) (N := 16) hx hb hts hinX10 hown hK hP 0 rfl rfl 6 (by decide) (hts (.fieldLink RX10 45 "GyroTrainerModel" "pastMany" "I") (List.mem_of_getElem? (i := 1) rfl)) (fun _ h9 => h9) rfl dX10_undo_12 ?_
    refine lv_iconst (v := 1) hx hb dX10_undo_15 (by decide) ?_
    refine lv_isub hx hb dX10_undo_16 ?_
    have hp0 : 0 < pm := Nat.pos_of_ne_zero (fun h => c_1 (by rw [hpm, h]; rfl))
    rw [show (v.2.2.2.2.2.2.1 - (1 : Int32)) = nI (pm - 1) from by rw [hpm]; exact z_pred1 hp0]
    refine va_put (D := D) (ci := 10) (v := .int (nI (pm - 1))) (ty := .int) (C := RX10) (T := TX10) (N := 16) hx hb hts hinX10 tyX10 tyX10_ok nmX10 hown hK hP hD hS 0 rfl rfl 6 (by decide) (hts (.fieldLink RX10 45 "GyroTrainerModel" "pastMany" "I") (List.mem_of_getElem? (i := 1) rfl)) (fun _ h9 => h9) rfl (by decide +kernel) rfl rfl (Nat.le_of_ble_eq_true rfl) dX10_undo_17 (fun H locs hP hD hS => ?_)
    have hP : va_P D vwCl [(h0, .inr (10, [.ref h1, .ref h2, .ref h3, .ref h4, .ref h5, .ref h6, .int (nI (pm - 1)), .ref h7, .ref h8, .ref h9, .ref h10, .int v.2.2.2.2.2.2.2.2.2.2.2.1, .int v.2.2.2.2.2.2.2.2.2.2.2.2.1, .int v.2.2.2.2.2.2.2.2.2.2.2.2.2.1, .ref h11, .int v.2.2.2.2.2.2.2.2.2.2.2.2.2.2.2])), (h1, .inl ((cA 1), 85, .inl v.1)), (h2, .inl ((cA 0), 9, .inr (.inl v.2.1))), (h3, .inl ((cA 1), 85, .inl v.2.2.1)), (h4, .inl ((cA 0), 9, .inr (.inl v.2.2.2.1))), (h5, .inl ((cA 1), 510, .inl v.2.2.2.2.1)), (h6, .inl ((cA 0), 54, .inr (.inl v.2.2.2.2.2.1))), (h7, .inl ((cA 1), 170, .inl v.2.2.2.2.2.2.2.1)), (h8, .inl ((cA 0), 18, .inr (.inl v.2.2.2.2.2.2.2.2.1))), (h9, .inl ((cA 2), 2, .inl v.2.2.2.2.2.2.2.2.2.1)), (h10, .inl ((cA 1), 80, .inl v.2.2.2.2.2.2.2.2.2.2.1)), (h11, .inl ((cA 1), 60, .inl v.2.2.2.2.2.2.2.2.2.2.2.2.2.2.1))] H := hP
    have hD : va_D A [(h0, .inr (10, [.ref h1, .ref h2, .ref h3, .ref h4, .ref h5, .ref h6, .int (nI (pm - 1)), .ref h7, .ref h8, .ref h9, .ref h10, .int v.2.2.2.2.2.2.2.2.2.2.2.1, .int v.2.2.2.2.2.2.2.2.2.2.2.2.1, .int v.2.2.2.2.2.2.2.2.2.2.2.2.2.1, .ref h11, .int v.2.2.2.2.2.2.2.2.2.2.2.2.2.2.2])), (h1, .inl ((cA 1), 85, .inl v.1)), (h2, .inl ((cA 0), 9, .inr (.inl v.2.1))), (h3, .inl ((cA 1), 85, .inl v.2.2.1)), (h4, .inl ((cA 0), 9, .inr (.inl v.2.2.2.1))), (h5, .inl ((cA 1), 510, .inl v.2.2.2.2.1)), (h6, .inl ((cA 0), 54, .inr (.inl v.2.2.2.2.2.1))), (h7, .inl ((cA 1), 170, .inl v.2.2.2.2.2.2.2.1)), (h8, .inl ((cA 0), 18, .inr (.inl v.2.2.2.2.2.2.2.2.1))), (h9, .inl ((cA 2), 2, .inl v.2.2.2.2.2.2.2.2.2.1)), (h10, .inl ((cA 1), 80, .inl v.2.2.2.2.2.2.2.2.2.2.1)), (h11, .inl ((cA 1), 60, .inl v.2.2.2.2.2.2.2.2.2.2.2.2.2.2.1))] := hD
    refine lv_iconst (v := 0) hx hb dX10_undo_20 (by decide) ?_
    refine lv_istore_n (lv' := [(1, .int (0 : Int32)), (0, .ref h0)]) hx hb dX10_undo_21 rfl hl (by decide) rfl (fun ls hl => ?_)
    have L22 : ∀ (zn : Nat) (k : Nat), 85 - k < zn → (k ≤ 85) → ∀ (H : Heap) (locs : List Loc), va_P D vwCl [(h0, .inr (10, [.ref h1, .ref h2, .ref h3, .ref h4, .ref h5, .ref h6, .int (nI (pm - 1)), .ref h7, .ref h8, .ref h9, .ref h10, .int v.2.2.2.2.2.2.2.2.2.2.2.1, .int v.2.2.2.2.2.2.2.2.2.2.2.2.1, .int v.2.2.2.2.2.2.2.2.2.2.2.2.2.1, .ref h11, .int v.2.2.2.2.2.2.2.2.2.2.2.2.2.2.2])), (h1, .inl ((cA 1), 85, .inl (zcp k (zrd (85 * (pm - 1)) v.2.2.2.2.1) v.1))), (h2, .inl ((cA 0), 9, .inr (.inl v.2.1))), (h3, .inl ((cA 1), 85, .inl v.2.2.1)), (h4, .inl ((cA 0), 9, .inr (.inl v.2.2.2.1))), (h5, .inl ((cA 1), 510, .inl v.2.2.2.2.1)), (h6, .inl ((cA 0), 54, .inr (.inl v.2.2.2.2.2.1))), (h7, .inl ((cA 1), 170, .inl v.2.2.2.2.2.2.2.1)), (h8, .inl ((cA 0), 18, .inr (.inl v.2.2.2.2.2.2.2.2.1))), (h9, .inl ((cA 2), 2, .inl v.2.2.2.2.2.2.2.2.2.1)), (h10, .inl ((cA 1), 80, .inl v.2.2.2.2.2.2.2.2.2.2.1)), (h11, .inl ((cA 1), 60, .inl v.2.2.2.2.2.2.2.2.2.2.2.2.2.2.1))] H → va_D A [(h0, .inr (10, [.ref h1, .ref h2, .ref h3, .ref h4, .ref h5, .ref h6, .int (nI (pm - 1)), .ref h7, .ref h8, .ref h9, .ref h10, .int v.2.2.2.2.2.2.2.2.2.2.2.1, .int v.2.2.2.2.2.2.2.2.2.2.2.2.1, .int v.2.2.2.2.2.2.2.2.2.2.2.2.2.1, .ref h11, .int v.2.2.2.2.2.2.2.2.2.2.2.2.2.2.2])), (h1, .inl ((cA 1), 85, .inl (zcp k (zrd (85 * (pm - 1)) v.2.2.2.2.1) v.1))), (h2, .inl ((cA 0), 9, .inr (.inl v.2.1))), (h3, .inl ((cA 1), 85, .inl v.2.2.1)), (h4, .inl ((cA 0), 9, .inr (.inl v.2.2.2.1))), (h5, .inl ((cA 1), 510, .inl v.2.2.2.2.1)), (h6, .inl ((cA 0), 54, .inr (.inl v.2.2.2.2.2.1))), (h7, .inl ((cA 1), 170, .inl v.2.2.2.2.2.2.2.1)), (h8, .inl ((cA 0), 18, .inr (.inl v.2.2.2.2.2.2.2.2.1))), (h9, .inl ((cA 2), 2, .inl v.2.2.2.2.2.2.2.2.2.1)), (h10, .inl ((cA 1), 80, .inl v.2.2.2.2.2.2.2.2.2.2.1)), (h11, .inl ((cA 1), 60, .inl v.2.2.2.2.2.2.2.2.2.2.2.2.2.2.1))] → va_S A s.heap H locs → ∀ (ls : Array Slot), lv_has ls 2 [(1, .int (nI k)), (0, .ref h0)] → W p l e (headSpec wsX10_undo ({ frames := 0, cells := 0, slots := 0, locals := 0 })).room s m (([.ref h0] : List Value).toArray) below meth c H locs 0 0 Q (F0 m 22 ls []) := by
      intro zn
      induction zn with
      | zero =>
        intro k hm
        exact absurd hm (Nat.not_lt_zero _)
      | succ zn ih =>
        intro k hm hk H locs hP hD hS ls hl
        refine lv_iload_n hx hb dX10_undo_22 rfl (lv_at hl 0 rfl) ?_
        refine lv_bipush (v := 85) hx hb dX10_undo_23 (by decide) ?_
        refine lv_icmp_ge (tgt := 54) hx hb dX10_undo_25 (by decide) (fun c_2 => ?_) (fun c_2 => ?_)
        · skip
          obtain rfl : k = 85 := Nat.le_antisymm hk ((nI_leI (a := 85) (b := k) (by decide) (by omega)).mp c_2)
          have hP := z_reI (g := (zrd (85 * (pm - 1)) v.2.2.2.2.1)) hP (k := 1) rfl (fun j hj => by show (zcp 85 (zrd (85 * (pm - 1)) v.2.2.2.2.1) v.1) j = (zrd (85 * (pm - 1)) v.2.2.2.2.1) j; unfold zcp; rw [if_pos hj])
          have hD := hD.set (p := 1) (e := .inl (cA 1, 85, .inl (zrd (85 * (pm - 1)) v.2.2.2.2.1))) rfl
          have hP : va_P D vwCl [(h0, .inr (10, [.ref h1, .ref h2, .ref h3, .ref h4, .ref h5, .ref h6, .int (nI (pm - 1)), .ref h7, .ref h8, .ref h9, .ref h10, .int v.2.2.2.2.2.2.2.2.2.2.2.1, .int v.2.2.2.2.2.2.2.2.2.2.2.2.1, .int v.2.2.2.2.2.2.2.2.2.2.2.2.2.1, .ref h11, .int v.2.2.2.2.2.2.2.2.2.2.2.2.2.2.2])), (h1, .inl ((cA 1), 85, .inl (zrd (85 * (pm - 1)) v.2.2.2.2.1))), (h2, .inl ((cA 0), 9, .inr (.inl v.2.1))), (h3, .inl ((cA 1), 85, .inl v.2.2.1)), (h4, .inl ((cA 0), 9, .inr (.inl v.2.2.2.1))), (h5, .inl ((cA 1), 510, .inl v.2.2.2.2.1)), (h6, .inl ((cA 0), 54, .inr (.inl v.2.2.2.2.2.1))), (h7, .inl ((cA 1), 170, .inl v.2.2.2.2.2.2.2.1)), (h8, .inl ((cA 0), 18, .inr (.inl v.2.2.2.2.2.2.2.2.1))), (h9, .inl ((cA 2), 2, .inl v.2.2.2.2.2.2.2.2.2.1)), (h10, .inl ((cA 1), 80, .inl v.2.2.2.2.2.2.2.2.2.2.1)), (h11, .inl ((cA 1), 60, .inl v.2.2.2.2.2.2.2.2.2.2.2.2.2.2.1))] H := hP
          have hD : va_D A [(h0, .inr (10, [.ref h1, .ref h2, .ref h3, .ref h4, .ref h5, .ref h6, .int (nI (pm - 1)), .ref h7, .ref h8, .ref h9, .ref h10, .int v.2.2.2.2.2.2.2.2.2.2.2.1, .int v.2.2.2.2.2.2.2.2.2.2.2.2.1, .int v.2.2.2.2.2.2.2.2.2.2.2.2.2.1, .ref h11, .int v.2.2.2.2.2.2.2.2.2.2.2.2.2.2.2])), (h1, .inl ((cA 1), 85, .inl (zrd (85 * (pm - 1)) v.2.2.2.2.1))), (h2, .inl ((cA 0), 9, .inr (.inl v.2.1))), (h3, .inl ((cA 1), 85, .inl v.2.2.1)), (h4, .inl ((cA 0), 9, .inr (.inl v.2.2.2.1))), (h5, .inl ((cA 1), 510, .inl v.2.2.2.2.1)), (h6, .inl ((cA 0), 54, .inr (.inl v.2.2.2.2.2.1))), (h7, .inl ((cA 1), 170, .inl v.2.2.2.2.2.2.2.1)), (h8, .inl ((cA 0), 18, .inr (.inl v.2.2.2.2.2.2.2.2.1))), (h9, .inl ((cA 2), 2, .inl v.2.2.2.2.2.2.2.2.2.1)), (h10, .inl ((cA 1), 80, .inl v.2.2.2.2.2.2.2.2.2.2.1)), (h11, .inl ((cA 1), 60, .inl v.2.2.2.2.2.2.2.2.2.2.2.2.2.2.1))] := hD
          refine lv_iconst (v := 0) hx hb dX10_undo_54 (by decide) ?_
          refine lv_istore_n (lv' := [(1, .int (0 : Int32)), (0, .ref h0)]) hx hb dX10_undo_55 rfl hl (by decide) rfl (fun ls hl => ?_)
          have L56 : ∀ (zn : Nat) (k : Nat), 9 - k < zn → (k ≤ 9) → ∀ (H : Heap) (locs : List Loc), va_P D vwCl [(h0, .inr (10, [.ref h1, .ref h2, .ref h3, .ref h4, .ref h5, .ref h6, .int (nI (pm - 1)), .ref h7, .ref h8, .ref h9, .ref h10, .int v.2.2.2.2.2.2.2.2.2.2.2.1, .int v.2.2.2.2.2.2.2.2.2.2.2.2.1, .int v.2.2.2.2.2.2.2.2.2.2.2.2.2.1, .ref h11, .int v.2.2.2.2.2.2.2.2.2.2.2.2.2.2.2])), (h1, .inl ((cA 1), 85, .inl (zrd (85 * (pm - 1)) v.2.2.2.2.1))), (h2, .inl ((cA 0), 9, .inr (.inl (zcp k (zrd (9 * (pm - 1)) v.2.2.2.2.2.1) v.2.1)))), (h3, .inl ((cA 1), 85, .inl v.2.2.1)), (h4, .inl ((cA 0), 9, .inr (.inl v.2.2.2.1))), (h5, .inl ((cA 1), 510, .inl v.2.2.2.2.1)), (h6, .inl ((cA 0), 54, .inr (.inl v.2.2.2.2.2.1))), (h7, .inl ((cA 1), 170, .inl v.2.2.2.2.2.2.2.1)), (h8, .inl ((cA 0), 18, .inr (.inl v.2.2.2.2.2.2.2.2.1))), (h9, .inl ((cA 2), 2, .inl v.2.2.2.2.2.2.2.2.2.1)), (h10, .inl ((cA 1), 80, .inl v.2.2.2.2.2.2.2.2.2.2.1)), (h11, .inl ((cA 1), 60, .inl v.2.2.2.2.2.2.2.2.2.2.2.2.2.2.1))] H → va_D A [(h0, .inr (10, [.ref h1, .ref h2, .ref h3, .ref h4, .ref h5, .ref h6, .int (nI (pm - 1)), .ref h7, .ref h8, .ref h9, .ref h10, .int v.2.2.2.2.2.2.2.2.2.2.2.1, .int v.2.2.2.2.2.2.2.2.2.2.2.2.1, .int v.2.2.2.2.2.2.2.2.2.2.2.2.2.1, .ref h11, .int v.2.2.2.2.2.2.2.2.2.2.2.2.2.2.2])), (h1, .inl ((cA 1), 85, .inl (zrd (85 * (pm - 1)) v.2.2.2.2.1))), (h2, .inl ((cA 0), 9, .inr (.inl (zcp k (zrd (9 * (pm - 1)) v.2.2.2.2.2.1) v.2.1)))), (h3, .inl ((cA 1), 85, .inl v.2.2.1)), (h4, .inl ((cA 0), 9, .inr (.inl v.2.2.2.1))), (h5, .inl ((cA 1), 510, .inl v.2.2.2.2.1)), (h6, .inl ((cA 0), 54, .inr (.inl v.2.2.2.2.2.1))), (h7, .inl ((cA 1), 170, .inl v.2.2.2.2.2.2.2.1)), (h8, .inl ((cA 0), 18, .inr (.inl v.2.2.2.2.2.2.2.2.1))), (h9, .inl ((cA 2), 2, .inl v.2.2.2.2.2.2.2.2.2.1)), (h10, .inl ((cA 1), 80, .inl v.2.2.2.2.2.2.2.2.2.2.1)), (h11, .inl ((cA 1), 60, .inl v.2.2.2.2.2.2.2.2.2.2.2.2.2.2.1))] → va_S A s.heap H locs → ∀ (ls : Array Slot), lv_has ls 2 [(1, .int (nI k)), (0, .ref h0)] → W p l e (headSpec wsX10_undo ({ frames := 0, cells := 0, slots := 0, locals := 0 })).room s m (([.ref h0] : List Value).toArray) below meth c H locs 0 0 Q (F0 m 56 ls []) := by
            intro zn
            induction zn with
            | zero =>
              intro k hm
              exact absurd hm (Nat.not_lt_zero _)
            | succ zn ih =>
              intro k hm hk H locs hP hD hS ls hl
              refine lv_iload_n hx hb dX10_undo_56 rfl (lv_at hl 0 rfl) ?_
              refine lv_bipush (v := 9) hx hb dX10_undo_57 (by decide) ?_
              refine lv_icmp_ge (tgt := 88) hx hb dX10_undo_59 (by decide) (fun c_3 => ?_) (fun c_3 => ?_)
              · skip
                obtain rfl : k = 9 := Nat.le_antisymm hk ((nI_leI (a := 9) (b := k) (by decide) (by omega)).mp c_3)
                have hP := z_reL (g := (zrd (9 * (pm - 1)) v.2.2.2.2.2.1)) hP (k := 2) rfl (fun j hj => by show (zcp 9 (zrd (9 * (pm - 1)) v.2.2.2.2.2.1) v.2.1) j = (zrd (9 * (pm - 1)) v.2.2.2.2.2.1) j; unfold zcp; rw [if_pos hj])
                have hD := hD.set (p := 2) (e := .inl (cA 0, 9, .inr (.inl (zrd (9 * (pm - 1)) v.2.2.2.2.2.1)))) rfl
                have hP : va_P D vwCl [(h0, .inr (10, [.ref h1, .ref h2, .ref h3, .ref h4, .ref h5, .ref h6, .int (nI (pm - 1)), .ref h7, .ref h8, .ref h9, .ref h10, .int v.2.2.2.2.2.2.2.2.2.2.2.1, .int v.2.2.2.2.2.2.2.2.2.2.2.2.1, .int v.2.2.2.2.2.2.2.2.2.2.2.2.2.1, .ref h11, .int v.2.2.2.2.2.2.2.2.2.2.2.2.2.2.2])), (h1, .inl ((cA 1), 85, .inl (zrd (85 * (pm - 1)) v.2.2.2.2.1))), (h2, .inl ((cA 0), 9, .inr (.inl (zrd (9 * (pm - 1)) v.2.2.2.2.2.1)))), (h3, .inl ((cA 1), 85, .inl v.2.2.1)), (h4, .inl ((cA 0), 9, .inr (.inl v.2.2.2.1))), (h5, .inl ((cA 1), 510, .inl v.2.2.2.2.1)), (h6, .inl ((cA 0), 54, .inr (.inl v.2.2.2.2.2.1))), (h7, .inl ((cA 1), 170, .inl v.2.2.2.2.2.2.2.1)), (h8, .inl ((cA 0), 18, .inr (.inl v.2.2.2.2.2.2.2.2.1))), (h9, .inl ((cA 2), 2, .inl v.2.2.2.2.2.2.2.2.2.1)), (h10, .inl ((cA 1), 80, .inl v.2.2.2.2.2.2.2.2.2.2.1)), (h11, .inl ((cA 1), 60, .inl v.2.2.2.2.2.2.2.2.2.2.2.2.2.2.1))] H := hP
                have hD : va_D A [(h0, .inr (10, [.ref h1, .ref h2, .ref h3, .ref h4, .ref h5, .ref h6, .int (nI (pm - 1)), .ref h7, .ref h8, .ref h9, .ref h10, .int v.2.2.2.2.2.2.2.2.2.2.2.1, .int v.2.2.2.2.2.2.2.2.2.2.2.2.1, .int v.2.2.2.2.2.2.2.2.2.2.2.2.2.1, .ref h11, .int v.2.2.2.2.2.2.2.2.2.2.2.2.2.2.2])), (h1, .inl ((cA 1), 85, .inl (zrd (85 * (pm - 1)) v.2.2.2.2.1))), (h2, .inl ((cA 0), 9, .inr (.inl (zrd (9 * (pm - 1)) v.2.2.2.2.2.1)))), (h3, .inl ((cA 1), 85, .inl v.2.2.1)), (h4, .inl ((cA 0), 9, .inr (.inl v.2.2.2.1))), (h5, .inl ((cA 1), 510, .inl v.2.2.2.2.1)), (h6, .inl ((cA 0), 54, .inr (.inl v.2.2.2.2.2.1))), (h7, .inl ((cA 1), 170, .inl v.2.2.2.2.2.2.2.1)), (h8, .inl ((cA 0), 18, .inr (.inl v.2.2.2.2.2.2.2.2.1))), (h9, .inl ((cA 2), 2, .inl v.2.2.2.2.2.2.2.2.2.1)), (h10, .inl ((cA 1), 80, .inl v.2.2.2.2.2.2.2.2.2.2.1)), (h11, .inl ((cA 1), 60, .inl v.2.2.2.2.2.2.2.2.2.2.2.2.2.2.1))] := hD
                refine lv_aload_n hx hb dX10_undo_88 rfl (lv_at hl 1 rfl) ?_
                refine va_get (D := D) (ci := 10) (v := .int (nI (pm - 1))) (C := RX10) (T := TX10) (N := 16) hx hb hts hinX10 hown hK hP 0 rfl rfl 6 (by decide) (hts (.fieldLink RX10 45 "GyroTrainerModel" "pastMany" "I") (List.mem_of_getElem? (i := 1) rfl)) (fun _ h9 => h9) rfl dX10_undo_89 ?_
                have e9 : (fm_undo pm v) = ((nI (pm - 1)), ((zrd (85 * (pm - 1)) v.2.2.2.2.1), (zrd (9 * (pm - 1)) v.2.2.2.2.2.1), v.2.2.1, v.2.2.2.1, v.2.2.2.2.1, v.2.2.2.2.2.1, (nI (pm - 1)), v.2.2.2.2.2.2.2)) := by unfold fm_undo; rw [if_neg (by omega : ¬ pm = 0)]
                have hP9 : va_P D vwCl (wX10 cA h0 h1 h2 h3 h4 h5 h6 h7 h8 h9 h10 h11 (((zrd (85 * (pm - 1)) v.2.2.2.2.1), (zrd (9 * (pm - 1)) v.2.2.2.2.2.1), v.2.2.1, v.2.2.2.1, v.2.2.2.2.1, v.2.2.2.2.2.1, (nI (pm - 1)), v.2.2.2.2.2.2.2) : vX10)) H := hP
                have hD9 : va_D A (wX10 cA h0 h1 h2 h3 h4 h5 h6 h7 h8 h9 h10 h11 (((zrd (85 * (pm - 1)) v.2.2.2.2.1), (zrd (9 * (pm - 1)) v.2.2.2.2.2.1), v.2.2.1, v.2.2.2.1, v.2.2.2.2.1, v.2.2.2.2.2.1, (nI (pm - 1)), v.2.2.2.2.2.2.2) : vX10)) := hD
                subst hQ
                exact W.iret (v := (nI (pm - 1))) hx hb hr (fun t ht hW => ⟨⟨(nI (pm - 1)), ((zrd (85 * (pm - 1)) v.2.2.2.2.1), (zrd (9 * (pm - 1)) v.2.2.2.2.2.1), v.2.2.1, v.2.2.2.1, v.2.2.2.2.1, v.2.2.2.2.2.1, (nI (pm - 1)), v.2.2.2.2.2.2.2), rfl, e9.symm, ⟨by rw [ht]; exact hP9, va_K.moved hW.alike hK, hD9⟩⟩, hS.F ht⟩) hS.2.2 dX10_undo_92
              · skip
                have hkl : k < 9 := Nat.lt_of_not_le (fun h => c_3 (nI_le (a := 9) (b := k) h (by omega)))
                refine lv_aload_n hx hb dX10_undo_62 rfl (lv_at hl 1 rfl) ?_
                refine va_get (D := D) (ci := 10) (v := .ref h2) (C := RX10) (T := TX10) (N := 16) hx hb hts hinX10 hown hK hP 0 rfl rfl 1 (by decide) (hts (.fieldLink RX10 13 "GyroTrainerModel" "sums" "[J") (List.mem_of_getElem? (i := 4) rfl)) (fun _ h9 => h9) rfl dX10_undo_63 ?_
                refine lv_iload_n hx hb dX10_undo_66 rfl (lv_at hl 0 rfl) ?_
                refine lv_aload_n hx hb dX10_undo_67 rfl (lv_at hl 1 rfl) ?_
                refine va_get (D := D) (ci := 10) (v := .ref h6) (C := RX10) (T := TX10) (N := 16) hx hb hts hinX10 hown hK hP 0 rfl rfl 5 (by decide) (hts (.fieldLink RX10 26 "GyroTrainerModel" "pastSums" "[J") (List.mem_of_getElem? (i := 5) rfl)) (fun _ h9 => h9) rfl dX10_undo_68 ?_
                refine lv_bipush (v := 9) hx hb dX10_undo_71 (by decide) ?_
                refine lv_aload_n hx hb dX10_undo_73 rfl (lv_at hl 1 rfl) ?_
                refine va_get (D := D) (ci := 10) (v := .int (nI (pm - 1))) (C := RX10) (T := TX10) (N := 16) hx hb hts hinX10 hown hK hP 0 rfl rfl 6 (by decide) (hts (.fieldLink RX10 45 "GyroTrainerModel" "pastMany" "I") (List.mem_of_getElem? (i := 1) rfl)) (fun _ h9 => h9) rfl dX10_undo_74 ?_
                refine lv_imul hx hb dX10_undo_77 ?_
                refine lv_iload_n hx hb dX10_undo_78 rfl (lv_at hl 0 rfl) ?_
                refine lv_iadd hx hb dX10_undo_79 ?_
                refine z_lald (k := (9 * (pm - 1) + k)) hx hb hK hP 6 0 rfl rfl (zm_mk 9 (pm - 1) k) (by omega) (by decide) dX10_undo_80 ?_
                refine z_last (k := k) hx hb hK hP hD hS 2 0 rfl rfl rfl (by omega) (by decide) dX10_undo_81 (fun g_4 eg_4 H locs hP hD hS => ?_)
                have hP : va_P D vwCl [(h0, .inr (10, [.ref h1, .ref h2, .ref h3, .ref h4, .ref h5, .ref h6, .int (nI (pm - 1)), .ref h7, .ref h8, .ref h9, .ref h10, .int v.2.2.2.2.2.2.2.2.2.2.2.1, .int v.2.2.2.2.2.2.2.2.2.2.2.2.1, .int v.2.2.2.2.2.2.2.2.2.2.2.2.2.1, .ref h11, .int v.2.2.2.2.2.2.2.2.2.2.2.2.2.2.2])), (h1, .inl ((cA 1), 85, .inl (zrd (85 * (pm - 1)) v.2.2.2.2.1))), (h2, .inl ((cA 0), 9, .inr (.inl g_4))), (h3, .inl ((cA 1), 85, .inl v.2.2.1)), (h4, .inl ((cA 0), 9, .inr (.inl v.2.2.2.1))), (h5, .inl ((cA 1), 510, .inl v.2.2.2.2.1)), (h6, .inl ((cA 0), 54, .inr (.inl v.2.2.2.2.2.1))), (h7, .inl ((cA 1), 170, .inl v.2.2.2.2.2.2.2.1)), (h8, .inl ((cA 0), 18, .inr (.inl v.2.2.2.2.2.2.2.2.1))), (h9, .inl ((cA 2), 2, .inl v.2.2.2.2.2.2.2.2.2.1)), (h10, .inl ((cA 1), 80, .inl v.2.2.2.2.2.2.2.2.2.2.1)), (h11, .inl ((cA 1), 60, .inl v.2.2.2.2.2.2.2.2.2.2.2.2.2.2.1))] H := hP
                have hD : va_D A [(h0, .inr (10, [.ref h1, .ref h2, .ref h3, .ref h4, .ref h5, .ref h6, .int (nI (pm - 1)), .ref h7, .ref h8, .ref h9, .ref h10, .int v.2.2.2.2.2.2.2.2.2.2.2.1, .int v.2.2.2.2.2.2.2.2.2.2.2.2.1, .int v.2.2.2.2.2.2.2.2.2.2.2.2.2.1, .ref h11, .int v.2.2.2.2.2.2.2.2.2.2.2.2.2.2.2])), (h1, .inl ((cA 1), 85, .inl (zrd (85 * (pm - 1)) v.2.2.2.2.1))), (h2, .inl ((cA 0), 9, .inr (.inl g_4))), (h3, .inl ((cA 1), 85, .inl v.2.2.1)), (h4, .inl ((cA 0), 9, .inr (.inl v.2.2.2.1))), (h5, .inl ((cA 1), 510, .inl v.2.2.2.2.1)), (h6, .inl ((cA 0), 54, .inr (.inl v.2.2.2.2.2.1))), (h7, .inl ((cA 1), 170, .inl v.2.2.2.2.2.2.2.1)), (h8, .inl ((cA 0), 18, .inr (.inl v.2.2.2.2.2.2.2.2.1))), (h9, .inl ((cA 2), 2, .inl v.2.2.2.2.2.2.2.2.2.1)), (h10, .inl ((cA 1), 80, .inl v.2.2.2.2.2.2.2.2.2.2.1)), (h11, .inl ((cA 1), 60, .inl v.2.2.2.2.2.2.2.2.2.2.2.2.2.2.1))] := hD
                refine lv_iinc (v := (nI (k + 1))) (lv' := [(1, .int (nI (k + 1))), (0, .ref h0)]) hx hb dX10_undo_82 hl (k := 0) rfl (nI_1 k) (by decide) rfl (fun ls hl => ?_)
                refine lv_goto (tgt := 56) hx hb dX10_undo_85 (by decide) ?_
                have e9z : g_4 = zcp (k + 1) (zrd (9 * (pm - 1)) v.2.2.2.2.2.1) v.2.1 := eg_4.trans (zcp_s k (zrd (9 * (pm - 1)) v.2.2.2.2.2.1) v.2.1)
                subst e9z
                exact ih (k + 1) (by omega) (by omega) _ _ hP hD hS ls (lv_sub hl [0, 1] rfl)
          exact L56 (9 + 1) (0) (by omega) (Nat.zero_le _) _ _ (by rw [zcp_0]; exact hP) (by rw [zcp_0]; exact hD) hS ls (lv_sub hl [0, 1] rfl)
        · skip
          have hkl : k < 85 := Nat.lt_of_not_le (fun h => c_2 (nI_le (a := 85) (b := k) h (by omega)))
          refine lv_aload_n hx hb dX10_undo_28 rfl (lv_at hl 1 rfl) ?_
          refine va_get (D := D) (ci := 10) (v := .ref h1) (C := RX10) (T := TX10) (N := 16) hx hb hts hinX10 hown hK hP 0 rfl rfl 0 (by decide) (hts (.fieldLink RX10 7 "GyroTrainerModel" "at" "[I") (List.mem_of_getElem? (i := 2) rfl)) (fun _ h9 => h9) rfl dX10_undo_29 ?_
          refine lv_iload_n hx hb dX10_undo_32 rfl (lv_at hl 0 rfl) ?_
          refine lv_aload_n hx hb dX10_undo_33 rfl (lv_at hl 1 rfl) ?_
          refine va_get (D := D) (ci := 10) (v := .ref h5) (C := RX10) (T := TX10) (N := 16) hx hb hts hinX10 hown hK hP 0 rfl rfl 4 (by decide) (hts (.fieldLink RX10 23 "GyroTrainerModel" "past" "[I") (List.mem_of_getElem? (i := 3) rfl)) (fun _ h9 => h9) rfl dX10_undo_34 ?_
          refine lv_bipush (v := 85) hx hb dX10_undo_37 (by decide) ?_
          refine lv_aload_n hx hb dX10_undo_39 rfl (lv_at hl 1 rfl) ?_
          refine va_get (D := D) (ci := 10) (v := .int (nI (pm - 1))) (C := RX10) (T := TX10) (N := 16) hx hb hts hinX10 hown hK hP 0 rfl rfl 6 (by decide) (hts (.fieldLink RX10 45 "GyroTrainerModel" "pastMany" "I") (List.mem_of_getElem? (i := 1) rfl)) (fun _ h9 => h9) rfl dX10_undo_40 ?_
          refine lv_imul hx hb dX10_undo_43 ?_
          refine lv_iload_n hx hb dX10_undo_44 rfl (lv_at hl 0 rfl) ?_
          refine lv_iadd hx hb dX10_undo_45 ?_
          refine z_iald (k := (85 * (pm - 1) + k)) hx hb hK hP 5 1 rfl rfl (zm_mk 85 (pm - 1) k) (by omega) (by decide) dX10_undo_46 ?_
          refine z_iast (k := k) hx hb hK hP hD hS 1 1 rfl rfl rfl (by omega) (by decide) dX10_undo_47 (fun g_5 eg_5 H locs hP hD hS => ?_)
          have hP : va_P D vwCl [(h0, .inr (10, [.ref h1, .ref h2, .ref h3, .ref h4, .ref h5, .ref h6, .int (nI (pm - 1)), .ref h7, .ref h8, .ref h9, .ref h10, .int v.2.2.2.2.2.2.2.2.2.2.2.1, .int v.2.2.2.2.2.2.2.2.2.2.2.2.1, .int v.2.2.2.2.2.2.2.2.2.2.2.2.2.1, .ref h11, .int v.2.2.2.2.2.2.2.2.2.2.2.2.2.2.2])), (h1, .inl ((cA 1), 85, .inl g_5)), (h2, .inl ((cA 0), 9, .inr (.inl v.2.1))), (h3, .inl ((cA 1), 85, .inl v.2.2.1)), (h4, .inl ((cA 0), 9, .inr (.inl v.2.2.2.1))), (h5, .inl ((cA 1), 510, .inl v.2.2.2.2.1)), (h6, .inl ((cA 0), 54, .inr (.inl v.2.2.2.2.2.1))), (h7, .inl ((cA 1), 170, .inl v.2.2.2.2.2.2.2.1)), (h8, .inl ((cA 0), 18, .inr (.inl v.2.2.2.2.2.2.2.2.1))), (h9, .inl ((cA 2), 2, .inl v.2.2.2.2.2.2.2.2.2.1)), (h10, .inl ((cA 1), 80, .inl v.2.2.2.2.2.2.2.2.2.2.1)), (h11, .inl ((cA 1), 60, .inl v.2.2.2.2.2.2.2.2.2.2.2.2.2.2.1))] H := hP
          have hD : va_D A [(h0, .inr (10, [.ref h1, .ref h2, .ref h3, .ref h4, .ref h5, .ref h6, .int (nI (pm - 1)), .ref h7, .ref h8, .ref h9, .ref h10, .int v.2.2.2.2.2.2.2.2.2.2.2.1, .int v.2.2.2.2.2.2.2.2.2.2.2.2.1, .int v.2.2.2.2.2.2.2.2.2.2.2.2.2.1, .ref h11, .int v.2.2.2.2.2.2.2.2.2.2.2.2.2.2.2])), (h1, .inl ((cA 1), 85, .inl g_5)), (h2, .inl ((cA 0), 9, .inr (.inl v.2.1))), (h3, .inl ((cA 1), 85, .inl v.2.2.1)), (h4, .inl ((cA 0), 9, .inr (.inl v.2.2.2.1))), (h5, .inl ((cA 1), 510, .inl v.2.2.2.2.1)), (h6, .inl ((cA 0), 54, .inr (.inl v.2.2.2.2.2.1))), (h7, .inl ((cA 1), 170, .inl v.2.2.2.2.2.2.2.1)), (h8, .inl ((cA 0), 18, .inr (.inl v.2.2.2.2.2.2.2.2.1))), (h9, .inl ((cA 2), 2, .inl v.2.2.2.2.2.2.2.2.2.1)), (h10, .inl ((cA 1), 80, .inl v.2.2.2.2.2.2.2.2.2.2.1)), (h11, .inl ((cA 1), 60, .inl v.2.2.2.2.2.2.2.2.2.2.2.2.2.2.1))] := hD
          refine lv_iinc (v := (nI (k + 1))) (lv' := [(1, .int (nI (k + 1))), (0, .ref h0)]) hx hb dX10_undo_48 hl (k := 0) rfl (nI_1 k) (by decide) rfl (fun ls hl => ?_)
          refine lv_goto (tgt := 22) hx hb dX10_undo_51 (by decide) ?_
          have e9z : g_5 = zcp (k + 1) (zrd (85 * (pm - 1)) v.2.2.2.2.1) v.1 := eg_5.trans (zcp_sI k (zrd (85 * (pm - 1)) v.2.2.2.2.1) v.1)
          subst e9z
          exact ih (k + 1) (by omega) (by omega) _ _ hP hD hS ls (lv_sub hl [0, 1] rfl)
    exact L22 (85 + 1) (0) (by omega) (Nat.zero_le _) _ _ (by rw [zcp_0]; exact hP) (by rw [zcp_0]; exact hD) hS ls (lv_sub hl [0, 1] rfl)
  · skip
    refine lv_bipush (v := -5) hx hb dX10_undo_7 (by decide) ?_
    have e9 : (fm_undo pm v) = ((-5 : Int32), v) := by unfold fm_undo; rw [if_pos ((nI_eq (a := pm) (b := 0) (by omega) (by decide)).mp (hpm.symm.trans c_1))]
    have hP9 : va_P D vwCl (wX10 cA h0 h1 h2 h3 h4 h5 h6 h7 h8 h9 h10 h11 (v : vX10)) s.heap := hP
    have hD9 : va_D A (wX10 cA h0 h1 h2 h3 h4 h5 h6 h7 h8 h9 h10 h11 (v : vX10)) := hD
    subst hQ
    exact W.iret (v := (-5 : Int32)) hx hb hr (fun t ht hW => ⟨⟨(-5 : Int32), v, rfl, e9.symm, ⟨by rw [ht]; exact hP9, va_K.moved hW.alike hK, hD9⟩⟩, hS.F ht⟩) hS.2.2 dX10_undo_9
set_option maxHeartbeats 4000000 in
set_option maxRecDepth 100000 in
theorem c_X10_save (l : Launch) (D : va_G) (cA : Nat → ClassId) (h0 h1 h2 h3 h4 h5 h6 h7 h8 h9 h10 h11 : Nat) (sz : Nat) (v : vX10) (x1 : Int32)  : Met l yX10_save wsX10_save ({ frames := 1, cells := 0, slots := 0, locals := 22 }) (va_Pc [.ref h0, .int x1] (zPre D (zty cA) (wX10 cA h0 h1 h2 h3 h4 h5 h6 h7 h8 h9 h10 h11 v) sz)) (va_Qi (fun (x : Int32) (u : vX10) => (x, u) = (fm_saveX v x1)) (fun u => zPost D (zty cA) (va_A (wX10 cA h0 h1 h2 h3 h4 h5 h6 h7 h8 h9 h10 h11 v) sz) (wX10 cA h0 h1 h2 h3 h4 h5 h6 h7 h8 h9 h10 h11 u)) (va_A (wX10 cA h0 h1 h2 h3 h4 h5 h6 h7 h8 h9 h10 h11 v) sz)) 0 0 (va_A (wX10 cA h0 h1 h2 h3 h4 h5 h6 h7 h8 h9 h10 h11 v) sz) := by
  refine Met.ofW (cc := cX10_save) (maxL := 3) (ret := (some .int)) (by decide) rfl ?_
  intro p e s m args below meth c s₁ B hml hv
  obtain ⟨rfl, hsz, hP, hK, hD0, hE⟩ := hv
  have hx := B.exec
  have hb := B.bytes
  have hr := B.returns
  have hts := atoms_spec (ws := wsX10_save) B.pre
  have hown : s.vm.findClass RX10 = some m.cls := findClass_of_methodNamed B.named
  have hlocks := B.notSynchronized
  have hinX10 : ∀ w ∈ u_ws RX10 TX10 16, w ∈ wsX10_save := fun w h => List.mem_cons_of_mem _ (List.mem_append_right _ h)
  subst hsz
  have hD := hD0.self (sz := s.heap.size)
  generalize hAe : va_A (wX10 cA h0 h1 h2 h3 h4 h5 h6 h7 h8 h9 h10 h11 v) s.heap.size = A at hD hE ⊢
  have hA : ∀ q : Nat, s.heap.size ≤ q → A q := fun q h => by rw [← hAe]; exact Or.inr h
  have hS : va_S A s.heap s.heap [] := va_S.rf
  have hN : zN s := hE.1
  have hP : va_P D vwCl [(h0, .inr (10, [.ref h1, .ref h2, .ref h3, .ref h4, .ref h5, .ref h6, .int v.2.2.2.2.2.2.1, .ref h7, .ref h8, .ref h9, .ref h10, .int v.2.2.2.2.2.2.2.2.2.2.2.1, .int v.2.2.2.2.2.2.2.2.2.2.2.2.1, .int v.2.2.2.2.2.2.2.2.2.2.2.2.2.1, .ref h11, .int v.2.2.2.2.2.2.2.2.2.2.2.2.2.2.2])), (h1, .inl ((cA 1), 85, .inl v.1)), (h2, .inl ((cA 0), 9, .inr (.inl v.2.1))), (h3, .inl ((cA 1), 85, .inl v.2.2.1)), (h4, .inl ((cA 0), 9, .inr (.inl v.2.2.2.1))), (h5, .inl ((cA 1), 510, .inl v.2.2.2.2.1)), (h6, .inl ((cA 0), 54, .inr (.inl v.2.2.2.2.2.1))), (h7, .inl ((cA 1), 170, .inl v.2.2.2.2.2.2.2.1)), (h8, .inl ((cA 0), 18, .inr (.inl v.2.2.2.2.2.2.2.2.1))), (h9, .inl ((cA 2), 2, .inl v.2.2.2.2.2.2.2.2.2.1)), (h10, .inl ((cA 1), 80, .inl v.2.2.2.2.2.2.2.2.2.2.1)), (h11, .inl ((cA 1), 60, .inl v.2.2.2.2.2.2.2.2.2.2.2.2.2.2.1))] s.heap := hP
  have hD : va_D A [(h0, .inr (10, [.ref h1, .ref h2, .ref h3, .ref h4, .ref h5, .ref h6, .int v.2.2.2.2.2.2.1, .ref h7, .ref h8, .ref h9, .ref h10, .int v.2.2.2.2.2.2.2.2.2.2.2.1, .int v.2.2.2.2.2.2.2.2.2.2.2.2.1, .int v.2.2.2.2.2.2.2.2.2.2.2.2.2.1, .ref h11, .int v.2.2.2.2.2.2.2.2.2.2.2.2.2.2.2])), (h1, .inl ((cA 1), 85, .inl v.1)), (h2, .inl ((cA 0), 9, .inr (.inl v.2.1))), (h3, .inl ((cA 1), 85, .inl v.2.2.1)), (h4, .inl ((cA 0), 9, .inr (.inl v.2.2.2.1))), (h5, .inl ((cA 1), 510, .inl v.2.2.2.2.1)), (h6, .inl ((cA 0), 54, .inr (.inl v.2.2.2.2.2.1))), (h7, .inl ((cA 1), 170, .inl v.2.2.2.2.2.2.2.1)), (h8, .inl ((cA 0), 18, .inr (.inl v.2.2.2.2.2.2.2.2.1))), (h9, .inl ((cA 2), 2, .inl v.2.2.2.2.2.2.2.2.2.1)), (h10, .inl ((cA 1), 80, .inl v.2.2.2.2.2.2.2.2.2.2.1)), (h11, .inl ((cA 1), 60, .inl v.2.2.2.2.2.2.2.2.2.2.2.2.2.2.1))] := hD
  have hl := lv_entry ([.ref h0, .int x1]) (n := 3) (Nat.le_of_ble_eq_true rfl)
  rw [lg_entry_eq]
  generalize (lg_sl ([.ref h0, .int x1]) ++ List.replicate (3 - (lg_sl ([.ref h0, .int x1])).length) Slot.unset).toArray = ls at hl ⊢
  have hl : lv_has ls 3 [(0, .ref h0), (1, .int x1)] := hl
  refine z_genQ (fun Q hQ => ?_)
  refine lv_iload_n hx hb dX10_save_0 rfl (lv_at hl 1 rfl) ?_
  refine lv_iconst (v := 0) hx hb dX10_save_1 (by decide) ?_
  refine lv_iconst (v := 1) hx hb dX10_save_2 (by decide) ?_
  refine z_Ri (va_runS (As := [.int x1, .int (0 : Int32), .int (1 : Int32)]) (rest := []) ⟨hx, hb, hml, hown, hts⟩ (c_X10_in l D cA  x1 (0 : Int32) (1 : Int32)) (va_cwS 3 hts gX10_save_X10_in rfl rfl rfl (by decide +kernel) ⟨Nat.le_of_ble_eq_true rfl, Nat.le_of_ble_eq_true rfl⟩) (zqSR0 hK hN) rfl rfl hl.1 rfl (lv_room (Nat.le_of_ble_eq_true rfl)) dX10_save_3 ⟨Nat.le_of_ble_eq_true rfl, Nat.le_of_ble_eq_true rfl⟩) ?_
  refine lv_if_ne (tgt := 12) hx hb dX10_save_6 (by decide) (fun c_1 => ?_) (fun c_1 => ?_)
  · skip
    obtain ⟨q, hq, eq⟩ := z_ix01 c_1
    subst eq
    refine lv_iconst (v := 0) hx hb dX10_save_12 (by decide) ?_
    refine lv_istore_n (lv' := [(2, .int (0 : Int32)), (0, .ref h0), (1, .int (nI q))]) hx hb dX10_save_13 rfl hl (by decide) rfl (fun ls hl => ?_)
    have L14 : ∀ (zn : Nat) (k : Nat), 85 - k < zn → (k ≤ 85) → ∀ (H : Heap) (locs : List Loc), va_P D vwCl [(h0, .inr (10, [.ref h1, .ref h2, .ref h3, .ref h4, .ref h5, .ref h6, .int v.2.2.2.2.2.2.1, .ref h7, .ref h8, .ref h9, .ref h10, .int v.2.2.2.2.2.2.2.2.2.2.2.1, .int v.2.2.2.2.2.2.2.2.2.2.2.2.1, .int v.2.2.2.2.2.2.2.2.2.2.2.2.2.1, .ref h11, .int v.2.2.2.2.2.2.2.2.2.2.2.2.2.2.2])), (h1, .inl ((cA 1), 85, .inl v.1)), (h2, .inl ((cA 0), 9, .inr (.inl v.2.1))), (h3, .inl ((cA 1), 85, .inl v.2.2.1)), (h4, .inl ((cA 0), 9, .inr (.inl v.2.2.2.1))), (h5, .inl ((cA 1), 510, .inl v.2.2.2.2.1)), (h6, .inl ((cA 0), 54, .inr (.inl v.2.2.2.2.2.1))), (h7, .inl ((cA 1), 170, .inl (zpl (85 * q) k v.2.2.2.2.2.2.2.1 v.1))), (h8, .inl ((cA 0), 18, .inr (.inl v.2.2.2.2.2.2.2.2.1))), (h9, .inl ((cA 2), 2, .inl v.2.2.2.2.2.2.2.2.2.1)), (h10, .inl ((cA 1), 80, .inl v.2.2.2.2.2.2.2.2.2.2.1)), (h11, .inl ((cA 1), 60, .inl v.2.2.2.2.2.2.2.2.2.2.2.2.2.2.1))] H → va_D A [(h0, .inr (10, [.ref h1, .ref h2, .ref h3, .ref h4, .ref h5, .ref h6, .int v.2.2.2.2.2.2.1, .ref h7, .ref h8, .ref h9, .ref h10, .int v.2.2.2.2.2.2.2.2.2.2.2.1, .int v.2.2.2.2.2.2.2.2.2.2.2.2.1, .int v.2.2.2.2.2.2.2.2.2.2.2.2.2.1, .ref h11, .int v.2.2.2.2.2.2.2.2.2.2.2.2.2.2.2])), (h1, .inl ((cA 1), 85, .inl v.1)), (h2, .inl ((cA 0), 9, .inr (.inl v.2.1))), (h3, .inl ((cA 1), 85, .inl v.2.2.1)), (h4, .inl ((cA 0), 9, .inr (.inl v.2.2.2.1))), (h5, .inl ((cA 1), 510, .inl v.2.2.2.2.1)), (h6, .inl ((cA 0), 54, .inr (.inl v.2.2.2.2.2.1))), (h7, .inl ((cA 1), 170, .inl (zpl (85 * q) k v.2.2.2.2.2.2.2.1 v.1))), (h8, .inl ((cA 0), 18, .inr (.inl v.2.2.2.2.2.2.2.2.1))), (h9, .inl ((cA 2), 2, .inl v.2.2.2.2.2.2.2.2.2.1)), (h10, .inl ((cA 1), 80, .inl v.2.2.2.2.2.2.2.2.2.2.1)), (h11, .inl ((cA 1), 60, .inl v.2.2.2.2.2.2.2.2.2.2.2.2.2.2.1))] → va_S A s.heap H locs → ∀ (ls : Array Slot), lv_has ls 3 [(2, .int (nI k)), (0, .ref h0), (1, .int (nI q))] → W p l e (headSpec wsX10_save ({ frames := 1, cells := 0, slots := 0, locals := 22 })).room s m (([.ref h0, .int (nI q)] : List Value).toArray) below meth c H locs 0 0 Q (F0 m 14 ls []) := by
      intro zn
      induction zn with
      | zero =>
        intro k hm
        exact absurd hm (Nat.not_lt_zero _)
      | succ zn ih =>
        intro k hm hk H locs hP hD hS ls hl
        refine lv_iload_n hx hb dX10_save_14 rfl (lv_at hl 0 rfl) ?_
        refine lv_bipush (v := 85) hx hb dX10_save_15 (by decide) ?_
        refine lv_icmp_ge (tgt := 43) hx hb dX10_save_17 (by decide) (fun c_2 => ?_) (fun c_2 => ?_)
        · skip
          obtain rfl : k = 85 := Nat.le_antisymm hk ((nI_leI (a := 85) (b := k) (by decide) (by omega)).mp c_2)
          refine lv_iconst (v := 0) hx hb dX10_save_43 (by decide) ?_
          refine lv_istore_n (lv' := [(2, .int (0 : Int32)), (0, .ref h0), (1, .int (nI q))]) hx hb dX10_save_44 rfl hl (by decide) rfl (fun ls hl => ?_)
          have L45 : ∀ (zn : Nat) (k : Nat), 9 - k < zn → (k ≤ 9) → ∀ (H : Heap) (locs : List Loc), va_P D vwCl [(h0, .inr (10, [.ref h1, .ref h2, .ref h3, .ref h4, .ref h5, .ref h6, .int v.2.2.2.2.2.2.1, .ref h7, .ref h8, .ref h9, .ref h10, .int v.2.2.2.2.2.2.2.2.2.2.2.1, .int v.2.2.2.2.2.2.2.2.2.2.2.2.1, .int v.2.2.2.2.2.2.2.2.2.2.2.2.2.1, .ref h11, .int v.2.2.2.2.2.2.2.2.2.2.2.2.2.2.2])), (h1, .inl ((cA 1), 85, .inl v.1)), (h2, .inl ((cA 0), 9, .inr (.inl v.2.1))), (h3, .inl ((cA 1), 85, .inl v.2.2.1)), (h4, .inl ((cA 0), 9, .inr (.inl v.2.2.2.1))), (h5, .inl ((cA 1), 510, .inl v.2.2.2.2.1)), (h6, .inl ((cA 0), 54, .inr (.inl v.2.2.2.2.2.1))), (h7, .inl ((cA 1), 170, .inl (zpl (85 * q) 85 v.2.2.2.2.2.2.2.1 v.1))), (h8, .inl ((cA 0), 18, .inr (.inl (zpl (9 * q) k v.2.2.2.2.2.2.2.2.1 v.2.1)))), (h9, .inl ((cA 2), 2, .inl v.2.2.2.2.2.2.2.2.2.1)), (h10, .inl ((cA 1), 80, .inl v.2.2.2.2.2.2.2.2.2.2.1)), (h11, .inl ((cA 1), 60, .inl v.2.2.2.2.2.2.2.2.2.2.2.2.2.2.1))] H → va_D A [(h0, .inr (10, [.ref h1, .ref h2, .ref h3, .ref h4, .ref h5, .ref h6, .int v.2.2.2.2.2.2.1, .ref h7, .ref h8, .ref h9, .ref h10, .int v.2.2.2.2.2.2.2.2.2.2.2.1, .int v.2.2.2.2.2.2.2.2.2.2.2.2.1, .int v.2.2.2.2.2.2.2.2.2.2.2.2.2.1, .ref h11, .int v.2.2.2.2.2.2.2.2.2.2.2.2.2.2.2])), (h1, .inl ((cA 1), 85, .inl v.1)), (h2, .inl ((cA 0), 9, .inr (.inl v.2.1))), (h3, .inl ((cA 1), 85, .inl v.2.2.1)), (h4, .inl ((cA 0), 9, .inr (.inl v.2.2.2.1))), (h5, .inl ((cA 1), 510, .inl v.2.2.2.2.1)), (h6, .inl ((cA 0), 54, .inr (.inl v.2.2.2.2.2.1))), (h7, .inl ((cA 1), 170, .inl (zpl (85 * q) 85 v.2.2.2.2.2.2.2.1 v.1))), (h8, .inl ((cA 0), 18, .inr (.inl (zpl (9 * q) k v.2.2.2.2.2.2.2.2.1 v.2.1)))), (h9, .inl ((cA 2), 2, .inl v.2.2.2.2.2.2.2.2.2.1)), (h10, .inl ((cA 1), 80, .inl v.2.2.2.2.2.2.2.2.2.2.1)), (h11, .inl ((cA 1), 60, .inl v.2.2.2.2.2.2.2.2.2.2.2.2.2.2.1))] → va_S A s.heap H locs → ∀ (ls : Array Slot), lv_has ls 3 [(2, .int (nI k)), (0, .ref h0), (1, .int (nI q))] → W p l e (headSpec wsX10_save ({ frames := 1, cells := 0, slots := 0, locals := 22 })).room s m (([.ref h0, .int (nI q)] : List Value).toArray) below meth c H locs 0 0 Q (F0 m 45 ls []) := by
            intro zn
            induction zn with
            | zero =>
              intro k hm
              exact absurd hm (Nat.not_lt_zero _)
            | succ zn ih =>
              intro k hm hk H locs hP hD hS ls hl
              refine lv_iload_n hx hb dX10_save_45 rfl (lv_at hl 0 rfl) ?_
              refine lv_bipush (v := 9) hx hb dX10_save_46 (by decide) ?_
              refine lv_icmp_ge (tgt := 74) hx hb dX10_save_48 (by decide) (fun c_3 => ?_) (fun c_3 => ?_)
              · skip
                obtain rfl : k = 9 := Nat.le_antisymm hk ((nI_leI (a := 9) (b := k) (by decide) (by omega)).mp c_3)
                refine lv_aload_n hx hb dX10_save_74 rfl (lv_at hl 1 rfl) ?_
                refine va_get (D := D) (ci := 10) (v := .ref h9) (C := RX10) (T := TX10) (N := 16) hx hb hts hinX10 hown hK hP 0 rfl rfl 9 (by decide) (hts (.fieldLink RX10 35 "GyroTrainerModel" "isSaved" "[Z") (List.mem_of_getElem? (i := 5) rfl)) (fun _ h9 => h9) rfl dX10_save_75 ?_
                refine lv_iload_n hx hb dX10_save_78 rfl (lv_at hl 2 rfl) ?_
                refine lv_iconst (v := 1) hx hb dX10_save_79 (by decide) ?_
                refine z_zast (k := q) hx hb hK hP hD hS 9 2 rfl rfl (by decide) rfl hq (by decide) dX10_save_80 (fun g_4 eg_4 H locs hP hD hS => ?_)
                have hP : va_P D vwCl [(h0, .inr (10, [.ref h1, .ref h2, .ref h3, .ref h4, .ref h5, .ref h6, .int v.2.2.2.2.2.2.1, .ref h7, .ref h8, .ref h9, .ref h10, .int v.2.2.2.2.2.2.2.2.2.2.2.1, .int v.2.2.2.2.2.2.2.2.2.2.2.2.1, .int v.2.2.2.2.2.2.2.2.2.2.2.2.2.1, .ref h11, .int v.2.2.2.2.2.2.2.2.2.2.2.2.2.2.2])), (h1, .inl ((cA 1), 85, .inl v.1)), (h2, .inl ((cA 0), 9, .inr (.inl v.2.1))), (h3, .inl ((cA 1), 85, .inl v.2.2.1)), (h4, .inl ((cA 0), 9, .inr (.inl v.2.2.2.1))), (h5, .inl ((cA 1), 510, .inl v.2.2.2.2.1)), (h6, .inl ((cA 0), 54, .inr (.inl v.2.2.2.2.2.1))), (h7, .inl ((cA 1), 170, .inl (zpl (85 * q) 85 v.2.2.2.2.2.2.2.1 v.1))), (h8, .inl ((cA 0), 18, .inr (.inl (zpl (9 * q) 9 v.2.2.2.2.2.2.2.2.1 v.2.1)))), (h9, .inl ((cA 2), 2, .inl g_4)), (h10, .inl ((cA 1), 80, .inl v.2.2.2.2.2.2.2.2.2.2.1)), (h11, .inl ((cA 1), 60, .inl v.2.2.2.2.2.2.2.2.2.2.2.2.2.2.1))] H := hP
                have hD : va_D A [(h0, .inr (10, [.ref h1, .ref h2, .ref h3, .ref h4, .ref h5, .ref h6, .int v.2.2.2.2.2.2.1, .ref h7, .ref h8, .ref h9, .ref h10, .int v.2.2.2.2.2.2.2.2.2.2.2.1, .int v.2.2.2.2.2.2.2.2.2.2.2.2.1, .int v.2.2.2.2.2.2.2.2.2.2.2.2.2.1, .ref h11, .int v.2.2.2.2.2.2.2.2.2.2.2.2.2.2.2])), (h1, .inl ((cA 1), 85, .inl v.1)), (h2, .inl ((cA 0), 9, .inr (.inl v.2.1))), (h3, .inl ((cA 1), 85, .inl v.2.2.1)), (h4, .inl ((cA 0), 9, .inr (.inl v.2.2.2.1))), (h5, .inl ((cA 1), 510, .inl v.2.2.2.2.1)), (h6, .inl ((cA 0), 54, .inr (.inl v.2.2.2.2.2.1))), (h7, .inl ((cA 1), 170, .inl (zpl (85 * q) 85 v.2.2.2.2.2.2.2.1 v.1))), (h8, .inl ((cA 0), 18, .inr (.inl (zpl (9 * q) 9 v.2.2.2.2.2.2.2.2.1 v.2.1)))), (h9, .inl ((cA 2), 2, .inl g_4)), (h10, .inl ((cA 1), 80, .inl v.2.2.2.2.2.2.2.2.2.2.1)), (h11, .inl ((cA 1), 60, .inl v.2.2.2.2.2.2.2.2.2.2.2.2.2.2.1))] := hD
                refine lv_aload_n hx hb dX10_save_81 rfl (lv_at hl 1 rfl) ?_
                refine va_get (D := D) (ci := 10) (v := .ref h1) (C := RX10) (T := TX10) (N := 16) hx hb hts hinX10 hown hK hP 0 rfl rfl 0 (by decide) (hts (.fieldLink RX10 7 "GyroTrainerModel" "at" "[I") (List.mem_of_getElem? (i := 2) rfl)) (fun _ h9 => h9) rfl dX10_save_82 ?_
                refine lv_bipush (v := 10) hx hb dX10_save_85 (by decide) ?_
                refine z_iald (k := 10) hx hb hK hP 1 1 rfl rfl rfl (by decide) (by decide) dX10_save_87 ?_
                have e9 : (fm_saveX v (nI q)) = ((v.1 10), (v.1, v.2.1, v.2.2.1, v.2.2.2.1, v.2.2.2.2.1, v.2.2.2.2.2.1, v.2.2.2.2.2.2.1, (zpl (85 * q) 85 v.2.2.2.2.2.2.2.1 v.1), (zpl (9 * q) 9 v.2.2.2.2.2.2.2.2.1 v.2.1), g_4, v.2.2.2.2.2.2.2.2.2.2)) := by unfold fm_saveX; simp only [if_neg c_1, if_pos c_2, if_pos c_3]; rw [nI_clamp (by omega)]; unfold fm_save; rw [eg_4]
                have hP9 : va_P D vwCl (wX10 cA h0 h1 h2 h3 h4 h5 h6 h7 h8 h9 h10 h11 ((v.1, v.2.1, v.2.2.1, v.2.2.2.1, v.2.2.2.2.1, v.2.2.2.2.2.1, v.2.2.2.2.2.2.1, (zpl (85 * q) 85 v.2.2.2.2.2.2.2.1 v.1), (zpl (9 * q) 9 v.2.2.2.2.2.2.2.2.1 v.2.1), g_4, v.2.2.2.2.2.2.2.2.2.2) : vX10)) H := hP
                have hD9 : va_D A (wX10 cA h0 h1 h2 h3 h4 h5 h6 h7 h8 h9 h10 h11 ((v.1, v.2.1, v.2.2.1, v.2.2.2.1, v.2.2.2.2.1, v.2.2.2.2.2.1, v.2.2.2.2.2.2.1, (zpl (85 * q) 85 v.2.2.2.2.2.2.2.1 v.1), (zpl (9 * q) 9 v.2.2.2.2.2.2.2.2.1 v.2.1), g_4, v.2.2.2.2.2.2.2.2.2.2) : vX10)) := hD
                subst hQ
                exact W.iret (v := (v.1 10)) hx hb hr (fun t ht hW => ⟨⟨(v.1 10), (v.1, v.2.1, v.2.2.1, v.2.2.2.1, v.2.2.2.2.1, v.2.2.2.2.2.1, v.2.2.2.2.2.2.1, (zpl (85 * q) 85 v.2.2.2.2.2.2.2.1 v.1), (zpl (9 * q) 9 v.2.2.2.2.2.2.2.2.1 v.2.1), g_4, v.2.2.2.2.2.2.2.2.2.2), rfl, e9.symm, ⟨by rw [ht]; exact hP9, va_K.moved hW.alike hK, hD9⟩⟩, hS.F ht⟩) hS.2.2 dX10_save_88
              · skip
                have hkl : k < 9 := Nat.lt_of_not_le (fun h => c_3 (nI_le (a := 9) (b := k) h (by omega)))
                refine lv_aload_n hx hb dX10_save_51 rfl (lv_at hl 1 rfl) ?_
                refine va_get (D := D) (ci := 10) (v := .ref h8) (C := RX10) (T := TX10) (N := 16) hx hb hts hinX10 hown hK hP 0 rfl rfl 8 (by decide) (hts (.fieldLink RX10 32 "GyroTrainerModel" "slotSums" "[J") (List.mem_of_getElem? (i := 3) rfl)) (fun _ h9 => h9) rfl dX10_save_52 ?_
                refine lv_bipush (v := 9) hx hb dX10_save_55 (by decide) ?_
                refine lv_iload_n hx hb dX10_save_57 rfl (lv_at hl 2 rfl) ?_
                refine lv_imul hx hb dX10_save_58 ?_
                refine lv_iload_n hx hb dX10_save_59 rfl (lv_at hl 0 rfl) ?_
                refine lv_iadd hx hb dX10_save_60 ?_
                refine lv_aload_n hx hb dX10_save_61 rfl (lv_at hl 1 rfl) ?_
                refine va_get (D := D) (ci := 10) (v := .ref h2) (C := RX10) (T := TX10) (N := 16) hx hb hts hinX10 hown hK hP 0 rfl rfl 1 (by decide) (hts (.fieldLink RX10 13 "GyroTrainerModel" "sums" "[J") (List.mem_of_getElem? (i := 4) rfl)) (fun _ h9 => h9) rfl dX10_save_62 ?_
                refine lv_iload_n hx hb dX10_save_65 rfl (lv_at hl 0 rfl) ?_
                refine z_lald (k := k) hx hb hK hP 2 0 rfl rfl rfl (by omega) (by decide) dX10_save_66 ?_
                refine z_last (k := (9 * q + k)) hx hb hK hP hD hS 8 0 rfl rfl (zm_mk 9 q k) (by omega) (by decide) dX10_save_67 (fun g_5 eg_5 H locs hP hD hS => ?_)
                have hP : va_P D vwCl [(h0, .inr (10, [.ref h1, .ref h2, .ref h3, .ref h4, .ref h5, .ref h6, .int v.2.2.2.2.2.2.1, .ref h7, .ref h8, .ref h9, .ref h10, .int v.2.2.2.2.2.2.2.2.2.2.2.1, .int v.2.2.2.2.2.2.2.2.2.2.2.2.1, .int v.2.2.2.2.2.2.2.2.2.2.2.2.2.1, .ref h11, .int v.2.2.2.2.2.2.2.2.2.2.2.2.2.2.2])), (h1, .inl ((cA 1), 85, .inl v.1)), (h2, .inl ((cA 0), 9, .inr (.inl v.2.1))), (h3, .inl ((cA 1), 85, .inl v.2.2.1)), (h4, .inl ((cA 0), 9, .inr (.inl v.2.2.2.1))), (h5, .inl ((cA 1), 510, .inl v.2.2.2.2.1)), (h6, .inl ((cA 0), 54, .inr (.inl v.2.2.2.2.2.1))), (h7, .inl ((cA 1), 170, .inl (zpl (85 * q) 85 v.2.2.2.2.2.2.2.1 v.1))), (h8, .inl ((cA 0), 18, .inr (.inl g_5))), (h9, .inl ((cA 2), 2, .inl v.2.2.2.2.2.2.2.2.2.1)), (h10, .inl ((cA 1), 80, .inl v.2.2.2.2.2.2.2.2.2.2.1)), (h11, .inl ((cA 1), 60, .inl v.2.2.2.2.2.2.2.2.2.2.2.2.2.2.1))] H := hP
                have hD : va_D A [(h0, .inr (10, [.ref h1, .ref h2, .ref h3, .ref h4, .ref h5, .ref h6, .int v.2.2.2.2.2.2.1, .ref h7, .ref h8, .ref h9, .ref h10, .int v.2.2.2.2.2.2.2.2.2.2.2.1, .int v.2.2.2.2.2.2.2.2.2.2.2.2.1, .int v.2.2.2.2.2.2.2.2.2.2.2.2.2.1, .ref h11, .int v.2.2.2.2.2.2.2.2.2.2.2.2.2.2.2])), (h1, .inl ((cA 1), 85, .inl v.1)), (h2, .inl ((cA 0), 9, .inr (.inl v.2.1))), (h3, .inl ((cA 1), 85, .inl v.2.2.1)), (h4, .inl ((cA 0), 9, .inr (.inl v.2.2.2.1))), (h5, .inl ((cA 1), 510, .inl v.2.2.2.2.1)), (h6, .inl ((cA 0), 54, .inr (.inl v.2.2.2.2.2.1))), (h7, .inl ((cA 1), 170, .inl (zpl (85 * q) 85 v.2.2.2.2.2.2.2.1 v.1))), (h8, .inl ((cA 0), 18, .inr (.inl g_5))), (h9, .inl ((cA 2), 2, .inl v.2.2.2.2.2.2.2.2.2.1)), (h10, .inl ((cA 1), 80, .inl v.2.2.2.2.2.2.2.2.2.2.1)), (h11, .inl ((cA 1), 60, .inl v.2.2.2.2.2.2.2.2.2.2.2.2.2.2.1))] := hD
                refine lv_iinc (v := (nI (k + 1))) (lv' := [(2, .int (nI (k + 1))), (0, .ref h0), (1, .int (nI q))]) hx hb dX10_save_68 hl (k := 0) rfl (nI_1 k) (by decide) rfl (fun ls hl => ?_)
                refine lv_goto (tgt := 45) hx hb dX10_save_71 (by decide) ?_
                exact ih (k + 1) (by omega) (by omega) _ _ (by rw [← zpl_sL, ← eg_5]; exact hP) (by rw [← zpl_sL, ← eg_5]; exact hD) hS ls (lv_sub hl [0, 1, 2] rfl)
          exact L45 (9 + 1) (0) (by omega) (Nat.zero_le _) _ _ (by rw [zpl_0]; exact hP) (by rw [zpl_0]; exact hD) hS ls (lv_sub hl [0, 1, 2] rfl)
        · skip
          have hkl : k < 85 := Nat.lt_of_not_le (fun h => c_2 (nI_le (a := 85) (b := k) h (by omega)))
          refine lv_aload_n hx hb dX10_save_20 rfl (lv_at hl 1 rfl) ?_
          refine va_get (D := D) (ci := 10) (v := .ref h7) (C := RX10) (T := TX10) (N := 16) hx hb hts hinX10 hown hK hP 0 rfl rfl 7 (by decide) (hts (.fieldLink RX10 29 "GyroTrainerModel" "slots" "[I") (List.mem_of_getElem? (i := 1) rfl)) (fun _ h9 => h9) rfl dX10_save_21 ?_
          refine lv_bipush (v := 85) hx hb dX10_save_24 (by decide) ?_
          refine lv_iload_n hx hb dX10_save_26 rfl (lv_at hl 2 rfl) ?_
          refine lv_imul hx hb dX10_save_27 ?_
          refine lv_iload_n hx hb dX10_save_28 rfl (lv_at hl 0 rfl) ?_
          refine lv_iadd hx hb dX10_save_29 ?_
          refine lv_aload_n hx hb dX10_save_30 rfl (lv_at hl 1 rfl) ?_
          refine va_get (D := D) (ci := 10) (v := .ref h1) (C := RX10) (T := TX10) (N := 16) hx hb hts hinX10 hown hK hP 0 rfl rfl 0 (by decide) (hts (.fieldLink RX10 7 "GyroTrainerModel" "at" "[I") (List.mem_of_getElem? (i := 2) rfl)) (fun _ h9 => h9) rfl dX10_save_31 ?_
          refine lv_iload_n hx hb dX10_save_34 rfl (lv_at hl 0 rfl) ?_
          refine z_iald (k := k) hx hb hK hP 1 1 rfl rfl rfl (by omega) (by decide) dX10_save_35 ?_
          refine z_iast (k := (85 * q + k)) hx hb hK hP hD hS 7 1 rfl rfl (zm_mk 85 q k) (by omega) (by decide) dX10_save_36 (fun g_6 eg_6 H locs hP hD hS => ?_)
          have hP : va_P D vwCl [(h0, .inr (10, [.ref h1, .ref h2, .ref h3, .ref h4, .ref h5, .ref h6, .int v.2.2.2.2.2.2.1, .ref h7, .ref h8, .ref h9, .ref h10, .int v.2.2.2.2.2.2.2.2.2.2.2.1, .int v.2.2.2.2.2.2.2.2.2.2.2.2.1, .int v.2.2.2.2.2.2.2.2.2.2.2.2.2.1, .ref h11, .int v.2.2.2.2.2.2.2.2.2.2.2.2.2.2.2])), (h1, .inl ((cA 1), 85, .inl v.1)), (h2, .inl ((cA 0), 9, .inr (.inl v.2.1))), (h3, .inl ((cA 1), 85, .inl v.2.2.1)), (h4, .inl ((cA 0), 9, .inr (.inl v.2.2.2.1))), (h5, .inl ((cA 1), 510, .inl v.2.2.2.2.1)), (h6, .inl ((cA 0), 54, .inr (.inl v.2.2.2.2.2.1))), (h7, .inl ((cA 1), 170, .inl g_6)), (h8, .inl ((cA 0), 18, .inr (.inl v.2.2.2.2.2.2.2.2.1))), (h9, .inl ((cA 2), 2, .inl v.2.2.2.2.2.2.2.2.2.1)), (h10, .inl ((cA 1), 80, .inl v.2.2.2.2.2.2.2.2.2.2.1)), (h11, .inl ((cA 1), 60, .inl v.2.2.2.2.2.2.2.2.2.2.2.2.2.2.1))] H := hP
          have hD : va_D A [(h0, .inr (10, [.ref h1, .ref h2, .ref h3, .ref h4, .ref h5, .ref h6, .int v.2.2.2.2.2.2.1, .ref h7, .ref h8, .ref h9, .ref h10, .int v.2.2.2.2.2.2.2.2.2.2.2.1, .int v.2.2.2.2.2.2.2.2.2.2.2.2.1, .int v.2.2.2.2.2.2.2.2.2.2.2.2.2.1, .ref h11, .int v.2.2.2.2.2.2.2.2.2.2.2.2.2.2.2])), (h1, .inl ((cA 1), 85, .inl v.1)), (h2, .inl ((cA 0), 9, .inr (.inl v.2.1))), (h3, .inl ((cA 1), 85, .inl v.2.2.1)), (h4, .inl ((cA 0), 9, .inr (.inl v.2.2.2.1))), (h5, .inl ((cA 1), 510, .inl v.2.2.2.2.1)), (h6, .inl ((cA 0), 54, .inr (.inl v.2.2.2.2.2.1))), (h7, .inl ((cA 1), 170, .inl g_6)), (h8, .inl ((cA 0), 18, .inr (.inl v.2.2.2.2.2.2.2.2.1))), (h9, .inl ((cA 2), 2, .inl v.2.2.2.2.2.2.2.2.2.1)), (h10, .inl ((cA 1), 80, .inl v.2.2.2.2.2.2.2.2.2.2.1)), (h11, .inl ((cA 1), 60, .inl v.2.2.2.2.2.2.2.2.2.2.2.2.2.2.1))] := hD
          refine lv_iinc (v := (nI (k + 1))) (lv' := [(2, .int (nI (k + 1))), (0, .ref h0), (1, .int (nI q))]) hx hb dX10_save_37 hl (k := 0) rfl (nI_1 k) (by decide) rfl (fun ls hl => ?_)
          refine lv_goto (tgt := 14) hx hb dX10_save_40 (by decide) ?_
          exact ih (k + 1) (by omega) (by omega) _ _ (by rw [← zpl_s, ← eg_6]; exact hP) (by rw [← zpl_s, ← eg_6]; exact hD) hS ls (lv_sub hl [0, 1, 2] rfl)
    exact L14 (85 + 1) (0) (by omega) (Nat.zero_le _) _ _ (by rw [zpl_0]; exact hP) (by rw [zpl_0]; exact hD) hS ls (lv_sub hl [0, 1, 2] rfl)
  · skip
    refine lv_bipush (v := -2) hx hb dX10_save_9 (by decide) ?_
    have e9 : (fm_saveX v x1) = ((-2 : Int32), v) := by unfold fm_saveX; simp only [if_pos c_1] <;> rfl
    have hP9 : va_P D vwCl (wX10 cA h0 h1 h2 h3 h4 h5 h6 h7 h8 h9 h10 h11 (v : vX10)) s.heap := hP
    have hD9 : va_D A (wX10 cA h0 h1 h2 h3 h4 h5 h6 h7 h8 h9 h10 h11 (v : vX10)) := hD
    subst hQ
    exact W.iret (v := (-2 : Int32)) hx hb hr (fun t ht hW => ⟨⟨(-2 : Int32), v, rfl, e9.symm, ⟨by rw [ht]; exact hP9, va_K.moved hW.alike hK, hD9⟩⟩, hS.F ht⟩) hS.2.2 dX10_save_11
set_option maxHeartbeats 4000000 in
set_option maxRecDepth 100000 in
theorem c_X10_restore (l : Launch) (D : va_G) (cA : Nat → ClassId) (h0 h1 h2 h3 h4 h5 h6 h7 h8 h9 h10 h11 : Nat) (sz : Nat) (pm : Nat) (v : vX10) (x1 : Int32) (hpm : v.2.2.2.2.2.2.1 = nI pm) (hp6 : pm ≤ 6) : Met l yX10_restore wsX10_restore ({ frames := 1, cells := 0, slots := 0, locals := 22 }) (va_Pc [.ref h0, .int x1] (zPre D (zty cA) (wX10 cA h0 h1 h2 h3 h4 h5 h6 h7 h8 h9 h10 h11 v) sz)) (va_Qi (fun (x : Int32) (u : vX10) => (x, u) = (fm_restX pm v x1)) (fun u => zPost D (zty cA) (va_A (wX10 cA h0 h1 h2 h3 h4 h5 h6 h7 h8 h9 h10 h11 v) sz) (wX10 cA h0 h1 h2 h3 h4 h5 h6 h7 h8 h9 h10 h11 u)) (va_A (wX10 cA h0 h1 h2 h3 h4 h5 h6 h7 h8 h9 h10 h11 v) sz)) 0 0 (va_A (wX10 cA h0 h1 h2 h3 h4 h5 h6 h7 h8 h9 h10 h11 v) sz) := by
  refine Met.ofW (cc := cX10_restore) (maxL := 3) (ret := (some .int)) (by decide) rfl ?_
  intro p e s m args below meth c s₁ B hml hv
  obtain ⟨rfl, hsz, hP, hK, hD0, hE⟩ := hv
  have hx := B.exec
  have hb := B.bytes
  have hr := B.returns
  have hts := atoms_spec (ws := wsX10_restore) B.pre
  have hown : s.vm.findClass RX10 = some m.cls := findClass_of_methodNamed B.named
  have hlocks := B.notSynchronized
  have hinX10 : ∀ w ∈ u_ws RX10 TX10 16, w ∈ wsX10_restore := fun w h => List.mem_cons_of_mem _ (List.mem_append_right _ h)
  subst hsz
  have hD := hD0.self (sz := s.heap.size)
  generalize hAe : va_A (wX10 cA h0 h1 h2 h3 h4 h5 h6 h7 h8 h9 h10 h11 v) s.heap.size = A at hD hE ⊢
  have hA : ∀ q : Nat, s.heap.size ≤ q → A q := fun q h => by rw [← hAe]; exact Or.inr h
  have hS : va_S A s.heap s.heap [] := va_S.rf
  have hN : zN s := hE.1
  have hP : va_P D vwCl [(h0, .inr (10, [.ref h1, .ref h2, .ref h3, .ref h4, .ref h5, .ref h6, .int v.2.2.2.2.2.2.1, .ref h7, .ref h8, .ref h9, .ref h10, .int v.2.2.2.2.2.2.2.2.2.2.2.1, .int v.2.2.2.2.2.2.2.2.2.2.2.2.1, .int v.2.2.2.2.2.2.2.2.2.2.2.2.2.1, .ref h11, .int v.2.2.2.2.2.2.2.2.2.2.2.2.2.2.2])), (h1, .inl ((cA 1), 85, .inl v.1)), (h2, .inl ((cA 0), 9, .inr (.inl v.2.1))), (h3, .inl ((cA 1), 85, .inl v.2.2.1)), (h4, .inl ((cA 0), 9, .inr (.inl v.2.2.2.1))), (h5, .inl ((cA 1), 510, .inl v.2.2.2.2.1)), (h6, .inl ((cA 0), 54, .inr (.inl v.2.2.2.2.2.1))), (h7, .inl ((cA 1), 170, .inl v.2.2.2.2.2.2.2.1)), (h8, .inl ((cA 0), 18, .inr (.inl v.2.2.2.2.2.2.2.2.1))), (h9, .inl ((cA 2), 2, .inl v.2.2.2.2.2.2.2.2.2.1)), (h10, .inl ((cA 1), 80, .inl v.2.2.2.2.2.2.2.2.2.2.1)), (h11, .inl ((cA 1), 60, .inl v.2.2.2.2.2.2.2.2.2.2.2.2.2.2.1))] s.heap := hP
  have hD : va_D A [(h0, .inr (10, [.ref h1, .ref h2, .ref h3, .ref h4, .ref h5, .ref h6, .int v.2.2.2.2.2.2.1, .ref h7, .ref h8, .ref h9, .ref h10, .int v.2.2.2.2.2.2.2.2.2.2.2.1, .int v.2.2.2.2.2.2.2.2.2.2.2.2.1, .int v.2.2.2.2.2.2.2.2.2.2.2.2.2.1, .ref h11, .int v.2.2.2.2.2.2.2.2.2.2.2.2.2.2.2])), (h1, .inl ((cA 1), 85, .inl v.1)), (h2, .inl ((cA 0), 9, .inr (.inl v.2.1))), (h3, .inl ((cA 1), 85, .inl v.2.2.1)), (h4, .inl ((cA 0), 9, .inr (.inl v.2.2.2.1))), (h5, .inl ((cA 1), 510, .inl v.2.2.2.2.1)), (h6, .inl ((cA 0), 54, .inr (.inl v.2.2.2.2.2.1))), (h7, .inl ((cA 1), 170, .inl v.2.2.2.2.2.2.2.1)), (h8, .inl ((cA 0), 18, .inr (.inl v.2.2.2.2.2.2.2.2.1))), (h9, .inl ((cA 2), 2, .inl v.2.2.2.2.2.2.2.2.2.1)), (h10, .inl ((cA 1), 80, .inl v.2.2.2.2.2.2.2.2.2.2.1)), (h11, .inl ((cA 1), 60, .inl v.2.2.2.2.2.2.2.2.2.2.2.2.2.2.1))] := hD
  have hl := lv_entry ([.ref h0, .int x1]) (n := 3) (Nat.le_of_ble_eq_true rfl)
  rw [lg_entry_eq]
  generalize (lg_sl ([.ref h0, .int x1]) ++ List.replicate (3 - (lg_sl ([.ref h0, .int x1])).length) Slot.unset).toArray = ls at hl ⊢
  have hl : lv_has ls 3 [(0, .ref h0), (1, .int x1)] := hl
  refine z_genQ (fun Q hQ => ?_)
  refine lv_iload_n hx hb dX10_restore_0 rfl (lv_at hl 1 rfl) ?_
  refine lv_iconst (v := 0) hx hb dX10_restore_1 (by decide) ?_
  refine lv_iconst (v := 1) hx hb dX10_restore_2 (by decide) ?_
  refine z_Ri (va_runS (As := [.int x1, .int (0 : Int32), .int (1 : Int32)]) (rest := []) ⟨hx, hb, hml, hown, hts⟩ (c_X10_in l D cA  x1 (0 : Int32) (1 : Int32)) (va_cwS 3 hts gX10_restore_X10_in rfl rfl rfl (by decide +kernel) ⟨Nat.le_of_ble_eq_true rfl, Nat.le_of_ble_eq_true rfl⟩) (zqSR0 hK hN) rfl rfl hl.1 rfl (lv_room (Nat.le_of_ble_eq_true rfl)) dX10_restore_3 ⟨Nat.le_of_ble_eq_true rfl, Nat.le_of_ble_eq_true rfl⟩) ?_
  refine lv_if_ne (tgt := 12) hx hb dX10_restore_6 (by decide) (fun c_1 => ?_) (fun c_1 => ?_)
  · skip
    obtain ⟨q, hq, eq⟩ := z_ix01 c_1
    subst eq
    refine lv_aload_n hx hb dX10_restore_12 rfl (lv_at hl 0 rfl) ?_
    refine va_get (D := D) (ci := 10) (v := .ref h9) (C := RX10) (T := TX10) (N := 16) hx hb hts hinX10 hown hK hP 0 rfl rfl 9 (by decide) (hts (.fieldLink RX10 35 "GyroTrainerModel" "isSaved" "[Z") (List.mem_of_getElem? (i := 1) rfl)) (fun _ h9 => h9) rfl dX10_restore_13 ?_
    refine lv_iload_n hx hb dX10_restore_16 rfl (lv_at hl 1 rfl) ?_
    refine z_zald (k := q) hx hb hK hP 9 2 rfl rfl rfl hq (by decide) dX10_restore_17 ?_
    refine lv_if_ne (tgt := 24) hx hb dX10_restore_18 (by decide) (fun c_2 => ?_) (fun c_2 => ?_)
    · skip
      refine lv_aload_n hx hb dX10_restore_24 rfl (lv_at hl 0 rfl) ?_
      refine z_Hv (wt := fun (u_3 : vX10) => [(h0, .inr (10, [.ref h1, .ref h2, .ref h3, .ref h4, .ref h5, .ref h6, .int u_3.2.2.2.2.2.2.1, .ref h7, .ref h8, .ref h9, .ref h10, .int u_3.2.2.2.2.2.2.2.2.2.2.2.1, .int u_3.2.2.2.2.2.2.2.2.2.2.2.2.1, .int u_3.2.2.2.2.2.2.2.2.2.2.2.2.2.1, .ref h11, .int u_3.2.2.2.2.2.2.2.2.2.2.2.2.2.2.2])), (h1, .inl ((cA 1), 85, .inl u_3.1)), (h2, .inl ((cA 0), 9, .inr (.inl u_3.2.1))), (h3, .inl ((cA 1), 85, .inl u_3.2.2.1)), (h4, .inl ((cA 0), 9, .inr (.inl u_3.2.2.2.1))), (h5, .inl ((cA 1), 510, .inl u_3.2.2.2.2.1)), (h6, .inl ((cA 0), 54, .inr (.inl u_3.2.2.2.2.2.1))), (h7, .inl ((cA 1), 170, .inl u_3.2.2.2.2.2.2.2.1)), (h8, .inl ((cA 0), 18, .inr (.inl u_3.2.2.2.2.2.2.2.2.1))), (h9, .inl ((cA 2), 2, .inl u_3.2.2.2.2.2.2.2.2.2.1)), (h10, .inl ((cA 1), 80, .inl u_3.2.2.2.2.2.2.2.2.2.2.1)), (h11, .inl ((cA 1), 60, .inl u_3.2.2.2.2.2.2.2.2.2.2.2.2.2.2.1))]) (va_runV (As := []) (rest := []) ⟨hx, hb, hml, hown, hts⟩ (c_X10_keep l D cA h0 h1 h2 h3 h4 h5 h6 h7 h8 h9 h10 h11 s.heap.size pm v hpm hp6) (cwV 0 hts gX10_restore_X10_keep rfl rfl rfl (by decide +kernel) ⟨Nat.le_of_ble_eq_true rfl, Nat.le_of_ble_eq_true rfl⟩) (zqV hK hP hD hS hA hE (z_c1 (a := []) (b := []) rfl) 0 rfl rfl) rfl rfl hl.1 rfl (lv_room (Nat.le_of_ble_eq_true rfl)) dX10_restore_25 ⟨Nat.le_of_ble_eq_true rfl, Nat.le_of_ble_eq_true rfl⟩) hP hD hS hA (z_c1 (a := []) (b := []) rfl) (fun u_3 => (z_c1' (a := []) (b := []) rfl)) (fun u_3 H locs eu_3 hP hD hS => ?_)
      have hP : va_P D vwCl [(h0, .inr (10, [.ref h1, .ref h2, .ref h3, .ref h4, .ref h5, .ref h6, .int u_3.2.2.2.2.2.2.1, .ref h7, .ref h8, .ref h9, .ref h10, .int u_3.2.2.2.2.2.2.2.2.2.2.2.1, .int u_3.2.2.2.2.2.2.2.2.2.2.2.2.1, .int u_3.2.2.2.2.2.2.2.2.2.2.2.2.2.1, .ref h11, .int u_3.2.2.2.2.2.2.2.2.2.2.2.2.2.2.2])), (h1, .inl ((cA 1), 85, .inl u_3.1)), (h2, .inl ((cA 0), 9, .inr (.inl u_3.2.1))), (h3, .inl ((cA 1), 85, .inl u_3.2.2.1)), (h4, .inl ((cA 0), 9, .inr (.inl u_3.2.2.2.1))), (h5, .inl ((cA 1), 510, .inl u_3.2.2.2.2.1)), (h6, .inl ((cA 0), 54, .inr (.inl u_3.2.2.2.2.2.1))), (h7, .inl ((cA 1), 170, .inl u_3.2.2.2.2.2.2.2.1)), (h8, .inl ((cA 0), 18, .inr (.inl u_3.2.2.2.2.2.2.2.2.1))), (h9, .inl ((cA 2), 2, .inl u_3.2.2.2.2.2.2.2.2.2.1)), (h10, .inl ((cA 1), 80, .inl u_3.2.2.2.2.2.2.2.2.2.2.1)), (h11, .inl ((cA 1), 60, .inl u_3.2.2.2.2.2.2.2.2.2.2.2.2.2.2.1))] H := hP
      have hD : va_D A [(h0, .inr (10, [.ref h1, .ref h2, .ref h3, .ref h4, .ref h5, .ref h6, .int u_3.2.2.2.2.2.2.1, .ref h7, .ref h8, .ref h9, .ref h10, .int u_3.2.2.2.2.2.2.2.2.2.2.2.1, .int u_3.2.2.2.2.2.2.2.2.2.2.2.2.1, .int u_3.2.2.2.2.2.2.2.2.2.2.2.2.2.1, .ref h11, .int u_3.2.2.2.2.2.2.2.2.2.2.2.2.2.2.2])), (h1, .inl ((cA 1), 85, .inl u_3.1)), (h2, .inl ((cA 0), 9, .inr (.inl u_3.2.1))), (h3, .inl ((cA 1), 85, .inl u_3.2.2.1)), (h4, .inl ((cA 0), 9, .inr (.inl u_3.2.2.2.1))), (h5, .inl ((cA 1), 510, .inl u_3.2.2.2.2.1)), (h6, .inl ((cA 0), 54, .inr (.inl u_3.2.2.2.2.2.1))), (h7, .inl ((cA 1), 170, .inl u_3.2.2.2.2.2.2.2.1)), (h8, .inl ((cA 0), 18, .inr (.inl u_3.2.2.2.2.2.2.2.2.1))), (h9, .inl ((cA 2), 2, .inl u_3.2.2.2.2.2.2.2.2.2.1)), (h10, .inl ((cA 1), 80, .inl u_3.2.2.2.2.2.2.2.2.2.2.1)), (h11, .inl ((cA 1), 60, .inl u_3.2.2.2.2.2.2.2.2.2.2.2.2.2.2.1))] := hD
      refine lv_iconst (v := 0) hx hb dX10_restore_28 (by decide) ?_
      refine lv_istore_n (lv' := [(2, .int (0 : Int32)), (0, .ref h0), (1, .int (nI q))]) hx hb dX10_restore_29 rfl hl (by decide) rfl (fun ls hl => ?_)
      have L30 : ∀ (zn : Nat) (k : Nat), 85 - k < zn → (k ≤ 85) → ∀ (H : Heap) (locs : List Loc), va_P D vwCl [(h0, .inr (10, [.ref h1, .ref h2, .ref h3, .ref h4, .ref h5, .ref h6, .int u_3.2.2.2.2.2.2.1, .ref h7, .ref h8, .ref h9, .ref h10, .int u_3.2.2.2.2.2.2.2.2.2.2.2.1, .int u_3.2.2.2.2.2.2.2.2.2.2.2.2.1, .int u_3.2.2.2.2.2.2.2.2.2.2.2.2.2.1, .ref h11, .int u_3.2.2.2.2.2.2.2.2.2.2.2.2.2.2.2])), (h1, .inl ((cA 1), 85, .inl (zcp k (zrd (85 * q) u_3.2.2.2.2.2.2.2.1) u_3.1))), (h2, .inl ((cA 0), 9, .inr (.inl u_3.2.1))), (h3, .inl ((cA 1), 85, .inl u_3.2.2.1)), (h4, .inl ((cA 0), 9, .inr (.inl u_3.2.2.2.1))), (h5, .inl ((cA 1), 510, .inl u_3.2.2.2.2.1)), (h6, .inl ((cA 0), 54, .inr (.inl u_3.2.2.2.2.2.1))), (h7, .inl ((cA 1), 170, .inl u_3.2.2.2.2.2.2.2.1)), (h8, .inl ((cA 0), 18, .inr (.inl u_3.2.2.2.2.2.2.2.2.1))), (h9, .inl ((cA 2), 2, .inl u_3.2.2.2.2.2.2.2.2.2.1)), (h10, .inl ((cA 1), 80, .inl u_3.2.2.2.2.2.2.2.2.2.2.1)), (h11, .inl ((cA 1), 60, .inl u_3.2.2.2.2.2.2.2.2.2.2.2.2.2.2.1))] H → va_D A [(h0, .inr (10, [.ref h1, .ref h2, .ref h3, .ref h4, .ref h5, .ref h6, .int u_3.2.2.2.2.2.2.1, .ref h7, .ref h8, .ref h9, .ref h10, .int u_3.2.2.2.2.2.2.2.2.2.2.2.1, .int u_3.2.2.2.2.2.2.2.2.2.2.2.2.1, .int u_3.2.2.2.2.2.2.2.2.2.2.2.2.2.1, .ref h11, .int u_3.2.2.2.2.2.2.2.2.2.2.2.2.2.2.2])), (h1, .inl ((cA 1), 85, .inl (zcp k (zrd (85 * q) u_3.2.2.2.2.2.2.2.1) u_3.1))), (h2, .inl ((cA 0), 9, .inr (.inl u_3.2.1))), (h3, .inl ((cA 1), 85, .inl u_3.2.2.1)), (h4, .inl ((cA 0), 9, .inr (.inl u_3.2.2.2.1))), (h5, .inl ((cA 1), 510, .inl u_3.2.2.2.2.1)), (h6, .inl ((cA 0), 54, .inr (.inl u_3.2.2.2.2.2.1))), (h7, .inl ((cA 1), 170, .inl u_3.2.2.2.2.2.2.2.1)), (h8, .inl ((cA 0), 18, .inr (.inl u_3.2.2.2.2.2.2.2.2.1))), (h9, .inl ((cA 2), 2, .inl u_3.2.2.2.2.2.2.2.2.2.1)), (h10, .inl ((cA 1), 80, .inl u_3.2.2.2.2.2.2.2.2.2.2.1)), (h11, .inl ((cA 1), 60, .inl u_3.2.2.2.2.2.2.2.2.2.2.2.2.2.2.1))] → va_S A s.heap H locs → ∀ (ls : Array Slot), lv_has ls 3 [(2, .int (nI k)), (0, .ref h0), (1, .int (nI q))] → W p l e (headSpec wsX10_restore ({ frames := 1, cells := 0, slots := 0, locals := 22 })).room s m (([.ref h0, .int (nI q)] : List Value).toArray) below meth c H locs 0 0 Q (F0 m 30 ls []) := by
        intro zn
        induction zn with
        | zero =>
          intro k hm
          exact absurd hm (Nat.not_lt_zero _)
        | succ zn ih =>
          intro k hm hk H locs hP hD hS ls hl
          refine lv_iload_n hx hb dX10_restore_30 rfl (lv_at hl 0 rfl) ?_
          refine lv_bipush (v := 85) hx hb dX10_restore_31 (by decide) ?_
          refine lv_icmp_ge (tgt := 59) hx hb dX10_restore_33 (by decide) (fun c_5 => ?_) (fun c_5 => ?_)
          · skip
            obtain rfl : k = 85 := Nat.le_antisymm hk ((nI_leI (a := 85) (b := k) (by decide) (by omega)).mp c_5)
            have hP := z_reI (g := (zrd (85 * q) u_3.2.2.2.2.2.2.2.1)) hP (k := 1) rfl (fun j hj => by show (zcp 85 (zrd (85 * q) u_3.2.2.2.2.2.2.2.1) u_3.1) j = (zrd (85 * q) u_3.2.2.2.2.2.2.2.1) j; unfold zcp; rw [if_pos hj])
            have hD := hD.set (p := 1) (e := .inl (cA 1, 85, .inl (zrd (85 * q) u_3.2.2.2.2.2.2.2.1))) rfl
            have hP : va_P D vwCl [(h0, .inr (10, [.ref h1, .ref h2, .ref h3, .ref h4, .ref h5, .ref h6, .int u_3.2.2.2.2.2.2.1, .ref h7, .ref h8, .ref h9, .ref h10, .int u_3.2.2.2.2.2.2.2.2.2.2.2.1, .int u_3.2.2.2.2.2.2.2.2.2.2.2.2.1, .int u_3.2.2.2.2.2.2.2.2.2.2.2.2.2.1, .ref h11, .int u_3.2.2.2.2.2.2.2.2.2.2.2.2.2.2.2])), (h1, .inl ((cA 1), 85, .inl (zrd (85 * q) u_3.2.2.2.2.2.2.2.1))), (h2, .inl ((cA 0), 9, .inr (.inl u_3.2.1))), (h3, .inl ((cA 1), 85, .inl u_3.2.2.1)), (h4, .inl ((cA 0), 9, .inr (.inl u_3.2.2.2.1))), (h5, .inl ((cA 1), 510, .inl u_3.2.2.2.2.1)), (h6, .inl ((cA 0), 54, .inr (.inl u_3.2.2.2.2.2.1))), (h7, .inl ((cA 1), 170, .inl u_3.2.2.2.2.2.2.2.1)), (h8, .inl ((cA 0), 18, .inr (.inl u_3.2.2.2.2.2.2.2.2.1))), (h9, .inl ((cA 2), 2, .inl u_3.2.2.2.2.2.2.2.2.2.1)), (h10, .inl ((cA 1), 80, .inl u_3.2.2.2.2.2.2.2.2.2.2.1)), (h11, .inl ((cA 1), 60, .inl u_3.2.2.2.2.2.2.2.2.2.2.2.2.2.2.1))] H := hP
            have hD : va_D A [(h0, .inr (10, [.ref h1, .ref h2, .ref h3, .ref h4, .ref h5, .ref h6, .int u_3.2.2.2.2.2.2.1, .ref h7, .ref h8, .ref h9, .ref h10, .int u_3.2.2.2.2.2.2.2.2.2.2.2.1, .int u_3.2.2.2.2.2.2.2.2.2.2.2.2.1, .int u_3.2.2.2.2.2.2.2.2.2.2.2.2.2.1, .ref h11, .int u_3.2.2.2.2.2.2.2.2.2.2.2.2.2.2.2])), (h1, .inl ((cA 1), 85, .inl (zrd (85 * q) u_3.2.2.2.2.2.2.2.1))), (h2, .inl ((cA 0), 9, .inr (.inl u_3.2.1))), (h3, .inl ((cA 1), 85, .inl u_3.2.2.1)), (h4, .inl ((cA 0), 9, .inr (.inl u_3.2.2.2.1))), (h5, .inl ((cA 1), 510, .inl u_3.2.2.2.2.1)), (h6, .inl ((cA 0), 54, .inr (.inl u_3.2.2.2.2.2.1))), (h7, .inl ((cA 1), 170, .inl u_3.2.2.2.2.2.2.2.1)), (h8, .inl ((cA 0), 18, .inr (.inl u_3.2.2.2.2.2.2.2.2.1))), (h9, .inl ((cA 2), 2, .inl u_3.2.2.2.2.2.2.2.2.2.1)), (h10, .inl ((cA 1), 80, .inl u_3.2.2.2.2.2.2.2.2.2.2.1)), (h11, .inl ((cA 1), 60, .inl u_3.2.2.2.2.2.2.2.2.2.2.2.2.2.2.1))] := hD
            refine lv_iconst (v := 0) hx hb dX10_restore_59 (by decide) ?_
            refine lv_istore_n (lv' := [(2, .int (0 : Int32)), (0, .ref h0), (1, .int (nI q))]) hx hb dX10_restore_60 rfl hl (by decide) rfl (fun ls hl => ?_)
            have L61 : ∀ (zn : Nat) (k : Nat), 9 - k < zn → (k ≤ 9) → ∀ (H : Heap) (locs : List Loc), va_P D vwCl [(h0, .inr (10, [.ref h1, .ref h2, .ref h3, .ref h4, .ref h5, .ref h6, .int u_3.2.2.2.2.2.2.1, .ref h7, .ref h8, .ref h9, .ref h10, .int u_3.2.2.2.2.2.2.2.2.2.2.2.1, .int u_3.2.2.2.2.2.2.2.2.2.2.2.2.1, .int u_3.2.2.2.2.2.2.2.2.2.2.2.2.2.1, .ref h11, .int u_3.2.2.2.2.2.2.2.2.2.2.2.2.2.2.2])), (h1, .inl ((cA 1), 85, .inl (zrd (85 * q) u_3.2.2.2.2.2.2.2.1))), (h2, .inl ((cA 0), 9, .inr (.inl (zcp k (zrd (9 * q) u_3.2.2.2.2.2.2.2.2.1) u_3.2.1)))), (h3, .inl ((cA 1), 85, .inl u_3.2.2.1)), (h4, .inl ((cA 0), 9, .inr (.inl u_3.2.2.2.1))), (h5, .inl ((cA 1), 510, .inl u_3.2.2.2.2.1)), (h6, .inl ((cA 0), 54, .inr (.inl u_3.2.2.2.2.2.1))), (h7, .inl ((cA 1), 170, .inl u_3.2.2.2.2.2.2.2.1)), (h8, .inl ((cA 0), 18, .inr (.inl u_3.2.2.2.2.2.2.2.2.1))), (h9, .inl ((cA 2), 2, .inl u_3.2.2.2.2.2.2.2.2.2.1)), (h10, .inl ((cA 1), 80, .inl u_3.2.2.2.2.2.2.2.2.2.2.1)), (h11, .inl ((cA 1), 60, .inl u_3.2.2.2.2.2.2.2.2.2.2.2.2.2.2.1))] H → va_D A [(h0, .inr (10, [.ref h1, .ref h2, .ref h3, .ref h4, .ref h5, .ref h6, .int u_3.2.2.2.2.2.2.1, .ref h7, .ref h8, .ref h9, .ref h10, .int u_3.2.2.2.2.2.2.2.2.2.2.2.1, .int u_3.2.2.2.2.2.2.2.2.2.2.2.2.1, .int u_3.2.2.2.2.2.2.2.2.2.2.2.2.2.1, .ref h11, .int u_3.2.2.2.2.2.2.2.2.2.2.2.2.2.2.2])), (h1, .inl ((cA 1), 85, .inl (zrd (85 * q) u_3.2.2.2.2.2.2.2.1))), (h2, .inl ((cA 0), 9, .inr (.inl (zcp k (zrd (9 * q) u_3.2.2.2.2.2.2.2.2.1) u_3.2.1)))), (h3, .inl ((cA 1), 85, .inl u_3.2.2.1)), (h4, .inl ((cA 0), 9, .inr (.inl u_3.2.2.2.1))), (h5, .inl ((cA 1), 510, .inl u_3.2.2.2.2.1)), (h6, .inl ((cA 0), 54, .inr (.inl u_3.2.2.2.2.2.1))), (h7, .inl ((cA 1), 170, .inl u_3.2.2.2.2.2.2.2.1)), (h8, .inl ((cA 0), 18, .inr (.inl u_3.2.2.2.2.2.2.2.2.1))), (h9, .inl ((cA 2), 2, .inl u_3.2.2.2.2.2.2.2.2.2.1)), (h10, .inl ((cA 1), 80, .inl u_3.2.2.2.2.2.2.2.2.2.2.1)), (h11, .inl ((cA 1), 60, .inl u_3.2.2.2.2.2.2.2.2.2.2.2.2.2.2.1))] → va_S A s.heap H locs → ∀ (ls : Array Slot), lv_has ls 3 [(2, .int (nI k)), (0, .ref h0), (1, .int (nI q))] → W p l e (headSpec wsX10_restore ({ frames := 1, cells := 0, slots := 0, locals := 22 })).room s m (([.ref h0, .int (nI q)] : List Value).toArray) below meth c H locs 0 0 Q (F0 m 61 ls []) := by
              intro zn
              induction zn with
              | zero =>
                intro k hm
                exact absurd hm (Nat.not_lt_zero _)
              | succ zn ih =>
                intro k hm hk H locs hP hD hS ls hl
                refine lv_iload_n hx hb dX10_restore_61 rfl (lv_at hl 0 rfl) ?_
                refine lv_bipush (v := 9) hx hb dX10_restore_62 (by decide) ?_
                refine lv_icmp_ge (tgt := 90) hx hb dX10_restore_64 (by decide) (fun c_6 => ?_) (fun c_6 => ?_)
                · skip
                  obtain rfl : k = 9 := Nat.le_antisymm hk ((nI_leI (a := 9) (b := k) (by decide) (by omega)).mp c_6)
                  have hP := z_reL (g := (zrd (9 * q) u_3.2.2.2.2.2.2.2.2.1)) hP (k := 2) rfl (fun j hj => by show (zcp 9 (zrd (9 * q) u_3.2.2.2.2.2.2.2.2.1) u_3.2.1) j = (zrd (9 * q) u_3.2.2.2.2.2.2.2.2.1) j; unfold zcp; rw [if_pos hj])
                  have hD := hD.set (p := 2) (e := .inl (cA 0, 9, .inr (.inl (zrd (9 * q) u_3.2.2.2.2.2.2.2.2.1)))) rfl
                  have hP : va_P D vwCl [(h0, .inr (10, [.ref h1, .ref h2, .ref h3, .ref h4, .ref h5, .ref h6, .int u_3.2.2.2.2.2.2.1, .ref h7, .ref h8, .ref h9, .ref h10, .int u_3.2.2.2.2.2.2.2.2.2.2.2.1, .int u_3.2.2.2.2.2.2.2.2.2.2.2.2.1, .int u_3.2.2.2.2.2.2.2.2.2.2.2.2.2.1, .ref h11, .int u_3.2.2.2.2.2.2.2.2.2.2.2.2.2.2.2])), (h1, .inl ((cA 1), 85, .inl (zrd (85 * q) u_3.2.2.2.2.2.2.2.1))), (h2, .inl ((cA 0), 9, .inr (.inl (zrd (9 * q) u_3.2.2.2.2.2.2.2.2.1)))), (h3, .inl ((cA 1), 85, .inl u_3.2.2.1)), (h4, .inl ((cA 0), 9, .inr (.inl u_3.2.2.2.1))), (h5, .inl ((cA 1), 510, .inl u_3.2.2.2.2.1)), (h6, .inl ((cA 0), 54, .inr (.inl u_3.2.2.2.2.2.1))), (h7, .inl ((cA 1), 170, .inl u_3.2.2.2.2.2.2.2.1)), (h8, .inl ((cA 0), 18, .inr (.inl u_3.2.2.2.2.2.2.2.2.1))), (h9, .inl ((cA 2), 2, .inl u_3.2.2.2.2.2.2.2.2.2.1)), (h10, .inl ((cA 1), 80, .inl u_3.2.2.2.2.2.2.2.2.2.2.1)), (h11, .inl ((cA 1), 60, .inl u_3.2.2.2.2.2.2.2.2.2.2.2.2.2.2.1))] H := hP
                  have hD : va_D A [(h0, .inr (10, [.ref h1, .ref h2, .ref h3, .ref h4, .ref h5, .ref h6, .int u_3.2.2.2.2.2.2.1, .ref h7, .ref h8, .ref h9, .ref h10, .int u_3.2.2.2.2.2.2.2.2.2.2.2.1, .int u_3.2.2.2.2.2.2.2.2.2.2.2.2.1, .int u_3.2.2.2.2.2.2.2.2.2.2.2.2.2.1, .ref h11, .int u_3.2.2.2.2.2.2.2.2.2.2.2.2.2.2.2])), (h1, .inl ((cA 1), 85, .inl (zrd (85 * q) u_3.2.2.2.2.2.2.2.1))), (h2, .inl ((cA 0), 9, .inr (.inl (zrd (9 * q) u_3.2.2.2.2.2.2.2.2.1)))), (h3, .inl ((cA 1), 85, .inl u_3.2.2.1)), (h4, .inl ((cA 0), 9, .inr (.inl u_3.2.2.2.1))), (h5, .inl ((cA 1), 510, .inl u_3.2.2.2.2.1)), (h6, .inl ((cA 0), 54, .inr (.inl u_3.2.2.2.2.2.1))), (h7, .inl ((cA 1), 170, .inl u_3.2.2.2.2.2.2.2.1)), (h8, .inl ((cA 0), 18, .inr (.inl u_3.2.2.2.2.2.2.2.2.1))), (h9, .inl ((cA 2), 2, .inl u_3.2.2.2.2.2.2.2.2.2.1)), (h10, .inl ((cA 1), 80, .inl u_3.2.2.2.2.2.2.2.2.2.2.1)), (h11, .inl ((cA 1), 60, .inl u_3.2.2.2.2.2.2.2.2.2.2.2.2.2.2.1))] := hD
                  refine lv_aload_n hx hb dX10_restore_90 rfl (lv_at hl 1 rfl) ?_
                  refine va_get (D := D) (ci := 10) (v := .ref h1) (C := RX10) (T := TX10) (N := 16) hx hb hts hinX10 hown hK hP 0 rfl rfl 0 (by decide) (hts (.fieldLink RX10 7 "GyroTrainerModel" "at" "[I") (List.mem_of_getElem? (i := 2) rfl)) (fun _ h9 => h9) rfl dX10_restore_91 ?_
                  refine lv_bipush (v := 10) hx hb dX10_restore_94 (by decide) ?_
                  refine z_iald (k := 10) hx hb hK hP 1 1 rfl rfl rfl (by decide) (by decide) dX10_restore_96 ?_
                  have e9 : (fm_restX pm v (nI q)) = (((zrd (85 * q) u_3.2.2.2.2.2.2.2.1) 10), ((zrd (85 * q) u_3.2.2.2.2.2.2.2.1), (zrd (9 * q) u_3.2.2.2.2.2.2.2.2.1), u_3.2.2)) := by unfold fm_restX; simp only [if_neg c_1]; rw [nI_clamp (by omega)]; unfold fm_restore; rw [if_neg c_2, ← eu_3]
                  have hP9 : va_P D vwCl (wX10 cA h0 h1 h2 h3 h4 h5 h6 h7 h8 h9 h10 h11 (((zrd (85 * q) u_3.2.2.2.2.2.2.2.1), (zrd (9 * q) u_3.2.2.2.2.2.2.2.2.1), u_3.2.2) : vX10)) H := hP
                  have hD9 : va_D A (wX10 cA h0 h1 h2 h3 h4 h5 h6 h7 h8 h9 h10 h11 (((zrd (85 * q) u_3.2.2.2.2.2.2.2.1), (zrd (9 * q) u_3.2.2.2.2.2.2.2.2.1), u_3.2.2) : vX10)) := hD
                  subst hQ
                  exact W.iret (v := ((zrd (85 * q) u_3.2.2.2.2.2.2.2.1) 10)) hx hb hr (fun t ht hW => ⟨⟨((zrd (85 * q) u_3.2.2.2.2.2.2.2.1) 10), ((zrd (85 * q) u_3.2.2.2.2.2.2.2.1), (zrd (9 * q) u_3.2.2.2.2.2.2.2.2.1), u_3.2.2), rfl, e9.symm, ⟨by rw [ht]; exact hP9, va_K.moved hW.alike hK, hD9⟩⟩, hS.F ht⟩) hS.2.2 dX10_restore_97
                · skip
                  have hkl : k < 9 := Nat.lt_of_not_le (fun h => c_6 (nI_le (a := 9) (b := k) h (by omega)))
                  refine lv_aload_n hx hb dX10_restore_67 rfl (lv_at hl 1 rfl) ?_
                  refine va_get (D := D) (ci := 10) (v := .ref h2) (C := RX10) (T := TX10) (N := 16) hx hb hts hinX10 hown hK hP 0 rfl rfl 1 (by decide) (hts (.fieldLink RX10 13 "GyroTrainerModel" "sums" "[J") (List.mem_of_getElem? (i := 4) rfl)) (fun _ h9 => h9) rfl dX10_restore_68 ?_
                  refine lv_iload_n hx hb dX10_restore_71 rfl (lv_at hl 0 rfl) ?_
                  refine lv_aload_n hx hb dX10_restore_72 rfl (lv_at hl 1 rfl) ?_
                  refine va_get (D := D) (ci := 10) (v := .ref h8) (C := RX10) (T := TX10) (N := 16) hx hb hts hinX10 hown hK hP 0 rfl rfl 8 (by decide) (hts (.fieldLink RX10 32 "GyroTrainerModel" "slotSums" "[J") (List.mem_of_getElem? (i := 5) rfl)) (fun _ h9 => h9) rfl dX10_restore_73 ?_
                  refine lv_bipush (v := 9) hx hb dX10_restore_76 (by decide) ?_
                  refine lv_iload_n hx hb dX10_restore_78 rfl (lv_at hl 2 rfl) ?_
                  refine lv_imul hx hb dX10_restore_79 ?_
                  refine lv_iload_n hx hb dX10_restore_80 rfl (lv_at hl 0 rfl) ?_
                  refine lv_iadd hx hb dX10_restore_81 ?_
                  refine z_lald (k := (9 * q + k)) hx hb hK hP 8 0 rfl rfl (zm_mk 9 q k) (by omega) (by decide) dX10_restore_82 ?_
                  refine z_last (k := k) hx hb hK hP hD hS 2 0 rfl rfl rfl (by omega) (by decide) dX10_restore_83 (fun g_7 eg_7 H locs hP hD hS => ?_)
                  have hP : va_P D vwCl [(h0, .inr (10, [.ref h1, .ref h2, .ref h3, .ref h4, .ref h5, .ref h6, .int u_3.2.2.2.2.2.2.1, .ref h7, .ref h8, .ref h9, .ref h10, .int u_3.2.2.2.2.2.2.2.2.2.2.2.1, .int u_3.2.2.2.2.2.2.2.2.2.2.2.2.1, .int u_3.2.2.2.2.2.2.2.2.2.2.2.2.2.1, .ref h11, .int u_3.2.2.2.2.2.2.2.2.2.2.2.2.2.2.2])), (h1, .inl ((cA 1), 85, .inl (zrd (85 * q) u_3.2.2.2.2.2.2.2.1))), (h2, .inl ((cA 0), 9, .inr (.inl g_7))), (h3, .inl ((cA 1), 85, .inl u_3.2.2.1)), (h4, .inl ((cA 0), 9, .inr (.inl u_3.2.2.2.1))), (h5, .inl ((cA 1), 510, .inl u_3.2.2.2.2.1)), (h6, .inl ((cA 0), 54, .inr (.inl u_3.2.2.2.2.2.1))), (h7, .inl ((cA 1), 170, .inl u_3.2.2.2.2.2.2.2.1)), (h8, .inl ((cA 0), 18, .inr (.inl u_3.2.2.2.2.2.2.2.2.1))), (h9, .inl ((cA 2), 2, .inl u_3.2.2.2.2.2.2.2.2.2.1)), (h10, .inl ((cA 1), 80, .inl u_3.2.2.2.2.2.2.2.2.2.2.1)), (h11, .inl ((cA 1), 60, .inl u_3.2.2.2.2.2.2.2.2.2.2.2.2.2.2.1))] H := hP
                  have hD : va_D A [(h0, .inr (10, [.ref h1, .ref h2, .ref h3, .ref h4, .ref h5, .ref h6, .int u_3.2.2.2.2.2.2.1, .ref h7, .ref h8, .ref h9, .ref h10, .int u_3.2.2.2.2.2.2.2.2.2.2.2.1, .int u_3.2.2.2.2.2.2.2.2.2.2.2.2.1, .int u_3.2.2.2.2.2.2.2.2.2.2.2.2.2.1, .ref h11, .int u_3.2.2.2.2.2.2.2.2.2.2.2.2.2.2.2])), (h1, .inl ((cA 1), 85, .inl (zrd (85 * q) u_3.2.2.2.2.2.2.2.1))), (h2, .inl ((cA 0), 9, .inr (.inl g_7))), (h3, .inl ((cA 1), 85, .inl u_3.2.2.1)), (h4, .inl ((cA 0), 9, .inr (.inl u_3.2.2.2.1))), (h5, .inl ((cA 1), 510, .inl u_3.2.2.2.2.1)), (h6, .inl ((cA 0), 54, .inr (.inl u_3.2.2.2.2.2.1))), (h7, .inl ((cA 1), 170, .inl u_3.2.2.2.2.2.2.2.1)), (h8, .inl ((cA 0), 18, .inr (.inl u_3.2.2.2.2.2.2.2.2.1))), (h9, .inl ((cA 2), 2, .inl u_3.2.2.2.2.2.2.2.2.2.1)), (h10, .inl ((cA 1), 80, .inl u_3.2.2.2.2.2.2.2.2.2.2.1)), (h11, .inl ((cA 1), 60, .inl u_3.2.2.2.2.2.2.2.2.2.2.2.2.2.2.1))] := hD
                  refine lv_iinc (v := (nI (k + 1))) (lv' := [(2, .int (nI (k + 1))), (0, .ref h0), (1, .int (nI q))]) hx hb dX10_restore_84 hl (k := 0) rfl (nI_1 k) (by decide) rfl (fun ls hl => ?_)
                  refine lv_goto (tgt := 61) hx hb dX10_restore_87 (by decide) ?_
                  have e9z : g_7 = zcp (k + 1) (zrd (9 * q) u_3.2.2.2.2.2.2.2.2.1) u_3.2.1 := eg_7.trans (zcp_s k (zrd (9 * q) u_3.2.2.2.2.2.2.2.2.1) u_3.2.1)
                  subst e9z
                  exact ih (k + 1) (by omega) (by omega) _ _ hP hD hS ls (lv_sub hl [0, 1, 2] rfl)
            exact L61 (9 + 1) (0) (by omega) (Nat.zero_le _) _ _ (by rw [zcp_0]; exact hP) (by rw [zcp_0]; exact hD) hS ls (lv_sub hl [0, 1, 2] rfl)
          · skip
            have hkl : k < 85 := Nat.lt_of_not_le (fun h => c_5 (nI_le (a := 85) (b := k) h (by omega)))
            refine lv_aload_n hx hb dX10_restore_36 rfl (lv_at hl 1 rfl) ?_
            refine va_get (D := D) (ci := 10) (v := .ref h1) (C := RX10) (T := TX10) (N := 16) hx hb hts hinX10 hown hK hP 0 rfl rfl 0 (by decide) (hts (.fieldLink RX10 7 "GyroTrainerModel" "at" "[I") (List.mem_of_getElem? (i := 2) rfl)) (fun _ h9 => h9) rfl dX10_restore_37 ?_
            refine lv_iload_n hx hb dX10_restore_40 rfl (lv_at hl 0 rfl) ?_
            refine lv_aload_n hx hb dX10_restore_41 rfl (lv_at hl 1 rfl) ?_
            refine va_get (D := D) (ci := 10) (v := .ref h7) (C := RX10) (T := TX10) (N := 16) hx hb hts hinX10 hown hK hP 0 rfl rfl 7 (by decide) (hts (.fieldLink RX10 29 "GyroTrainerModel" "slots" "[I") (List.mem_of_getElem? (i := 3) rfl)) (fun _ h9 => h9) rfl dX10_restore_42 ?_
            refine lv_bipush (v := 85) hx hb dX10_restore_45 (by decide) ?_
            refine lv_iload_n hx hb dX10_restore_47 rfl (lv_at hl 2 rfl) ?_
            refine lv_imul hx hb dX10_restore_48 ?_
            refine lv_iload_n hx hb dX10_restore_49 rfl (lv_at hl 0 rfl) ?_
            refine lv_iadd hx hb dX10_restore_50 ?_
            refine z_iald (k := (85 * q + k)) hx hb hK hP 7 1 rfl rfl (zm_mk 85 q k) (by omega) (by decide) dX10_restore_51 ?_
            refine z_iast (k := k) hx hb hK hP hD hS 1 1 rfl rfl rfl (by omega) (by decide) dX10_restore_52 (fun g_8 eg_8 H locs hP hD hS => ?_)
            have hP : va_P D vwCl [(h0, .inr (10, [.ref h1, .ref h2, .ref h3, .ref h4, .ref h5, .ref h6, .int u_3.2.2.2.2.2.2.1, .ref h7, .ref h8, .ref h9, .ref h10, .int u_3.2.2.2.2.2.2.2.2.2.2.2.1, .int u_3.2.2.2.2.2.2.2.2.2.2.2.2.1, .int u_3.2.2.2.2.2.2.2.2.2.2.2.2.2.1, .ref h11, .int u_3.2.2.2.2.2.2.2.2.2.2.2.2.2.2.2])), (h1, .inl ((cA 1), 85, .inl g_8)), (h2, .inl ((cA 0), 9, .inr (.inl u_3.2.1))), (h3, .inl ((cA 1), 85, .inl u_3.2.2.1)), (h4, .inl ((cA 0), 9, .inr (.inl u_3.2.2.2.1))), (h5, .inl ((cA 1), 510, .inl u_3.2.2.2.2.1)), (h6, .inl ((cA 0), 54, .inr (.inl u_3.2.2.2.2.2.1))), (h7, .inl ((cA 1), 170, .inl u_3.2.2.2.2.2.2.2.1)), (h8, .inl ((cA 0), 18, .inr (.inl u_3.2.2.2.2.2.2.2.2.1))), (h9, .inl ((cA 2), 2, .inl u_3.2.2.2.2.2.2.2.2.2.1)), (h10, .inl ((cA 1), 80, .inl u_3.2.2.2.2.2.2.2.2.2.2.1)), (h11, .inl ((cA 1), 60, .inl u_3.2.2.2.2.2.2.2.2.2.2.2.2.2.2.1))] H := hP
            have hD : va_D A [(h0, .inr (10, [.ref h1, .ref h2, .ref h3, .ref h4, .ref h5, .ref h6, .int u_3.2.2.2.2.2.2.1, .ref h7, .ref h8, .ref h9, .ref h10, .int u_3.2.2.2.2.2.2.2.2.2.2.2.1, .int u_3.2.2.2.2.2.2.2.2.2.2.2.2.1, .int u_3.2.2.2.2.2.2.2.2.2.2.2.2.2.1, .ref h11, .int u_3.2.2.2.2.2.2.2.2.2.2.2.2.2.2.2])), (h1, .inl ((cA 1), 85, .inl g_8)), (h2, .inl ((cA 0), 9, .inr (.inl u_3.2.1))), (h3, .inl ((cA 1), 85, .inl u_3.2.2.1)), (h4, .inl ((cA 0), 9, .inr (.inl u_3.2.2.2.1))), (h5, .inl ((cA 1), 510, .inl u_3.2.2.2.2.1)), (h6, .inl ((cA 0), 54, .inr (.inl u_3.2.2.2.2.2.1))), (h7, .inl ((cA 1), 170, .inl u_3.2.2.2.2.2.2.2.1)), (h8, .inl ((cA 0), 18, .inr (.inl u_3.2.2.2.2.2.2.2.2.1))), (h9, .inl ((cA 2), 2, .inl u_3.2.2.2.2.2.2.2.2.2.1)), (h10, .inl ((cA 1), 80, .inl u_3.2.2.2.2.2.2.2.2.2.2.1)), (h11, .inl ((cA 1), 60, .inl u_3.2.2.2.2.2.2.2.2.2.2.2.2.2.2.1))] := hD
            refine lv_iinc (v := (nI (k + 1))) (lv' := [(2, .int (nI (k + 1))), (0, .ref h0), (1, .int (nI q))]) hx hb dX10_restore_53 hl (k := 0) rfl (nI_1 k) (by decide) rfl (fun ls hl => ?_)
            refine lv_goto (tgt := 30) hx hb dX10_restore_56 (by decide) ?_
            have e9z : g_8 = zcp (k + 1) (zrd (85 * q) u_3.2.2.2.2.2.2.2.1) u_3.1 := eg_8.trans (zcp_sI k (zrd (85 * q) u_3.2.2.2.2.2.2.2.1) u_3.1)
            subst e9z
            exact ih (k + 1) (by omega) (by omega) _ _ hP hD hS ls (lv_sub hl [0, 1, 2] rfl)
      exact L30 (85 + 1) (0) (by omega) (Nat.zero_le _) _ _ (by rw [zcp_0]; exact hP) (by rw [zcp_0]; exact hD) hS ls (lv_sub hl [0, 1, 2] rfl)
    · skip
      refine lv_bipush (v := -5) hx hb dX10_restore_21 (by decide) ?_
      have e9 : (fm_restX pm v (nI q)) = ((-5 : Int32), v) := by unfold fm_restX; simp only [if_neg c_1]; rw [nI_clamp (by omega)]; unfold fm_restore; rw [if_pos c_2]
      have hP9 : va_P D vwCl (wX10 cA h0 h1 h2 h3 h4 h5 h6 h7 h8 h9 h10 h11 (v : vX10)) s.heap := hP
      have hD9 : va_D A (wX10 cA h0 h1 h2 h3 h4 h5 h6 h7 h8 h9 h10 h11 (v : vX10)) := hD
      subst hQ
      exact W.iret (v := (-5 : Int32)) hx hb hr (fun t ht hW => ⟨⟨(-5 : Int32), v, rfl, e9.symm, ⟨by rw [ht]; exact hP9, va_K.moved hW.alike hK, hD9⟩⟩, hS.F ht⟩) hS.2.2 dX10_restore_23
  · skip
    refine lv_bipush (v := -2) hx hb dX10_restore_9 (by decide) ?_
    have e9 : (fm_restX pm v x1) = ((-2 : Int32), v) := by unfold fm_restX; simp only [if_pos c_1] <;> rfl
    have hP9 : va_P D vwCl (wX10 cA h0 h1 h2 h3 h4 h5 h6 h7 h8 h9 h10 h11 (v : vX10)) s.heap := hP
    have hD9 : va_D A (wX10 cA h0 h1 h2 h3 h4 h5 h6 h7 h8 h9 h10 h11 (v : vX10)) := hD
    subst hQ
    exact W.iret (v := (-2 : Int32)) hx hb hr (fun t ht hW => ⟨⟨(-2 : Int32), v, rfl, e9.symm, ⟨by rw [ht]; exact hP9, va_K.moved hW.alike hK, hD9⟩⟩, hS.F ht⟩) hS.2.2 dX10_restore_11
