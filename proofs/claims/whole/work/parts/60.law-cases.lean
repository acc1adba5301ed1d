/-! the law's cases: the same call on both sides, then one int beside the other -/
abbrev zAl (s : State) : Nat → Prop := fun r => s.heap.size ≤ r
/-- what holds all through the law -/
def LA (p : Program) (s : State) (m : MethodId) (c : Code) (b L : Nat) (xs : Nat → Int32) (D : va_G) (cA : Nat → ClassId) : Prop :=
  p.tables.exec = Jvm.exec ∧ c.code = cL_law ∧ c.maxLocals = 4 ∧ s.vm.findClass RL = some m.cls ∧ (∀ w ∈ wsL_law, w.before #[Value.ref b] s = true) ∧ va_X b L xs s s.heap ∧ b < s.heap.size ∧ L ≤ 2048 ∧ va_K D vwCl (zty cA) s ∧ zE (zAl s) s s.heap
abbrev lvL (b g q j : Nat) : List (Nat × Value) := [(3, .int (nI (4 * j))), (0, .ref b), (1, .ref g), (2, .ref q)]
/-- behind a case -/
def LK (p : Program) (l : Launch) (e : Env) (s : State) (m : MethodId) (below : List Frame) (meth : Method) (c : Code) (b : Nat) (D : va_G) (cA : Nat → ClassId) (g q : Nat → Nat) (j : Nat) (Q : State → Prop) (ls : Array Slot) : Prop :=
  ∀ (t' : vTv) (w' : vX10) (H' : Heap) (locs' : List Loc), Rel t' w' → va_P D vwCl (zTr cA g t' ++ zMd cA q w') H' → va_D (zAl s) (zTr cA g t' ++ zMd cA q w') → va_S (zAl s) s.heap H' locs' → W p l e room_1 s m #[Value.ref b] below meth c H' locs' (82 + 20 * j) (1587 + 115 * j) Q (F0 m 894 ls [])
section ZLAW
variable {p : Program} {l : Launch} {e : Env} {s : State} {m : MethodId} {below : List Frame} {meth : Method} {c : Code} {b L : Nat} {xs : Nat → Int32} {D : va_G} {cA : Nat → ClassId} {H : Heap} {locs : List Loc} {Q : State → Prop} {j : Nat} {ls : Array Slot} {t : vTv} {w : vX10}
theorem z_sld {g q pc d cells slots : Nat} {n : Int} {st : List Value} (C0 : LA p s m c b L xs D cA) (hS : va_S (zAl s) s.heap H locs) (hl : lv_has ls 4 (lvL b g q j)) (hd : 4 * j + d < L) (hn : Int32.ofInt n = nI d) (d0 : decode cL_law pc = .ok (.aload_n 0, 1)) (d1 : decode cL_law (pc + 1) = .ok (.iload_n 3, 1)) (d2 : decode cL_law (pc + 2) = .ok (.iconst n, 1)) (d3 : decode cL_law (pc + 3) = .ok (.iadd, 1)) (d4 : decode cL_law (pc + 4) = .ok (.iaload, 1))
    (kk : W p l e room_1 s m #[Value.ref b] below meth c H locs cells slots Q (F0 m (pc + 5) ls (.int (xs (4 * j + d)) :: st))) : W p l e room_1 s m #[Value.ref b] below meth c H locs cells slots Q (F0 m pc ls st) := by
  obtain ⟨hx, hb, hml, hown, hts, hX, hbl, hL, hK, hE⟩ := C0
  have hbA : ¬ zAl s b := Nat.not_le.mpr hbl
  have hi : vp_in (nI (4 * j) + nI d) L := by rw [nI_add]; exact vp_in_nI hd (by omega)
  have hc : (nI (4 * j) + nI d).toNatClampNeg = 4 * j + d := by rw [nI_add]; exact nI_clamp (by omega)
  refine lv_aload_n hx hb d0 rfl (lv_at hl 1 rfl) ?_
  refine lv_iload_n hx hb d1 rfl (lv_at hl 0 rfl) ?_
  refine lv_iconst (v := nI d) hx hb d2 hn ?_
  refine lv_iadd hx hb d3 ?_
  refine va_sld hx hb hX hbl hbA hS hi d4 ?_
  rw [hc]; exact kk
set_option maxHeartbeats 4000000 in
set_option maxRecDepth 100000 in
theorem lc_set (C0 : LA p s m c b L xs D cA) (g q : Nat → Nat) (hR : Rel t w) (hP : va_P D vwCl (zTr cA g t ++ zMd cA q w) H) (hD : va_D (zAl s) (zTr cA g t ++ zMd cA q w)) (hS : va_S (zAl s) s.heap H locs) (hj : 4 * j + 4 ≤ L) (hl : lv_has ls 4 (lvL b (g 0) (q 0) j)) (kk : LK p l e s m below meth c b D cA g q j Q ls) : W p l e room_1 s m #[Value.ref b] below meth c H locs (62 + 20 * j) (1472 + 115 * j) Q (F0 m 160 ls []) := by
  obtain ⟨hx, hb, hml, hown, hts, hX, hbl, hL, hK, hE⟩ := id C0
  have hA : ∀ r, s.heap.size ≤ r → zAl s r := fun _ h => h
  have hN := hE.1
  refine lv_aload_n hx hb dL_law_160 rfl (lv_at hl 2 rfl) ?_
  refine z_sld C0 hS hl (d := 1) (by omega) (by decide) dL_law_161 dL_law_162 dL_law_163 dL_law_164 dL_law_165 ?_
  refine z_sld C0 hS hl (d := 2) (by omega) (by decide) dL_law_166 dL_law_167 dL_law_168 dL_law_169 dL_law_170 ?_
  refine z_Hp (wt := fun u => zTr cA g u ++ zMd cA q w) (va_runV (As := [.int (xs (4 * j + 1)), .int (xs (4 * j + 2))]) (rest := []) ⟨hx, hb, hml, hown, hts⟩ (d_X9_set l D cA g H.size (xs (4 * j + 1)) (xs (4 * j + 2)) hR) (cwV 2 hts gL_law_X9_set rfl rfl rfl (by decide +kernel) ⟨Nat.le_of_ble_eq_true rfl, Nat.le_of_ble_eq_true rfl⟩) (zqV hK hP hD hS hA hE List.perm_append_comm 0 rfl rfl) rfl rfl hl.1 rfl (lv_room (Nat.le_of_ble_eq_true rfl)) dL_law_171 ⟨(show (62 + 20 * j) + 20 ≤ 600000 by omega), (show (1472 + 115 * j) + 115 ≤ 7302250 by omega)⟩) hP hD hS hA List.perm_append_comm (fun u => List.perm_append_comm) (fun r1 t1 H1 locs1 hp1 hP hD hS => ?_)
  refine lv_aload_n hx hb dL_law_174 rfl (lv_at hl 3 rfl) ?_
  refine z_sld C0 hS hl (d := 1) (by omega) (by decide) dL_law_175 dL_law_176 dL_law_177 dL_law_178 dL_law_179 ?_
  refine z_sld C0 hS hl (d := 2) (by omega) (by decide) dL_law_180 dL_law_181 dL_law_182 dL_law_183 dL_law_184 ?_
  refine z_Hp (post := fun (r : Int32) (u : vX10) => (r, u) = (fm_set (pmN w) w ((xs (4 * j + 1))) ((xs (4 * j + 2))))) (wt := fun u => zTr cA g t1 ++ zMd cA q u) (va_runV (As := [.int (xs (4 * j + 1)), .int (xs (4 * j + 2))]) (rest := [.int r1]) ⟨hx, hb, hml, hown, hts⟩ (e_X10_set l D cA q H1.size (xs (4 * j + 1)) (xs (4 * j + 2)) hR) (cwV 2 hts gL_law_X10_set rfl rfl rfl (by decide +kernel) ⟨Nat.le_of_ble_eq_true rfl, Nat.le_of_ble_eq_true rfl⟩) (zqV hK hP hD hS hA hE (List.Perm.refl _) 0 rfl rfl) rfl rfl hl.1 rfl (lv_room (Nat.le_of_ble_eq_true rfl)) dL_law_185 ⟨(show (62 + 20 * j) + 20 + 0 ≤ 600000 by omega), (show (1472 + 115 * j) + 115 + 0 ≤ 7302250 by omega)⟩) hP hD hS hA (List.Perm.refl _) (fun u => List.Perm.refl _) (fun r2 w1 H2 locs2 hp2 hP hD hS => ?_)
  obtain ⟨p1, p2⟩ := z_pr hp2
  refine lv_icmp_eq (tgt := 894) hx hb dL_law_188 (by decide) (fun _ => ?_) (fun h => absurd (hp1.1.trans p1.symm) h)
  refine W.widen (k := 82 + 20 * j) (n := 1587 + 115 * j) (by omega) (by omega) ?_
  exact kk t1 w1 H2 locs2 (by rw [p2]; exact hp1.2) hP hD hS
set_option maxHeartbeats 4000000 in
set_option maxRecDepth 100000 in
theorem lc_start (C0 : LA p s m c b L xs D cA) (g q : Nat → Nat) (hR : Rel t w) (hP : va_P D vwCl (zTr cA g t ++ zMd cA q w) H) (hD : va_D (zAl s) (zTr cA g t ++ zMd cA q w)) (hS : va_S (zAl s) s.heap H locs) (hj : 4 * j + 4 ≤ L) (hl : lv_has ls 4 (lvL b (g 0) (q 0) j)) (kk : LK p l e s m below meth c b D cA g q j Q ls) : W p l e room_1 s m #[Value.ref b] below meth c H locs (62 + 20 * j) (1472 + 115 * j) Q (F0 m 193 ls []) := by
  obtain ⟨hx, hb, hml, hown, hts, hX, hbl, hL, hK, hE⟩ := id C0
  have hA : ∀ r, s.heap.size ≤ r → zAl s r := fun _ h => h
  have hN := hE.1
  refine lv_aload_n hx hb dL_law_193 rfl (lv_at hl 2 rfl) ?_
  refine z_sld C0 hS hl (d := 1) (by omega) (by decide) dL_law_194 dL_law_195 dL_law_196 dL_law_197 dL_law_198 ?_
  refine z_sld C0 hS hl (d := 2) (by omega) (by decide) dL_law_199 dL_law_200 dL_law_201 dL_law_202 dL_law_203 ?_
  refine z_Hp (wt := fun u => zTr cA g u ++ zMd cA q w) (va_runV (As := [.int (xs (4 * j + 1)), .int (xs (4 * j + 2))]) (rest := []) ⟨hx, hb, hml, hown, hts⟩ (d_X9_start l D cA g H.size (xs (4 * j + 1)) (xs (4 * j + 2)) hR) (cwV 2 hts gL_law_X9_start rfl rfl rfl (by decide +kernel) ⟨Nat.le_of_ble_eq_true rfl, Nat.le_of_ble_eq_true rfl⟩) (zqV hK hP hD hS hA hE List.perm_append_comm 0 rfl rfl) rfl rfl hl.1 rfl (lv_room (Nat.le_of_ble_eq_true rfl)) dL_law_204 ⟨(show (62 + 20 * j) + 20 ≤ 600000 by omega), (show (1472 + 115 * j) + 115 ≤ 7302250 by omega)⟩) hP hD hS hA List.perm_append_comm (fun u => List.perm_append_comm) (fun r1 t1 H1 locs1 hp1 hP hD hS => ?_)
  refine lv_aload_n hx hb dL_law_207 rfl (lv_at hl 3 rfl) ?_
  refine z_sld C0 hS hl (d := 1) (by omega) (by decide) dL_law_208 dL_law_209 dL_law_210 dL_law_211 dL_law_212 ?_
  refine z_sld C0 hS hl (d := 2) (by omega) (by decide) dL_law_213 dL_law_214 dL_law_215 dL_law_216 dL_law_217 ?_
  refine z_Hp (post := fun (r : Int32) (u : vX10) => (r, u) = (fm_start (pmN w) w ((xs (4 * j + 1))) ((xs (4 * j + 2))))) (wt := fun u => zTr cA g t1 ++ zMd cA q u) (va_runV (As := [.int (xs (4 * j + 1)), .int (xs (4 * j + 2))]) (rest := [.int r1]) ⟨hx, hb, hml, hown, hts⟩ (e_X10_start l D cA q H1.size (xs (4 * j + 1)) (xs (4 * j + 2)) hR) (cwV 2 hts gL_law_X10_start rfl rfl rfl (by decide +kernel) ⟨Nat.le_of_ble_eq_true rfl, Nat.le_of_ble_eq_true rfl⟩) (zqV hK hP hD hS hA hE (List.Perm.refl _) 0 rfl rfl) rfl rfl hl.1 rfl (lv_room (Nat.le_of_ble_eq_true rfl)) dL_law_218 ⟨(show (62 + 20 * j) + 20 + 0 ≤ 600000 by omega), (show (1472 + 115 * j) + 115 + 0 ≤ 7302250 by omega)⟩) hP hD hS hA (List.Perm.refl _) (fun u => List.Perm.refl _) (fun r2 w1 H2 locs2 hp2 hP hD hS => ?_)
  obtain ⟨p1, p2⟩ := z_pr hp2
  refine lv_icmp_eq (tgt := 894) hx hb dL_law_221 (by decide) (fun _ => ?_) (fun h => absurd (hp1.1.trans p1.symm) h)
  refine W.widen (k := 82 + 20 * j) (n := 1587 + 115 * j) (by omega) (by omega) ?_
  exact kk t1 w1 H2 locs2 (by rw [p2]; exact hp1.2) hP hD hS
set_option maxHeartbeats 4000000 in
set_option maxRecDepth 100000 in
theorem lc_place (C0 : LA p s m c b L xs D cA) (g q : Nat → Nat) (hR : Rel t w) (hP : va_P D vwCl (zTr cA g t ++ zMd cA q w) H) (hD : va_D (zAl s) (zTr cA g t ++ zMd cA q w)) (hS : va_S (zAl s) s.heap H locs) (hj : 4 * j + 4 ≤ L) (hl : lv_has ls 4 (lvL b (g 0) (q 0) j)) (kk : LK p l e s m below meth c b D cA g q j Q ls) : W p l e room_1 s m #[Value.ref b] below meth c H locs (62 + 20 * j) (1472 + 115 * j) Q (F0 m 226 ls []) := by
  obtain ⟨hx, hb, hml, hown, hts, hX, hbl, hL, hK, hE⟩ := id C0
  have hA : ∀ r, s.heap.size ≤ r → zAl s r := fun _ h => h
  have hN := hE.1
  refine lv_aload_n hx hb dL_law_226 rfl (lv_at hl 2 rfl) ?_
  refine z_sld C0 hS hl (d := 1) (by omega) (by decide) dL_law_227 dL_law_228 dL_law_229 dL_law_230 dL_law_231 ?_
  refine z_Hp (wt := fun u => zTr cA g u ++ zMd cA q w) (va_runV (As := [.int (xs (4 * j + 1))]) (rest := []) ⟨hx, hb, hml, hown, hts⟩ (d_X9_place l D cA g H.size (xs (4 * j + 1)) hR) (cwV 1 hts gL_law_X9_place rfl rfl rfl (by decide +kernel) ⟨Nat.le_of_ble_eq_true rfl, Nat.le_of_ble_eq_true rfl⟩) (zqV hK hP hD hS hA hE List.perm_append_comm 0 rfl rfl) rfl rfl hl.1 rfl (lv_room (Nat.le_of_ble_eq_true rfl)) dL_law_232 ⟨(show (62 + 20 * j) + 20 ≤ 600000 by omega), (show (1472 + 115 * j) + 115 ≤ 7302250 by omega)⟩) hP hD hS hA List.perm_append_comm (fun u => List.perm_append_comm) (fun r1 t1 H1 locs1 hp1 hP hD hS => ?_)
  refine lv_aload_n hx hb dL_law_235 rfl (lv_at hl 3 rfl) ?_
  refine z_sld C0 hS hl (d := 1) (by omega) (by decide) dL_law_236 dL_law_237 dL_law_238 dL_law_239 dL_law_240 ?_
  refine z_Hp (post := fun (r : Int32) (u : vX10) => (r, u) = (fm_place (pmN w) w ((xs (4 * j + 1))))) (wt := fun u => zTr cA g t1 ++ zMd cA q u) (va_runV (As := [.int (xs (4 * j + 1))]) (rest := [.int r1]) ⟨hx, hb, hml, hown, hts⟩ (e_X10_place l D cA q H1.size (xs (4 * j + 1)) hR) (cwV 1 hts gL_law_X10_place rfl rfl rfl (by decide +kernel) ⟨Nat.le_of_ble_eq_true rfl, Nat.le_of_ble_eq_true rfl⟩) (zqV hK hP hD hS hA hE (List.Perm.refl _) 0 rfl rfl) rfl rfl hl.1 rfl (lv_room (Nat.le_of_ble_eq_true rfl)) dL_law_241 ⟨(show (62 + 20 * j) + 20 + 0 ≤ 600000 by omega), (show (1472 + 115 * j) + 115 + 0 ≤ 7302250 by omega)⟩) hP hD hS hA (List.Perm.refl _) (fun u => List.Perm.refl _) (fun r2 w1 H2 locs2 hp2 hP hD hS => ?_)
  obtain ⟨p1, p2⟩ := z_pr hp2
  refine lv_icmp_eq (tgt := 894) hx hb dL_law_244 (by decide) (fun _ => ?_) (fun h => absurd (hp1.1.trans p1.symm) h)
  refine W.widen (k := 82 + 20 * j) (n := 1587 + 115 * j) (by omega) (by omega) ?_
  exact kk t1 w1 H2 locs2 (by rw [p2]; exact hp1.2) hP hD hS
set_option maxHeartbeats 4000000 in
set_option maxRecDepth 100000 in
theorem lc_line (C0 : LA p s m c b L xs D cA) (g q : Nat → Nat) (hR : Rel t w) (hP : va_P D vwCl (zTr cA g t ++ zMd cA q w) H) (hD : va_D (zAl s) (zTr cA g t ++ zMd cA q w)) (hS : va_S (zAl s) s.heap H locs) (hj : 4 * j + 4 ≤ L) (hl : lv_has ls 4 (lvL b (g 0) (q 0) j)) (kk : LK p l e s m below meth c b D cA g q j Q ls) : W p l e room_1 s m #[Value.ref b] below meth c H locs (62 + 20 * j) (1472 + 115 * j) Q (F0 m 249 ls []) := by
  obtain ⟨hx, hb, hml, hown, hts, hX, hbl, hL, hK, hE⟩ := id C0
  have hA : ∀ r, s.heap.size ≤ r → zAl s r := fun _ h => h
  have hN := hE.1
  refine lv_aload_n hx hb dL_law_249 rfl (lv_at hl 2 rfl) ?_
  refine z_sld C0 hS hl (d := 1) (by omega) (by decide) dL_law_250 dL_law_251 dL_law_252 dL_law_253 dL_law_254 ?_
  refine z_Hp (wt := fun u => zTr cA g u ++ zMd cA q w) (va_runV (As := [.int (xs (4 * j + 1))]) (rest := []) ⟨hx, hb, hml, hown, hts⟩ (d_X9_line l D cA g H.size (xs (4 * j + 1)) hR) (cwV 1 hts gL_law_X9_line rfl rfl rfl (by decide +kernel) ⟨Nat.le_of_ble_eq_true rfl, Nat.le_of_ble_eq_true rfl⟩) (zqV hK hP hD hS hA hE List.perm_append_comm 0 rfl rfl) rfl rfl hl.1 rfl (lv_room (Nat.le_of_ble_eq_true rfl)) dL_law_255 ⟨(show (62 + 20 * j) + 20 ≤ 600000 by omega), (show (1472 + 115 * j) + 115 ≤ 7302250 by omega)⟩) hP hD hS hA List.perm_append_comm (fun u => List.perm_append_comm) (fun r1 t1 H1 locs1 hp1 hP hD hS => ?_)
  refine lv_aload_n hx hb dL_law_258 rfl (lv_at hl 3 rfl) ?_
  refine z_sld C0 hS hl (d := 1) (by omega) (by decide) dL_law_259 dL_law_260 dL_law_261 dL_law_262 dL_law_263 ?_
  refine z_Hp (post := fun (r : Int32) (u : vX10) => (r, u) = (fm_line (pmN w) (nT (w.1 19)) w ((xs (4 * j + 1))))) (wt := fun u => zTr cA g t1 ++ zMd cA q u) (va_runV (As := [.int (xs (4 * j + 1))]) (rest := [.int r1]) ⟨hx, hb, hml, hown, hts⟩ (e_X10_line l D cA q H1.size (xs (4 * j + 1)) hR) (cwV 1 hts gL_law_X10_line rfl rfl rfl (by decide +kernel) ⟨Nat.le_of_ble_eq_true rfl, Nat.le_of_ble_eq_true rfl⟩) (zqV hK hP hD hS hA hE (List.Perm.refl _) 0 rfl rfl) rfl rfl hl.1 rfl (lv_room (Nat.le_of_ble_eq_true rfl)) dL_law_264 ⟨(show (62 + 20 * j) + 20 + 0 ≤ 600000 by omega), (show (1472 + 115 * j) + 115 + 0 ≤ 7302250 by omega)⟩) hP hD hS hA (List.Perm.refl _) (fun u => List.Perm.refl _) (fun r2 w1 H2 locs2 hp2 hP hD hS => ?_)
  obtain ⟨p1, p2⟩ := z_pr hp2
  refine lv_icmp_eq (tgt := 894) hx hb dL_law_267 (by decide) (fun _ => ?_) (fun h => absurd (hp1.1.trans p1.symm) h)
  refine W.widen (k := 82 + 20 * j) (n := 1587 + 115 * j) (by omega) (by omega) ?_
  exact kk t1 w1 H2 locs2 (by rw [p2]; exact hp1.2) hP hD hS
set_option maxHeartbeats 4000000 in
set_option maxRecDepth 100000 in
theorem lc_steer (C0 : LA p s m c b L xs D cA) (g q : Nat → Nat) (hR : Rel t w) (hP : va_P D vwCl (zTr cA g t ++ zMd cA q w) H) (hD : va_D (zAl s) (zTr cA g t ++ zMd cA q w)) (hS : va_S (zAl s) s.heap H locs) (hj : 4 * j + 4 ≤ L) (hl : lv_has ls 4 (lvL b (g 0) (q 0) j)) (kk : LK p l e s m below meth c b D cA g q j Q ls) : W p l e room_1 s m #[Value.ref b] below meth c H locs (62 + 20 * j) (1472 + 115 * j) Q (F0 m 272 ls []) := by
  obtain ⟨hx, hb, hml, hown, hts, hX, hbl, hL, hK, hE⟩ := id C0
  have hA : ∀ r, s.heap.size ≤ r → zAl s r := fun _ h => h
  have hN := hE.1
  refine lv_aload_n hx hb dL_law_272 rfl (lv_at hl 2 rfl) ?_
  refine z_sld C0 hS hl (d := 1) (by omega) (by decide) dL_law_273 dL_law_274 dL_law_275 dL_law_276 dL_law_277 ?_
  refine z_sld C0 hS hl (d := 2) (by omega) (by decide) dL_law_278 dL_law_279 dL_law_280 dL_law_281 dL_law_282 ?_
  refine z_Hp (wt := fun u => zTr cA g u ++ zMd cA q w) (va_runV (As := [.int (xs (4 * j + 1)), .int (xs (4 * j + 2))]) (rest := []) ⟨hx, hb, hml, hown, hts⟩ (d_X9_steer l D cA g H.size (xs (4 * j + 1)) (xs (4 * j + 2)) hR) (cwV 2 hts gL_law_X9_steer rfl rfl rfl (by decide +kernel) ⟨Nat.le_of_ble_eq_true rfl, Nat.le_of_ble_eq_true rfl⟩) (zqV hK hP hD hS hA hE List.perm_append_comm 0 rfl rfl) rfl rfl hl.1 rfl (lv_room (Nat.le_of_ble_eq_true rfl)) dL_law_283 ⟨(show (62 + 20 * j) + 20 ≤ 600000 by omega), (show (1472 + 115 * j) + 115 ≤ 7302250 by omega)⟩) hP hD hS hA List.perm_append_comm (fun u => List.perm_append_comm) (fun r1 t1 H1 locs1 hp1 hP hD hS => ?_)
  refine lv_aload_n hx hb dL_law_286 rfl (lv_at hl 3 rfl) ?_
  refine z_sld C0 hS hl (d := 1) (by omega) (by decide) dL_law_287 dL_law_288 dL_law_289 dL_law_290 dL_law_291 ?_
  refine z_sld C0 hS hl (d := 2) (by omega) (by decide) dL_law_292 dL_law_293 dL_law_294 dL_law_295 dL_law_296 ?_
  refine z_Hp (post := fun (r : Int32) (u : vX10) => (r, u) = (fm_steer (pmN w) w ((xs (4 * j + 1))) ((xs (4 * j + 2))))) (wt := fun u => zTr cA g t1 ++ zMd cA q u) (va_runV (As := [.int (xs (4 * j + 1)), .int (xs (4 * j + 2))]) (rest := [.int r1]) ⟨hx, hb, hml, hown, hts⟩ (e_X10_steer l D cA q H1.size (xs (4 * j + 1)) (xs (4 * j + 2)) hR) (cwV 2 hts gL_law_X10_steer rfl rfl rfl (by decide +kernel) ⟨Nat.le_of_ble_eq_true rfl, Nat.le_of_ble_eq_true rfl⟩) (zqV hK hP hD hS hA hE (List.Perm.refl _) 0 rfl rfl) rfl rfl hl.1 rfl (lv_room (Nat.le_of_ble_eq_true rfl)) dL_law_297 ⟨(show (62 + 20 * j) + 20 + 0 ≤ 600000 by omega), (show (1472 + 115 * j) + 115 + 0 ≤ 7302250 by omega)⟩) hP hD hS hA (List.Perm.refl _) (fun u => List.Perm.refl _) (fun r2 w1 H2 locs2 hp2 hP hD hS => ?_)
  obtain ⟨p1, p2⟩ := z_pr hp2
  refine lv_icmp_eq (tgt := 894) hx hb dL_law_300 (by decide) (fun _ => ?_) (fun h => absurd (hp1.1.trans p1.symm) h)
  refine W.widen (k := 82 + 20 * j) (n := 1587 + 115 * j) (by omega) (by omega) ?_
  exact kk t1 w1 H2 locs2 (by rw [p2]; exact hp1.2) hP hD hS
set_option maxHeartbeats 4000000 in
set_option maxRecDepth 100000 in
theorem lc_leg (C0 : LA p s m c b L xs D cA) (g q : Nat → Nat) (hR : Rel t w) (hP : va_P D vwCl (zTr cA g t ++ zMd cA q w) H) (hD : va_D (zAl s) (zTr cA g t ++ zMd cA q w)) (hS : va_S (zAl s) s.heap H locs) (hj : 4 * j + 4 ≤ L) (hl : lv_has ls 4 (lvL b (g 0) (q 0) j)) (kk : LK p l e s m below meth c b D cA g q j Q ls) : W p l e room_1 s m #[Value.ref b] below meth c H locs (62 + 20 * j) (1472 + 115 * j) Q (F0 m 305 ls []) := by
  obtain ⟨hx, hb, hml, hown, hts, hX, hbl, hL, hK, hE⟩ := id C0
  have hA : ∀ r, s.heap.size ≤ r → zAl s r := fun _ h => h
  have hN := hE.1
  refine lv_aload_n hx hb dL_law_305 rfl (lv_at hl 2 rfl) ?_
  refine z_sld C0 hS hl (d := 1) (by omega) (by decide) dL_law_306 dL_law_307 dL_law_308 dL_law_309 dL_law_310 ?_
  refine z_sld C0 hS hl (d := 2) (by omega) (by decide) dL_law_311 dL_law_312 dL_law_313 dL_law_314 dL_law_315 ?_
  refine z_sld C0 hS hl (d := 3) (by omega) (by decide) dL_law_316 dL_law_317 dL_law_318 dL_law_319 dL_law_320 ?_
  refine z_Hp (wt := fun u => zTr cA g u ++ zMd cA q w) (va_runV (As := [.int (xs (4 * j + 1)), .int (xs (4 * j + 2)), .int (xs (4 * j + 3))]) (rest := []) ⟨hx, hb, hml, hown, hts⟩ (d_X9_leg l D cA g H.size (xs (4 * j + 1)) (xs (4 * j + 2)) (xs (4 * j + 3)) hR) (cwV 3 hts gL_law_X9_leg rfl rfl rfl (by decide +kernel) ⟨Nat.le_of_ble_eq_true rfl, Nat.le_of_ble_eq_true rfl⟩) (zqV hK hP hD hS hA hE List.perm_append_comm 0 rfl rfl) rfl rfl hl.1 rfl (lv_room (Nat.le_of_ble_eq_true rfl)) dL_law_321 ⟨(show (62 + 20 * j) + 20 ≤ 600000 by omega), (show (1472 + 115 * j) + 115 ≤ 7302250 by omega)⟩) hP hD hS hA List.perm_append_comm (fun u => List.perm_append_comm) (fun r1 t1 H1 locs1 hp1 hP hD hS => ?_)
  refine lv_aload_n hx hb dL_law_324 rfl (lv_at hl 3 rfl) ?_
  refine z_sld C0 hS hl (d := 1) (by omega) (by decide) dL_law_325 dL_law_326 dL_law_327 dL_law_328 dL_law_329 ?_
  refine z_sld C0 hS hl (d := 2) (by omega) (by decide) dL_law_330 dL_law_331 dL_law_332 dL_law_333 dL_law_334 ?_
  refine z_sld C0 hS hl (d := 3) (by omega) (by decide) dL_law_335 dL_law_336 dL_law_337 dL_law_338 dL_law_339 ?_
  refine z_Hp (post := fun (r : Int32) (u : vX10) => (r, u) = (fm_leg (pmN w) (nT (w.1 3)) w ((xs (4 * j + 1))) ((xs (4 * j + 2))) ((xs (4 * j + 3))))) (wt := fun u => zTr cA g t1 ++ zMd cA q u) (va_runV (As := [.int (xs (4 * j + 1)), .int (xs (4 * j + 2)), .int (xs (4 * j + 3))]) (rest := [.int r1]) ⟨hx, hb, hml, hown, hts⟩ (e_X10_leg l D cA q H1.size (xs (4 * j + 1)) (xs (4 * j + 2)) (xs (4 * j + 3)) hR) (cwV 3 hts gL_law_X10_leg rfl rfl rfl (by decide +kernel) ⟨Nat.le_of_ble_eq_true rfl, Nat.le_of_ble_eq_true rfl⟩) (zqV hK hP hD hS hA hE (List.Perm.refl _) 0 rfl rfl) rfl rfl hl.1 rfl (lv_room (Nat.le_of_ble_eq_true rfl)) dL_law_340 ⟨(show (62 + 20 * j) + 20 + 0 ≤ 600000 by omega), (show (1472 + 115 * j) + 115 + 0 ≤ 7302250 by omega)⟩) hP hD hS hA (List.Perm.refl _) (fun u => List.Perm.refl _) (fun r2 w1 H2 locs2 hp2 hP hD hS => ?_)
  obtain ⟨p1, p2⟩ := z_pr hp2
  refine lv_icmp_eq (tgt := 894) hx hb dL_law_343 (by decide) (fun _ => ?_) (fun h => absurd (hp1.1.trans p1.symm) h)
  refine W.widen (k := 82 + 20 * j) (n := 1587 + 115 * j) (by omega) (by omega) ?_
  exact kk t1 w1 H2 locs2 (by rw [p2]; exact hp1.2) hP hD hS
set_option maxHeartbeats 4000000 in
set_option maxRecDepth 100000 in
theorem lc_pass (C0 : LA p s m c b L xs D cA) (g q : Nat → Nat) (hR : Rel t w) (hP : va_P D vwCl (zTr cA g t ++ zMd cA q w) H) (hD : va_D (zAl s) (zTr cA g t ++ zMd cA q w)) (hS : va_S (zAl s) s.heap H locs) (hj : 4 * j + 4 ≤ L) (hl : lv_has ls 4 (lvL b (g 0) (q 0) j)) (kk : LK p l e s m below meth c b D cA g q j Q ls) : W p l e room_1 s m #[Value.ref b] below meth c H locs (62 + 20 * j) (1472 + 115 * j) Q (F0 m 348 ls []) := by
  obtain ⟨hx, hb, hml, hown, hts, hX, hbl, hL, hK, hE⟩ := id C0
  have hA : ∀ r, s.heap.size ≤ r → zAl s r := fun _ h => h
  have hN := hE.1
  refine lv_aload_n hx hb dL_law_348 rfl (lv_at hl 2 rfl) ?_
  refine z_sld C0 hS hl (d := 1) (by omega) (by decide) dL_law_349 dL_law_350 dL_law_351 dL_law_352 dL_law_353 ?_
  refine z_Hp (wt := fun u => zTr cA g u ++ zMd cA q w) (va_runV (As := [.int (xs (4 * j + 1))]) (rest := []) ⟨hx, hb, hml, hown, hts⟩ (d_X9_pass l D cA g H.size (xs (4 * j + 1)) hR) (cwV 1 hts gL_law_X9_pass rfl rfl rfl (by decide +kernel) ⟨Nat.le_of_ble_eq_true rfl, Nat.le_of_ble_eq_true rfl⟩) (zqV hK hP hD hS hA hE List.perm_append_comm 0 rfl rfl) rfl rfl hl.1 rfl (lv_room (Nat.le_of_ble_eq_true rfl)) dL_law_354 ⟨(show (62 + 20 * j) + 20 ≤ 600000 by omega), (show (1472 + 115 * j) + 115 ≤ 7302250 by omega)⟩) hP hD hS hA List.perm_append_comm (fun u => List.perm_append_comm) (fun r1 t1 H1 locs1 hp1 hP hD hS => ?_)
  refine lv_aload_n hx hb dL_law_357 rfl (lv_at hl 3 rfl) ?_
  refine z_sld C0 hS hl (d := 1) (by omega) (by decide) dL_law_358 dL_law_359 dL_law_360 dL_law_361 dL_law_362 ?_
  refine z_Hp (post := fun (r : Int32) (u : vX10) => (r, u) = (fm_pass (pmN w) w ((xs (4 * j + 1))))) (wt := fun u => zTr cA g t1 ++ zMd cA q u) (va_runV (As := [.int (xs (4 * j + 1))]) (rest := [.int r1]) ⟨hx, hb, hml, hown, hts⟩ (e_X10_pass l D cA q H1.size (xs (4 * j + 1)) hR) (cwV 1 hts gL_law_X10_pass rfl rfl rfl (by decide +kernel) ⟨Nat.le_of_ble_eq_true rfl, Nat.le_of_ble_eq_true rfl⟩) (zqV hK hP hD hS hA hE (List.Perm.refl _) 0 rfl rfl) rfl rfl hl.1 rfl (lv_room (Nat.le_of_ble_eq_true rfl)) dL_law_363 ⟨(show (62 + 20 * j) + 20 + 0 ≤ 600000 by omega), (show (1472 + 115 * j) + 115 + 0 ≤ 7302250 by omega)⟩) hP hD hS hA (List.Perm.refl _) (fun u => List.Perm.refl _) (fun r2 w1 H2 locs2 hp2 hP hD hS => ?_)
  obtain ⟨p1, p2⟩ := z_pr hp2
  refine lv_icmp_eq (tgt := 894) hx hb dL_law_366 (by decide) (fun _ => ?_) (fun h => absurd (hp1.1.trans p1.symm) h)
  refine W.widen (k := 82 + 20 * j) (n := 1587 + 115 * j) (by omega) (by omega) ?_
  exact kk t1 w1 H2 locs2 (by rw [p2]; exact hp1.2) hP hD hS
set_option maxHeartbeats 4000000 in
set_option maxRecDepth 100000 in
theorem lc_damp (C0 : LA p s m c b L xs D cA) (g q : Nat → Nat) (hR : Rel t w) (hP : va_P D vwCl (zTr cA g t ++ zMd cA q w) H) (hD : va_D (zAl s) (zTr cA g t ++ zMd cA q w)) (hS : va_S (zAl s) s.heap H locs) (hj : 4 * j + 4 ≤ L) (hl : lv_has ls 4 (lvL b (g 0) (q 0) j)) (kk : LK p l e s m below meth c b D cA g q j Q ls) : W p l e room_1 s m #[Value.ref b] below meth c H locs (62 + 20 * j) (1472 + 115 * j) Q (F0 m 371 ls []) := by
  obtain ⟨hx, hb, hml, hown, hts, hX, hbl, hL, hK, hE⟩ := id C0
  have hA : ∀ r, s.heap.size ≤ r → zAl s r := fun _ h => h
  have hN := hE.1
  refine lv_aload_n hx hb dL_law_371 rfl (lv_at hl 2 rfl) ?_
  refine z_sld C0 hS hl (d := 1) (by omega) (by decide) dL_law_372 dL_law_373 dL_law_374 dL_law_375 dL_law_376 ?_
  refine z_Hp (wt := fun u => zTr cA g u ++ zMd cA q w) (va_runV (As := [.int (xs (4 * j + 1))]) (rest := []) ⟨hx, hb, hml, hown, hts⟩ (d_X9_damp l D cA g H.size (xs (4 * j + 1)) hR) (cwV 1 hts gL_law_X9_damp rfl rfl rfl (by decide +kernel) ⟨Nat.le_of_ble_eq_true rfl, Nat.le_of_ble_eq_true rfl⟩) (zqV hK hP hD hS hA hE List.perm_append_comm 0 rfl rfl) rfl rfl hl.1 rfl (lv_room (Nat.le_of_ble_eq_true rfl)) dL_law_377 ⟨(show (62 + 20 * j) + 20 ≤ 600000 by omega), (show (1472 + 115 * j) + 115 ≤ 7302250 by omega)⟩) hP hD hS hA List.perm_append_comm (fun u => List.perm_append_comm) (fun r1 t1 H1 locs1 hp1 hP hD hS => ?_)
  refine lv_aload_n hx hb dL_law_380 rfl (lv_at hl 3 rfl) ?_
  refine z_sld C0 hS hl (d := 1) (by omega) (by decide) dL_law_381 dL_law_382 dL_law_383 dL_law_384 dL_law_385 ?_
  refine z_Hp (post := fun (r : Int32) (u : vX10) => (r, u) = (fm_damp (pmN w) w ((xs (4 * j + 1))))) (wt := fun u => zTr cA g t1 ++ zMd cA q u) (va_runV (As := [.int (xs (4 * j + 1))]) (rest := [.int r1]) ⟨hx, hb, hml, hown, hts⟩ (e_X10_damp l D cA q H1.size (xs (4 * j + 1)) hR) (cwV 1 hts gL_law_X10_damp rfl rfl rfl (by decide +kernel) ⟨Nat.le_of_ble_eq_true rfl, Nat.le_of_ble_eq_true rfl⟩) (zqV hK hP hD hS hA hE (List.Perm.refl _) 0 rfl rfl) rfl rfl hl.1 rfl (lv_room (Nat.le_of_ble_eq_true rfl)) dL_law_386 ⟨(show (62 + 20 * j) + 20 + 0 ≤ 600000 by omega), (show (1472 + 115 * j) + 115 + 0 ≤ 7302250 by omega)⟩) hP hD hS hA (List.Perm.refl _) (fun u => List.Perm.refl _) (fun r2 w1 H2 locs2 hp2 hP hD hS => ?_)
  obtain ⟨p1, p2⟩ := z_pr hp2
  refine lv_icmp_eq (tgt := 894) hx hb dL_law_389 (by decide) (fun _ => ?_) (fun h => absurd (hp1.1.trans p1.symm) h)
  refine W.widen (k := 82 + 20 * j) (n := 1587 + 115 * j) (by omega) (by omega) ?_
  exact kk t1 w1 H2 locs2 (by rw [p2]; exact hp1.2) hP hD hS
set_option maxHeartbeats 4000000 in
set_option maxRecDepth 100000 in
theorem lc_correct (C0 : LA p s m c b L xs D cA) (g q : Nat → Nat) (hR : Rel t w) (hP : va_P D vwCl (zTr cA g t ++ zMd cA q w) H) (hD : va_D (zAl s) (zTr cA g t ++ zMd cA q w)) (hS : va_S (zAl s) s.heap H locs) (hj : 4 * j + 4 ≤ L) (hl : lv_has ls 4 (lvL b (g 0) (q 0) j)) (kk : LK p l e s m below meth c b D cA g q j Q ls) : W p l e room_1 s m #[Value.ref b] below meth c H locs (62 + 20 * j) (1472 + 115 * j) Q (F0 m 394 ls []) := by
  obtain ⟨hx, hb, hml, hown, hts, hX, hbl, hL, hK, hE⟩ := id C0
  have hA : ∀ r, s.heap.size ≤ r → zAl s r := fun _ h => h
  have hN := hE.1
  refine lv_aload_n hx hb dL_law_394 rfl (lv_at hl 2 rfl) ?_
  refine z_sld C0 hS hl (d := 1) (by omega) (by decide) dL_law_395 dL_law_396 dL_law_397 dL_law_398 dL_law_399 ?_
  refine z_sld C0 hS hl (d := 2) (by omega) (by decide) dL_law_400 dL_law_401 dL_law_402 dL_law_403 dL_law_404 ?_
  refine z_Hp (wt := fun u => zTr cA g u ++ zMd cA q w) (va_runV (As := [.int (xs (4 * j + 1)), .int (xs (4 * j + 2))]) (rest := []) ⟨hx, hb, hml, hown, hts⟩ (d_X9_correct l D cA g H.size (xs (4 * j + 1)) (xs (4 * j + 2)) hR) (cwV 2 hts gL_law_X9_correct rfl rfl rfl (by decide +kernel) ⟨Nat.le_of_ble_eq_true rfl, Nat.le_of_ble_eq_true rfl⟩) (zqV hK hP hD hS hA hE List.perm_append_comm 0 rfl rfl) rfl rfl hl.1 rfl (lv_room (Nat.le_of_ble_eq_true rfl)) dL_law_405 ⟨(show (62 + 20 * j) + 20 ≤ 600000 by omega), (show (1472 + 115 * j) + 115 ≤ 7302250 by omega)⟩) hP hD hS hA List.perm_append_comm (fun u => List.perm_append_comm) (fun r1 t1 H1 locs1 hp1 hP hD hS => ?_)
  refine lv_aload_n hx hb dL_law_408 rfl (lv_at hl 3 rfl) ?_
  refine z_sld C0 hS hl (d := 1) (by omega) (by decide) dL_law_409 dL_law_410 dL_law_411 dL_law_412 dL_law_413 ?_
  refine z_sld C0 hS hl (d := 2) (by omega) (by decide) dL_law_414 dL_law_415 dL_law_416 dL_law_417 dL_law_418 ?_
  refine z_Hp (post := fun (r : Int32) (u : vX10) => (r, u) = (fm_correct (pmN w) w ((xs (4 * j + 1))) ((xs (4 * j + 2))))) (wt := fun u => zTr cA g t1 ++ zMd cA q u) (va_runV (As := [.int (xs (4 * j + 1)), .int (xs (4 * j + 2))]) (rest := [.int r1]) ⟨hx, hb, hml, hown, hts⟩ (e_X10_correct l D cA q H1.size (xs (4 * j + 1)) (xs (4 * j + 2)) hR) (cwV 2 hts gL_law_X10_correct rfl rfl rfl (by decide +kernel) ⟨Nat.le_of_ble_eq_true rfl, Nat.le_of_ble_eq_true rfl⟩) (zqV hK hP hD hS hA hE (List.Perm.refl _) 0 rfl rfl) rfl rfl hl.1 rfl (lv_room (Nat.le_of_ble_eq_true rfl)) dL_law_419 ⟨(show (62 + 20 * j) + 20 + 0 ≤ 600000 by omega), (show (1472 + 115 * j) + 115 + 0 ≤ 7302250 by omega)⟩) hP hD hS hA (List.Perm.refl _) (fun u => List.Perm.refl _) (fun r2 w1 H2 locs2 hp2 hP hD hS => ?_)
  obtain ⟨p1, p2⟩ := z_pr hp2
  refine lv_icmp_eq (tgt := 894) hx hb dL_law_422 (by decide) (fun _ => ?_) (fun h => absurd (hp1.1.trans p1.symm) h)
  refine W.widen (k := 82 + 20 * j) (n := 1587 + 115 * j) (by omega) (by omega) ?_
  exact kk t1 w1 H2 locs2 (by rw [p2]; exact hp1.2) hP hD hS
set_option maxHeartbeats 4000000 in
set_option maxRecDepth 100000 in
theorem lc_forgetSwings (C0 : LA p s m c b L xs D cA) (g q : Nat → Nat) (hR : Rel t w) (hP : va_P D vwCl (zTr cA g t ++ zMd cA q w) H) (hD : va_D (zAl s) (zTr cA g t ++ zMd cA q w)) (hS : va_S (zAl s) s.heap H locs) (hj : 4 * j + 4 ≤ L) (hl : lv_has ls 4 (lvL b (g 0) (q 0) j)) (kk : LK p l e s m below meth c b D cA g q j Q ls) : W p l e room_1 s m #[Value.ref b] below meth c H locs (62 + 20 * j) (1472 + 115 * j) Q (F0 m 427 ls []) := by
  obtain ⟨hx, hb, hml, hown, hts, hX, hbl, hL, hK, hE⟩ := id C0
  have hA : ∀ r, s.heap.size ≤ r → zAl s r := fun _ h => h
  have hN := hE.1
  refine lv_aload_n hx hb dL_law_427 rfl (lv_at hl 2 rfl) ?_
  refine z_Hp (wt := fun u => zTr cA g u ++ zMd cA q w) (va_runV (As := []) (rest := []) ⟨hx, hb, hml, hown, hts⟩ (d_X9_forgetSwings l D cA g H.size  hR) (cwV 0 hts gL_law_X9_forgetSwings rfl rfl rfl (by decide +kernel) ⟨Nat.le_of_ble_eq_true rfl, Nat.le_of_ble_eq_true rfl⟩) (zqV hK hP hD hS hA hE List.perm_append_comm 0 rfl rfl) rfl rfl hl.1 rfl (lv_room (Nat.le_of_ble_eq_true rfl)) dL_law_428 ⟨(show (62 + 20 * j) + 20 ≤ 600000 by omega), (show (1472 + 115 * j) + 115 ≤ 7302250 by omega)⟩) hP hD hS hA List.perm_append_comm (fun u => List.perm_append_comm) (fun r1 t1 H1 locs1 hp1 hP hD hS => ?_)
  refine lv_aload_n hx hb dL_law_431 rfl (lv_at hl 3 rfl) ?_
  refine z_Hp (post := fun (r : Int32) (u : vX10) => (r, u) = (fm_forget (pmN w) w)) (wt := fun u => zTr cA g t1 ++ zMd cA q u) (va_runV (As := []) (rest := [.int r1]) ⟨hx, hb, hml, hown, hts⟩ (e_X10_forgetSwings l D cA q H1.size  hR) (cwV 0 hts gL_law_X10_forgetSwings rfl rfl rfl (by decide +kernel) ⟨Nat.le_of_ble_eq_true rfl, Nat.le_of_ble_eq_true rfl⟩) (zqV hK hP hD hS hA hE (List.Perm.refl _) 0 rfl rfl) rfl rfl hl.1 rfl (lv_room (Nat.le_of_ble_eq_true rfl)) dL_law_432 ⟨(show (62 + 20 * j) + 20 + 0 ≤ 600000 by omega), (show (1472 + 115 * j) + 115 + 0 ≤ 7302250 by omega)⟩) hP hD hS hA (List.Perm.refl _) (fun u => List.Perm.refl _) (fun r2 w1 H2 locs2 hp2 hP hD hS => ?_)
  obtain ⟨p1, p2⟩ := z_pr hp2
  refine lv_icmp_eq (tgt := 894) hx hb dL_law_435 (by decide) (fun _ => ?_) (fun h => absurd (hp1.1.trans p1.symm) h)
  refine W.widen (k := 82 + 20 * j) (n := 1587 + 115 * j) (by omega) (by omega) ?_
  exact kk t1 w1 H2 locs2 (by rw [p2]; exact hp1.2) hP hD hS
set_option maxHeartbeats 4000000 in
set_option maxRecDepth 100000 in
theorem lc_observe (C0 : LA p s m c b L xs D cA) (g q : Nat → Nat) (hR : Rel t w) (hP : va_P D vwCl (zTr cA g t ++ zMd cA q w) H) (hD : va_D (zAl s) (zTr cA g t ++ zMd cA q w)) (hS : va_S (zAl s) s.heap H locs) (hj : 4 * j + 4 ≤ L) (hl : lv_has ls 4 (lvL b (g 0) (q 0) j)) (kk : LK p l e s m below meth c b D cA g q j Q ls) : W p l e room_1 s m #[Value.ref b] below meth c H locs (62 + 20 * j) (1472 + 115 * j) Q (F0 m 440 ls []) := by
  obtain ⟨hx, hb, hml, hown, hts, hX, hbl, hL, hK, hE⟩ := id C0
  have hA : ∀ r, s.heap.size ≤ r → zAl s r := fun _ h => h
  have hN := hE.1
  refine lv_aload_n hx hb dL_law_440 rfl (lv_at hl 2 rfl) ?_
  refine z_sld C0 hS hl (d := 1) (by omega) (by decide) dL_law_441 dL_law_442 dL_law_443 dL_law_444 dL_law_445 ?_
  refine z_Hp (wt := fun u => zTr cA g u ++ zMd cA q w) (va_runV (As := [.int (xs (4 * j + 1))]) (rest := []) ⟨hx, hb, hml, hown, hts⟩ (d_X9_observe l D cA g H.size (xs (4 * j + 1)) hR) (cwV 1 hts gL_law_X9_observe rfl rfl rfl (by decide +kernel) ⟨Nat.le_of_ble_eq_true rfl, Nat.le_of_ble_eq_true rfl⟩) (zqV hK hP hD hS hA hE List.perm_append_comm 0 rfl rfl) rfl rfl hl.1 rfl (lv_room (Nat.le_of_ble_eq_true rfl)) dL_law_446 ⟨(show (62 + 20 * j) + 20 ≤ 600000 by omega), (show (1472 + 115 * j) + 115 ≤ 7302250 by omega)⟩) hP hD hS hA List.perm_append_comm (fun u => List.perm_append_comm) (fun r1 t1 H1 locs1 hp1 hP hD hS => ?_)
  refine lv_aload_n hx hb dL_law_449 rfl (lv_at hl 3 rfl) ?_
  refine z_sld C0 hS hl (d := 1) (by omega) (by decide) dL_law_450 dL_law_451 dL_law_452 dL_law_453 dL_law_454 ?_
  refine z_Hp (post := fun (r : Int32) (u : vX10) => (r, u) = (fm_obs (pmN w) (nT (w.1 15)) w ((xs (4 * j + 1))))) (wt := fun u => zTr cA g t1 ++ zMd cA q u) (va_runV (As := [.int (xs (4 * j + 1))]) (rest := [.int r1]) ⟨hx, hb, hml, hown, hts⟩ (e_X10_observe l D cA q H1.size (xs (4 * j + 1)) hR) (cwV 1 hts gL_law_X10_observe rfl rfl rfl (by decide +kernel) ⟨Nat.le_of_ble_eq_true rfl, Nat.le_of_ble_eq_true rfl⟩) (zqV hK hP hD hS hA hE (List.Perm.refl _) 0 rfl rfl) rfl rfl hl.1 rfl (lv_room (Nat.le_of_ble_eq_true rfl)) dL_law_455 ⟨(show (62 + 20 * j) + 20 + 0 ≤ 600000 by omega), (show (1472 + 115 * j) + 115 + 0 ≤ 7302250 by omega)⟩) hP hD hS hA (List.Perm.refl _) (fun u => List.Perm.refl _) (fun r2 w1 H2 locs2 hp2 hP hD hS => ?_)
  obtain ⟨p1, p2⟩ := z_pr hp2
  refine lv_icmp_eq (tgt := 894) hx hb dL_law_458 (by decide) (fun _ => ?_) (fun h => absurd (hp1.1.trans p1.symm) h)
  refine W.widen (k := 82 + 20 * j) (n := 1587 + 115 * j) (by omega) (by omega) ?_
  exact kk t1 w1 H2 locs2 (by rw [p2]; exact hp1.2) hP hD hS
set_option maxHeartbeats 4000000 in
set_option maxRecDepth 100000 in
theorem lc_guess (C0 : LA p s m c b L xs D cA) (g q : Nat → Nat) (hR : Rel t w) (hP : va_P D vwCl (zTr cA g t ++ zMd cA q w) H) (hD : va_D (zAl s) (zTr cA g t ++ zMd cA q w)) (hS : va_S (zAl s) s.heap H locs) (hj : 4 * j + 4 ≤ L) (hl : lv_has ls 4 (lvL b (g 0) (q 0) j)) (kk : LK p l e s m below meth c b D cA g q j Q ls) : W p l e room_1 s m #[Value.ref b] below meth c H locs (62 + 20 * j) (1472 + 115 * j) Q (F0 m 463 ls []) := by
  obtain ⟨hx, hb, hml, hown, hts, hX, hbl, hL, hK, hE⟩ := id C0
  have hA : ∀ r, s.heap.size ≤ r → zAl s r := fun _ h => h
  have hN := hE.1
  refine lv_aload_n hx hb dL_law_463 rfl (lv_at hl 2 rfl) ?_
  refine z_sld C0 hS hl (d := 1) (by omega) (by decide) dL_law_464 dL_law_465 dL_law_466 dL_law_467 dL_law_468 ?_
  refine z_Hp (wt := fun u => zTr cA g u ++ zMd cA q w) (va_runV (As := [.int (xs (4 * j + 1))]) (rest := []) ⟨hx, hb, hml, hown, hts⟩ (d_X9_guess l D cA g H.size (xs (4 * j + 1)) hR) (cwV 1 hts gL_law_X9_guess rfl rfl rfl (by decide +kernel) ⟨Nat.le_of_ble_eq_true rfl, Nat.le_of_ble_eq_true rfl⟩) (zqV hK hP hD hS hA hE List.perm_append_comm 0 rfl rfl) rfl rfl hl.1 rfl (lv_room (Nat.le_of_ble_eq_true rfl)) dL_law_469 ⟨(show (62 + 20 * j) + 20 ≤ 600000 by omega), (show (1472 + 115 * j) + 115 ≤ 7302250 by omega)⟩) hP hD hS hA List.perm_append_comm (fun u => List.perm_append_comm) (fun r1 t1 H1 locs1 hp1 hP hD hS => ?_)
  refine lv_aload_n hx hb dL_law_472 rfl (lv_at hl 3 rfl) ?_
  refine z_sld C0 hS hl (d := 1) (by omega) (by decide) dL_law_473 dL_law_474 dL_law_475 dL_law_476 dL_law_477 ?_
  refine z_Hp (post := fun (r : Int32) (u : vX10) => (r, u) = (fm_guess (pmN w) w ((xs (4 * j + 1))))) (wt := fun u => zTr cA g t1 ++ zMd cA q u) (va_runV (As := [.int (xs (4 * j + 1))]) (rest := [.int r1]) ⟨hx, hb, hml, hown, hts⟩ (e_X10_guess l D cA q H1.size (xs (4 * j + 1)) hR) (cwV 1 hts gL_law_X10_guess rfl rfl rfl (by decide +kernel) ⟨Nat.le_of_ble_eq_true rfl, Nat.le_of_ble_eq_true rfl⟩) (zqV hK hP hD hS hA hE (List.Perm.refl _) 0 rfl rfl) rfl rfl hl.1 rfl (lv_room (Nat.le_of_ble_eq_true rfl)) dL_law_478 ⟨(show (62 + 20 * j) + 20 + 0 ≤ 600000 by omega), (show (1472 + 115 * j) + 115 + 0 ≤ 7302250 by omega)⟩) hP hD hS hA (List.Perm.refl _) (fun u => List.Perm.refl _) (fun r2 w1 H2 locs2 hp2 hP hD hS => ?_)
  obtain ⟨p1, p2⟩ := z_pr hp2
  refine lv_icmp_eq (tgt := 894) hx hb dL_law_481 (by decide) (fun _ => ?_) (fun h => absurd (hp1.1.trans p1.symm) h)
  refine W.widen (k := 82 + 20 * j) (n := 1587 + 115 * j) (by omega) (by omega) ?_
  exact kk t1 w1 H2 locs2 (by rw [p2]; exact hp1.2) hP hD hS
set_option maxHeartbeats 4000000 in
set_option maxRecDepth 100000 in
theorem lc_compass (C0 : LA p s m c b L xs D cA) (g q : Nat → Nat) (hR : Rel t w) (hP : va_P D vwCl (zTr cA g t ++ zMd cA q w) H) (hD : va_D (zAl s) (zTr cA g t ++ zMd cA q w)) (hS : va_S (zAl s) s.heap H locs) (hj : 4 * j + 4 ≤ L) (hl : lv_has ls 4 (lvL b (g 0) (q 0) j)) (kk : LK p l e s m below meth c b D cA g q j Q ls) : W p l e room_1 s m #[Value.ref b] below meth c H locs (62 + 20 * j) (1472 + 115 * j) Q (F0 m 486 ls []) := by
  obtain ⟨hx, hb, hml, hown, hts, hX, hbl, hL, hK, hE⟩ := id C0
  have hA : ∀ r, s.heap.size ≤ r → zAl s r := fun _ h => h
  have hN := hE.1
  refine lv_aload_n hx hb dL_law_486 rfl (lv_at hl 2 rfl) ?_
  refine z_sld C0 hS hl (d := 1) (by omega) (by decide) dL_law_487 dL_law_488 dL_law_489 dL_law_490 dL_law_491 ?_
  refine z_Ri (va_runV (As := [.int (xs (4 * j + 1))]) (rest := []) ⟨hx, hb, hml, hown, hts⟩ (d_X9_compass l D cA g (xs (4 * j + 1)) hR) (cwV 1 hts gL_law_X9_compass rfl rfl rfl (by decide +kernel) ⟨Nat.le_of_ble_eq_true rfl, Nat.le_of_ble_eq_true rfl⟩) (zqVR hK hP hN List.perm_append_comm 0 rfl rfl) rfl rfl hl.1 rfl (lv_room (Nat.le_of_ble_eq_true rfl)) dL_law_492 ⟨(show (62 + 20 * j) + 0 ≤ 600000 by omega), (show (1472 + 115 * j) + 0 ≤ 7302250 by omega)⟩) ?_
  refine lv_aload_n hx hb dL_law_495 rfl (lv_at hl 3 rfl) ?_
  refine z_sld C0 hS hl (d := 1) (by omega) (by decide) dL_law_496 dL_law_497 dL_law_498 dL_law_499 dL_law_500 ?_
  refine z_Ri (va_runV (As := [.int (xs (4 * j + 1))]) (rest := [.int (fm_compass (nT (w.1 15)) w.1 w.2.1 ((xs (4 * j + 1))))]) ⟨hx, hb, hml, hown, hts⟩ (e_X10_compass l D cA q (xs (4 * j + 1)) hR) (cwV 1 hts gL_law_X10_compass rfl rfl rfl (by decide +kernel) ⟨Nat.le_of_ble_eq_true rfl, Nat.le_of_ble_eq_true rfl⟩) (zqVR hK hP hN (List.Perm.refl _) 0 rfl rfl) rfl rfl hl.1 rfl (lv_room (Nat.le_of_ble_eq_true rfl)) dL_law_501 ⟨(show (62 + 20 * j) + 0 ≤ 600000 by omega), (show (1472 + 115 * j) + 0 ≤ 7302250 by omega)⟩) ?_
  refine lv_icmp_eq (tgt := 894) hx hb dL_law_504 (by decide) (fun _ => ?_) (fun h => absurd rfl h)
  refine W.widen (k := 82 + 20 * j) (n := 1587 + 115 * j) (by omega) (by omega) ?_
  exact kk t w H locs hR hP hD hS
set_option maxHeartbeats 4000000 in
set_option maxRecDepth 100000 in
theorem lc_turn (C0 : LA p s m c b L xs D cA) (g q : Nat → Nat) (hR : Rel t w) (hP : va_P D vwCl (zTr cA g t ++ zMd cA q w) H) (hD : va_D (zAl s) (zTr cA g t ++ zMd cA q w)) (hS : va_S (zAl s) s.heap H locs) (hj : 4 * j + 4 ≤ L) (hl : lv_has ls 4 (lvL b (g 0) (q 0) j)) (kk : LK p l e s m below meth c b D cA g q j Q ls) : W p l e room_1 s m #[Value.ref b] below meth c H locs (62 + 20 * j) (1472 + 115 * j) Q (F0 m 509 ls []) := by
  obtain ⟨hx, hb, hml, hown, hts, hX, hbl, hL, hK, hE⟩ := id C0
  have hA : ∀ r, s.heap.size ≤ r → zAl s r := fun _ h => h
  have hN := hE.1
  refine lv_aload_n hx hb dL_law_509 rfl (lv_at hl 2 rfl) ?_
  refine z_sld C0 hS hl (d := 1) (by omega) (by decide) dL_law_510 dL_law_511 dL_law_512 dL_law_513 dL_law_514 ?_
  refine z_sld C0 hS hl (d := 2) (by omega) (by decide) dL_law_515 dL_law_516 dL_law_517 dL_law_518 dL_law_519 ?_
  refine z_Ri (va_runV (As := [.int (xs (4 * j + 1)), .int (xs (4 * j + 2))]) (rest := []) ⟨hx, hb, hml, hown, hts⟩ (d_X9_turn l D cA g (xs (4 * j + 1)) (xs (4 * j + 2)) hR) (cwV 2 hts gL_law_X9_turn rfl rfl rfl (by decide +kernel) ⟨Nat.le_of_ble_eq_true rfl, Nat.le_of_ble_eq_true rfl⟩) (zqVR hK hP hN List.perm_append_comm 0 rfl rfl) rfl rfl hl.1 rfl (lv_room (Nat.le_of_ble_eq_true rfl)) dL_law_520 ⟨(show (62 + 20 * j) + 0 ≤ 600000 by omega), (show (1472 + 115 * j) + 0 ≤ 7302250 by omega)⟩) ?_
  refine lv_aload_n hx hb dL_law_523 rfl (lv_at hl 3 rfl) ?_
  refine z_sld C0 hS hl (d := 1) (by omega) (by decide) dL_law_524 dL_law_525 dL_law_526 dL_law_527 dL_law_528 ?_
  refine z_sld C0 hS hl (d := 2) (by omega) (by decide) dL_law_529 dL_law_530 dL_law_531 dL_law_532 dL_law_533 ?_
  refine z_Ri (va_runV (As := [.int (xs (4 * j + 1)), .int (xs (4 * j + 2))]) (rest := [.int (fm_turn w.1 ((xs (4 * j + 1))) ((xs (4 * j + 2))))]) ⟨hx, hb, hml, hown, hts⟩ (e_X10_turn l D cA q (xs (4 * j + 1)) (xs (4 * j + 2)) hR) (cwV 2 hts gL_law_X10_turn rfl rfl rfl (by decide +kernel) ⟨Nat.le_of_ble_eq_true rfl, Nat.le_of_ble_eq_true rfl⟩) (zqVR hK hP hN (List.Perm.refl _) 0 rfl rfl) rfl rfl hl.1 rfl (lv_room (Nat.le_of_ble_eq_true rfl)) dL_law_534 ⟨(show (62 + 20 * j) + 0 ≤ 600000 by omega), (show (1472 + 115 * j) + 0 ≤ 7302250 by omega)⟩) ?_
  refine lv_icmp_eq (tgt := 894) hx hb dL_law_537 (by decide) (fun _ => ?_) (fun h => absurd rfl h)
  refine W.widen (k := 82 + 20 * j) (n := 1587 + 115 * j) (by omega) (by omega) ?_
  exact kk t w H locs hR hP hD hS
set_option maxHeartbeats 4000000 in
set_option maxRecDepth 100000 in
theorem lc_check (C0 : LA p s m c b L xs D cA) (g q : Nat → Nat) (hR : Rel t w) (hP : va_P D vwCl (zTr cA g t ++ zMd cA q w) H) (hD : va_D (zAl s) (zTr cA g t ++ zMd cA q w)) (hS : va_S (zAl s) s.heap H locs) (hj : 4 * j + 4 ≤ L) (hl : lv_has ls 4 (lvL b (g 0) (q 0) j)) (kk : LK p l e s m below meth c b D cA g q j Q ls) : W p l e room_1 s m #[Value.ref b] below meth c H locs (62 + 20 * j) (1472 + 115 * j) Q (F0 m 542 ls []) := by
  obtain ⟨hx, hb, hml, hown, hts, hX, hbl, hL, hK, hE⟩ := id C0
  have hA : ∀ r, s.heap.size ≤ r → zAl s r := fun _ h => h
  have hN := hE.1
  refine lv_aload_n hx hb dL_law_542 rfl (lv_at hl 2 rfl) ?_
  refine z_sld C0 hS hl (d := 1) (by omega) (by decide) dL_law_543 dL_law_544 dL_law_545 dL_law_546 dL_law_547 ?_
  refine z_Ri (va_runV (As := [.int (xs (4 * j + 1))]) (rest := []) ⟨hx, hb, hml, hown, hts⟩ (d_X9_check l D cA g (xs (4 * j + 1)) hR) (cwV 1 hts gL_law_X9_check rfl rfl rfl (by decide +kernel) ⟨Nat.le_of_ble_eq_true rfl, Nat.le_of_ble_eq_true rfl⟩) (zqVR hK hP hN List.perm_append_comm 0 rfl rfl) rfl rfl hl.1 rfl (lv_room (Nat.le_of_ble_eq_true rfl)) dL_law_548 ⟨(show (62 + 20 * j) + 0 ≤ 600000 by omega), (show (1472 + 115 * j) + 0 ≤ 7302250 by omega)⟩) ?_
  refine lv_aload_n hx hb dL_law_551 rfl (lv_at hl 3 rfl) ?_
  refine z_sld C0 hS hl (d := 1) (by omega) (by decide) dL_law_552 dL_law_553 dL_law_554 dL_law_555 dL_law_556 ?_
  refine z_Ri (va_runV (As := [.int (xs (4 * j + 1))]) (rest := [.int (fm_check w.1 ((xs (4 * j + 1))))]) ⟨hx, hb, hml, hown, hts⟩ (e_X10_check l D cA q (xs (4 * j + 1)) hR) (cwV 1 hts gL_law_X10_check rfl rfl rfl (by decide +kernel) ⟨Nat.le_of_ble_eq_true rfl, Nat.le_of_ble_eq_true rfl⟩) (zqVR hK hP hN (List.Perm.refl _) 0 rfl rfl) rfl rfl hl.1 rfl (lv_room (Nat.le_of_ble_eq_true rfl)) dL_law_557 ⟨(show (62 + 20 * j) + 0 ≤ 600000 by omega), (show (1472 + 115 * j) + 0 ≤ 7302250 by omega)⟩) ?_
  refine lv_icmp_eq (tgt := 894) hx hb dL_law_560 (by decide) (fun _ => ?_) (fun h => absurd rfl h)
  refine W.widen (k := 82 + 20 * j) (n := 1587 + 115 * j) (by omega) (by omega) ?_
  exact kk t w H locs hR hP hD hS
set_option maxHeartbeats 4000000 in
set_option maxRecDepth 100000 in
theorem lc_reason (C0 : LA p s m c b L xs D cA) (g q : Nat → Nat) (hR : Rel t w) (hP : va_P D vwCl (zTr cA g t ++ zMd cA q w) H) (hD : va_D (zAl s) (zTr cA g t ++ zMd cA q w)) (hS : va_S (zAl s) s.heap H locs) (hj : 4 * j + 4 ≤ L) (hl : lv_has ls 4 (lvL b (g 0) (q 0) j)) (kk : LK p l e s m below meth c b D cA g q j Q ls) : W p l e room_1 s m #[Value.ref b] below meth c H locs (62 + 20 * j) (1472 + 115 * j) Q (F0 m 565 ls []) := by
  obtain ⟨hx, hb, hml, hown, hts, hX, hbl, hL, hK, hE⟩ := id C0
  have hA : ∀ r, s.heap.size ≤ r → zAl s r := fun _ h => h
  have hN := hE.1
  refine lv_aload_n hx hb dL_law_565 rfl (lv_at hl 2 rfl) ?_
  refine z_Ri (va_runV (As := []) (rest := []) ⟨hx, hb, hml, hown, hts⟩ (d_X9_reason l D cA g  hR) (cwV 0 hts gL_law_X9_reason rfl rfl rfl (by decide +kernel) ⟨Nat.le_of_ble_eq_true rfl, Nat.le_of_ble_eq_true rfl⟩) (zqVR hK hP hN List.perm_append_comm 0 rfl rfl) rfl rfl hl.1 rfl (lv_room (Nat.le_of_ble_eq_true rfl)) dL_law_566 ⟨(show (62 + 20 * j) + 0 ≤ 600000 by omega), (show (1472 + 115 * j) + 0 ≤ 7302250 by omega)⟩) ?_
  refine lv_aload_n hx hb dL_law_569 rfl (lv_at hl 3 rfl) ?_
  refine z_Ri (va_runV (As := []) (rest := [.int (fm_reason w.1 w.2.1)]) ⟨hx, hb, hml, hown, hts⟩ (e_X10_reason l D cA q  hR) (cwV 0 hts gL_law_X10_reason rfl rfl rfl (by decide +kernel) ⟨Nat.le_of_ble_eq_true rfl, Nat.le_of_ble_eq_true rfl⟩) (zqVR hK hP hN (List.Perm.refl _) 0 rfl rfl) rfl rfl hl.1 rfl (lv_room (Nat.le_of_ble_eq_true rfl)) dL_law_570 ⟨(show (62 + 20 * j) + 0 ≤ 600000 by omega), (show (1472 + 115 * j) + 0 ≤ 7302250 by omega)⟩) ?_
  refine lv_icmp_eq (tgt := 894) hx hb dL_law_573 (by decide) (fun _ => ?_) (fun h => absurd rfl h)
  refine W.widen (k := 82 + 20 * j) (n := 1587 + 115 * j) (by omega) (by omega) ?_
  exact kk t w H locs hR hP hD hS
set_option maxHeartbeats 4000000 in
set_option maxRecDepth 100000 in
theorem lc_state (C0 : LA p s m c b L xs D cA) (g q : Nat → Nat) (hR : Rel t w) (hP : va_P D vwCl (zTr cA g t ++ zMd cA q w) H) (hD : va_D (zAl s) (zTr cA g t ++ zMd cA q w)) (hS : va_S (zAl s) s.heap H locs) (hj : 4 * j + 4 ≤ L) (hl : lv_has ls 4 (lvL b (g 0) (q 0) j)) (kk : LK p l e s m below meth c b D cA g q j Q ls) : W p l e room_1 s m #[Value.ref b] below meth c H locs (62 + 20 * j) (1472 + 115 * j) Q (F0 m 578 ls []) := by
  obtain ⟨hx, hb, hml, hown, hts, hX, hbl, hL, hK, hE⟩ := id C0
  have hA : ∀ r, s.heap.size ≤ r → zAl s r := fun _ h => h
  have hN := hE.1
  refine lv_aload_n hx hb dL_law_578 rfl (lv_at hl 2 rfl) ?_
  refine z_sld C0 hS hl (d := 1) (by omega) (by decide) dL_law_579 dL_law_580 dL_law_581 dL_law_582 dL_law_583 ?_
  refine z_Ri (va_runV (As := [.int (xs (4 * j + 1))]) (rest := []) ⟨hx, hb, hml, hown, hts⟩ (d_X9_state l D cA g (xs (4 * j + 1)) hR) (cwV 1 hts gL_law_X9_state rfl rfl rfl (by decide +kernel) ⟨Nat.le_of_ble_eq_true rfl, Nat.le_of_ble_eq_true rfl⟩) (zqVR hK hP hN List.perm_append_comm 0 rfl rfl) rfl rfl hl.1 rfl (lv_room (Nat.le_of_ble_eq_true rfl)) dL_law_584 ⟨(show (62 + 20 * j) + 0 ≤ 600000 by omega), (show (1472 + 115 * j) + 0 ≤ 7302250 by omega)⟩) ?_
  refine lv_aload_n hx hb dL_law_587 rfl (lv_at hl 3 rfl) ?_
  refine z_sld C0 hS hl (d := 1) (by omega) (by decide) dL_law_588 dL_law_589 dL_law_590 dL_law_591 dL_law_592 ?_
  refine z_Ri (va_runV (As := [.int (xs (4 * j + 1))]) (rest := [.int (fm_state w.1 w.2.2.2.2.2.2.1 w.2.2.2.2.2.2.2.2.2.2.2.1 ((xs (4 * j + 1))))]) ⟨hx, hb, hml, hown, hts⟩ (e_X10_state l D cA q (xs (4 * j + 1)) hR) (cwV 1 hts gL_law_X10_state rfl rfl rfl (by decide +kernel) ⟨Nat.le_of_ble_eq_true rfl, Nat.le_of_ble_eq_true rfl⟩) (zqVR hK hP hN (List.Perm.refl _) 0 rfl rfl) rfl rfl hl.1 rfl (lv_room (Nat.le_of_ble_eq_true rfl)) dL_law_593 ⟨(show (62 + 20 * j) + 0 ≤ 600000 by omega), (show (1472 + 115 * j) + 0 ≤ 7302250 by omega)⟩) ?_
  refine lv_icmp_eq (tgt := 894) hx hb dL_law_596 (by decide) (fun _ => ?_) (fun h => absurd rfl h)
  refine W.widen (k := 82 + 20 * j) (n := 1587 + 115 * j) (by omega) (by omega) ?_
  exact kk t w H locs hR hP hD hS
set_option maxHeartbeats 4000000 in
set_option maxRecDepth 100000 in
theorem lc_wave (C0 : LA p s m c b L xs D cA) (g q : Nat → Nat) (hR : Rel t w) (hP : va_P D vwCl (zTr cA g t ++ zMd cA q w) H) (hD : va_D (zAl s) (zTr cA g t ++ zMd cA q w)) (hS : va_S (zAl s) s.heap H locs) (hj : 4 * j + 4 ≤ L) (hl : lv_has ls 4 (lvL b (g 0) (q 0) j)) (kk : LK p l e s m below meth c b D cA g q j Q ls) : W p l e room_1 s m #[Value.ref b] below meth c H locs (62 + 20 * j) (1472 + 115 * j) Q (F0 m 601 ls []) := by
  obtain ⟨hx, hb, hml, hown, hts, hX, hbl, hL, hK, hE⟩ := id C0
  have hA : ∀ r, s.heap.size ≤ r → zAl s r := fun _ h => h
  have hN := hE.1
  refine lv_aload_n hx hb dL_law_601 rfl (lv_at hl 2 rfl) ?_
  refine z_sld C0 hS hl (d := 1) (by omega) (by decide) dL_law_602 dL_law_603 dL_law_604 dL_law_605 dL_law_606 ?_
  refine z_sld C0 hS hl (d := 2) (by omega) (by decide) dL_law_607 dL_law_608 dL_law_609 dL_law_610 dL_law_611 ?_
  refine z_Ri (va_runV (As := [.int (xs (4 * j + 1)), .int (xs (4 * j + 2))]) (rest := []) ⟨hx, hb, hml, hown, hts⟩ (d_X9_wave l D cA g (xs (4 * j + 1)) (xs (4 * j + 2)) hR) (cwV 2 hts gL_law_X9_wave rfl rfl rfl (by decide +kernel) ⟨Nat.le_of_ble_eq_true rfl, Nat.le_of_ble_eq_true rfl⟩) (zqVR hK hP hN List.perm_append_comm 0 rfl rfl) rfl rfl hl.1 rfl (lv_room (Nat.le_of_ble_eq_true rfl)) dL_law_612 ⟨(show (62 + 20 * j) + 0 ≤ 600000 by omega), (show (1472 + 115 * j) + 0 ≤ 7302250 by omega)⟩) ?_
  refine lv_aload_n hx hb dL_law_615 rfl (lv_at hl 3 rfl) ?_
  refine z_sld C0 hS hl (d := 1) (by omega) (by decide) dL_law_616 dL_law_617 dL_law_618 dL_law_619 dL_law_620 ?_
  refine z_sld C0 hS hl (d := 2) (by omega) (by decide) dL_law_621 dL_law_622 dL_law_623 dL_law_624 dL_law_625 ?_
  refine z_Ri (va_runV (As := [.int (xs (4 * j + 1)), .int (xs (4 * j + 2))]) (rest := [.int (fm_wave ((xs (4 * j + 1))) ((xs (4 * j + 2))))]) ⟨hx, hb, hml, hown, hts⟩ (e_X10_wave l D cA q (xs (4 * j + 1)) (xs (4 * j + 2)) hR) (cwV 2 hts gL_law_X10_wave rfl rfl rfl (by decide +kernel) ⟨Nat.le_of_ble_eq_true rfl, Nat.le_of_ble_eq_true rfl⟩) (zqVR hK hP hN (List.Perm.refl _) 0 rfl rfl) rfl rfl hl.1 rfl (lv_room (Nat.le_of_ble_eq_true rfl)) dL_law_626 ⟨(show (62 + 20 * j) + 0 ≤ 600000 by omega), (show (1472 + 115 * j) + 0 ≤ 7302250 by omega)⟩) ?_
  refine lv_icmp_eq (tgt := 894) hx hb dL_law_629 (by decide) (fun _ => ?_) (fun h => absurd rfl h)
  refine W.widen (k := 82 + 20 * j) (n := 1587 + 115 * j) (by omega) (by omega) ?_
  exact kk t w H locs hR hP hD hS
set_option maxHeartbeats 4000000 in
set_option maxRecDepth 100000 in
theorem lc_restAt (C0 : LA p s m c b L xs D cA) (g q : Nat → Nat) (hR : Rel t w) (hP : va_P D vwCl (zTr cA g t ++ zMd cA q w) H) (hD : va_D (zAl s) (zTr cA g t ++ zMd cA q w)) (hS : va_S (zAl s) s.heap H locs) (hj : 4 * j + 4 ≤ L) (hl : lv_has ls 4 (lvL b (g 0) (q 0) j)) (kk : LK p l e s m below meth c b D cA g q j Q ls) : W p l e room_1 s m #[Value.ref b] below meth c H locs (62 + 20 * j) (1472 + 115 * j) Q (F0 m 634 ls []) := by
  obtain ⟨hx, hb, hml, hown, hts, hX, hbl, hL, hK, hE⟩ := id C0
  have hA : ∀ r, s.heap.size ≤ r → zAl s r := fun _ h => h
  have hN := hE.1
  refine lv_aload_n hx hb dL_law_634 rfl (lv_at hl 2 rfl) ?_
  refine z_sld C0 hS hl (d := 1) (by omega) (by decide) dL_law_635 dL_law_636 dL_law_637 dL_law_638 dL_law_639 ?_
  refine z_sld C0 hS hl (d := 2) (by omega) (by decide) dL_law_640 dL_law_641 dL_law_642 dL_law_643 dL_law_644 ?_
  refine z_sld C0 hS hl (d := 3) (by omega) (by decide) dL_law_645 dL_law_646 dL_law_647 dL_law_648 dL_law_649 ?_
  refine z_Ri (va_runV (As := [.int (xs (4 * j + 1)), .int (xs (4 * j + 2)), .int (xs (4 * j + 3))]) (rest := []) ⟨hx, hb, hml, hown, hts⟩ (d_X9_restAt l D cA g (xs (4 * j + 1)) (xs (4 * j + 2)) (xs (4 * j + 3)) hR) (cwV 3 hts gL_law_X9_restAt rfl rfl rfl (by decide +kernel) ⟨Nat.le_of_ble_eq_true rfl, Nat.le_of_ble_eq_true rfl⟩) (zqVR hK hP hN List.perm_append_comm 0 rfl rfl) rfl rfl hl.1 rfl (lv_room (Nat.le_of_ble_eq_true rfl)) dL_law_650 ⟨(show (62 + 20 * j) + 0 ≤ 600000 by omega), (show (1472 + 115 * j) + 0 ≤ 7302250 by omega)⟩) ?_
  refine lv_aload_n hx hb dL_law_653 rfl (lv_at hl 3 rfl) ?_
  refine z_sld C0 hS hl (d := 1) (by omega) (by decide) dL_law_654 dL_law_655 dL_law_656 dL_law_657 dL_law_658 ?_
  refine z_sld C0 hS hl (d := 2) (by omega) (by decide) dL_law_659 dL_law_660 dL_law_661 dL_law_662 dL_law_663 ?_
  refine z_sld C0 hS hl (d := 3) (by omega) (by decide) dL_law_664 dL_law_665 dL_law_666 dL_law_667 dL_law_668 ?_
  refine z_Ri (va_runV (As := [.int (xs (4 * j + 1)), .int (xs (4 * j + 2)), .int (xs (4 * j + 3))]) (rest := [.int (fm_restAt w.1 ((xs (4 * j + 1))) ((xs (4 * j + 2))) ((xs (4 * j + 3))))]) ⟨hx, hb, hml, hown, hts⟩ (e_X10_restAt l D cA q (xs (4 * j + 1)) (xs (4 * j + 2)) (xs (4 * j + 3)) hR) (cwV 3 hts gL_law_X10_restAt rfl rfl rfl (by decide +kernel) ⟨Nat.le_of_ble_eq_true rfl, Nat.le_of_ble_eq_true rfl⟩) (zqVR hK hP hN (List.Perm.refl _) 0 rfl rfl) rfl rfl hl.1 rfl (lv_room (Nat.le_of_ble_eq_true rfl)) dL_law_669 ⟨(show (62 + 20 * j) + 0 ≤ 600000 by omega), (show (1472 + 115 * j) + 0 ≤ 7302250 by omega)⟩) ?_
  refine lv_icmp_eq (tgt := 894) hx hb dL_law_672 (by decide) (fun _ => ?_) (fun h => absurd rfl h)
  refine W.widen (k := 82 + 20 * j) (n := 1587 + 115 * j) (by omega) (by omega) ?_
  exact kk t w H locs hR hP hD hS
set_option maxHeartbeats 4000000 in
set_option maxRecDepth 100000 in
theorem lc_calmIn (C0 : LA p s m c b L xs D cA) (g q : Nat → Nat) (hR : Rel t w) (hP : va_P D vwCl (zTr cA g t ++ zMd cA q w) H) (hD : va_D (zAl s) (zTr cA g t ++ zMd cA q w)) (hS : va_S (zAl s) s.heap H locs) (hj : 4 * j + 4 ≤ L) (hl : lv_has ls 4 (lvL b (g 0) (q 0) j)) (kk : LK p l e s m below meth c b D cA g q j Q ls) : W p l e room_1 s m #[Value.ref b] below meth c H locs (62 + 20 * j) (1472 + 115 * j) Q (F0 m 677 ls []) := by
  obtain ⟨hx, hb, hml, hown, hts, hX, hbl, hL, hK, hE⟩ := id C0
  have hA : ∀ r, s.heap.size ≤ r → zAl s r := fun _ h => h
  have hN := hE.1
  refine lv_aload_n hx hb dL_law_677 rfl (lv_at hl 2 rfl) ?_
  refine z_sld C0 hS hl (d := 1) (by omega) (by decide) dL_law_678 dL_law_679 dL_law_680 dL_law_681 dL_law_682 ?_
  refine z_sld C0 hS hl (d := 2) (by omega) (by decide) dL_law_683 dL_law_684 dL_law_685 dL_law_686 dL_law_687 ?_
  refine z_Hp (wt := fun u => zTr cA g u ++ zMd cA q w) (va_runV (As := [.int (xs (4 * j + 1)), .int (xs (4 * j + 2))]) (rest := []) ⟨hx, hb, hml, hown, hts⟩ (d_X9_calmIn l D cA g H.size (xs (4 * j + 1)) (xs (4 * j + 2)) hR) (cwV 2 hts gL_law_X9_calmIn rfl rfl rfl (by decide +kernel) ⟨Nat.le_of_ble_eq_true rfl, Nat.le_of_ble_eq_true rfl⟩) (zqV hK hP hD hS hA hE List.perm_append_comm 0 rfl rfl) rfl rfl hl.1 rfl (lv_room (Nat.le_of_ble_eq_true rfl)) dL_law_688 ⟨(show (62 + 20 * j) + 0 ≤ 600000 by omega), (show (1472 + 115 * j) + 0 ≤ 7302250 by omega)⟩) hP hD hS hA List.perm_append_comm (fun u => List.perm_append_comm) (fun r1 t1 H1 locs1 hp1 hP hD hS => ?_)
  refine lv_aload_n hx hb dL_law_691 rfl (lv_at hl 3 rfl) ?_
  refine z_sld C0 hS hl (d := 1) (by omega) (by decide) dL_law_692 dL_law_693 dL_law_694 dL_law_695 dL_law_696 ?_
  refine z_sld C0 hS hl (d := 2) (by omega) (by decide) dL_law_697 dL_law_698 dL_law_699 dL_law_700 dL_law_701 ?_
  refine z_Hp (post := fun (r : Int32) (u : vX10) => (r, u) = (fm_calmIn w ((xs (4 * j + 1))) ((xs (4 * j + 2))))) (wt := fun u => zTr cA g t1 ++ zMd cA q u) (va_runV (As := [.int (xs (4 * j + 1)), .int (xs (4 * j + 2))]) (rest := [.int r1]) ⟨hx, hb, hml, hown, hts⟩ (e_X10_calmIn l D cA q H1.size (xs (4 * j + 1)) (xs (4 * j + 2)) hR) (cwV 2 hts gL_law_X10_calmIn rfl rfl rfl (by decide +kernel) ⟨Nat.le_of_ble_eq_true rfl, Nat.le_of_ble_eq_true rfl⟩) (zqV hK hP hD hS hA hE (List.Perm.refl _) 0 rfl rfl) rfl rfl hl.1 rfl (lv_room (Nat.le_of_ble_eq_true rfl)) dL_law_702 ⟨(show (62 + 20 * j) + 0 + 0 ≤ 600000 by omega), (show (1472 + 115 * j) + 0 + 0 ≤ 7302250 by omega)⟩) hP hD hS hA (List.Perm.refl _) (fun u => List.Perm.refl _) (fun r2 w1 H2 locs2 hp2 hP hD hS => ?_)
  obtain ⟨p1, p2⟩ := z_pr hp2
  refine lv_icmp_eq (tgt := 894) hx hb dL_law_705 (by decide) (fun _ => ?_) (fun h => absurd (hp1.1.trans p1.symm) h)
  refine W.widen (k := 82 + 20 * j) (n := 1587 + 115 * j) (by omega) (by omega) ?_
  exact kk t1 w1 H2 locs2 (by rw [p2]; exact hp1.2) hP hD hS
set_option maxHeartbeats 4000000 in
set_option maxRecDepth 100000 in
theorem lc_bestLevel (C0 : LA p s m c b L xs D cA) (g q : Nat → Nat) (hR : Rel t w) (hP : va_P D vwCl (zTr cA g t ++ zMd cA q w) H) (hD : va_D (zAl s) (zTr cA g t ++ zMd cA q w)) (hS : va_S (zAl s) s.heap H locs) (hj : 4 * j + 4 ≤ L) (hl : lv_has ls 4 (lvL b (g 0) (q 0) j)) (kk : LK p l e s m below meth c b D cA g q j Q ls) : W p l e room_1 s m #[Value.ref b] below meth c H locs (62 + 20 * j) (1472 + 115 * j) Q (F0 m 710 ls []) := by
  obtain ⟨hx, hb, hml, hown, hts, hX, hbl, hL, hK, hE⟩ := id C0
  have hA : ∀ r, s.heap.size ≤ r → zAl s r := fun _ h => h
  have hN := hE.1
  refine lv_aload_n hx hb dL_law_710 rfl (lv_at hl 2 rfl) ?_
  refine z_sld C0 hS hl (d := 1) (by omega) (by decide) dL_law_711 dL_law_712 dL_law_713 dL_law_714 dL_law_715 ?_
  refine z_sld C0 hS hl (d := 2) (by omega) (by decide) dL_law_716 dL_law_717 dL_law_718 dL_law_719 dL_law_720 ?_
  refine z_Hp (wt := fun u => zTr cA g u ++ zMd cA q w) (va_runV (As := [.int (xs (4 * j + 1)), .int (xs (4 * j + 2))]) (rest := []) ⟨hx, hb, hml, hown, hts⟩ (d_X9_bestLevel l D cA g H.size (xs (4 * j + 1)) (xs (4 * j + 2)) hR) (cwV 2 hts gL_law_X9_bestLevel rfl rfl rfl (by decide +kernel) ⟨Nat.le_of_ble_eq_true rfl, Nat.le_of_ble_eq_true rfl⟩) (zqV hK hP hD hS hA hE List.perm_append_comm 0 rfl rfl) rfl rfl hl.1 rfl (lv_room (Nat.le_of_ble_eq_true rfl)) dL_law_721 ⟨(show (62 + 20 * j) + 0 ≤ 600000 by omega), (show (1472 + 115 * j) + 0 ≤ 7302250 by omega)⟩) hP hD hS hA List.perm_append_comm (fun u => List.perm_append_comm) (fun r1 t1 H1 locs1 hp1 hP hD hS => ?_)
  refine lv_aload_n hx hb dL_law_724 rfl (lv_at hl 3 rfl) ?_
  refine z_sld C0 hS hl (d := 1) (by omega) (by decide) dL_law_725 dL_law_726 dL_law_727 dL_law_728 dL_law_729 ?_
  refine z_sld C0 hS hl (d := 2) (by omega) (by decide) dL_law_730 dL_law_731 dL_law_732 dL_law_733 dL_law_734 ?_
  refine z_Hp (post := fun (r : Int32) (u : vX10) => (r, u) = (fm_best w ((xs (4 * j + 1))) ((xs (4 * j + 2))))) (wt := fun u => zTr cA g t1 ++ zMd cA q u) (va_runV (As := [.int (xs (4 * j + 1)), .int (xs (4 * j + 2))]) (rest := [.int r1]) ⟨hx, hb, hml, hown, hts⟩ (e_X10_bestLevel l D cA q H1.size (xs (4 * j + 1)) (xs (4 * j + 2)) hR) (cwV 2 hts gL_law_X10_bestLevel rfl rfl rfl (by decide +kernel) ⟨Nat.le_of_ble_eq_true rfl, Nat.le_of_ble_eq_true rfl⟩) (zqV hK hP hD hS hA hE (List.Perm.refl _) 0 rfl rfl) rfl rfl hl.1 rfl (lv_room (Nat.le_of_ble_eq_true rfl)) dL_law_735 ⟨(show (62 + 20 * j) + 0 + 0 ≤ 600000 by omega), (show (1472 + 115 * j) + 0 + 0 ≤ 7302250 by omega)⟩) hP hD hS hA (List.Perm.refl _) (fun u => List.Perm.refl _) (fun r2 w1 H2 locs2 hp2 hP hD hS => ?_)
  obtain ⟨p1, p2⟩ := z_pr hp2
  refine lv_icmp_eq (tgt := 894) hx hb dL_law_738 (by decide) (fun _ => ?_) (fun h => absurd (hp1.1.trans p1.symm) h)
  refine W.widen (k := 82 + 20 * j) (n := 1587 + 115 * j) (by omega) (by omega) ?_
  exact kk t1 w1 H2 locs2 (by rw [p2]; exact hp1.2) hP hD hS
set_option maxHeartbeats 4000000 in
set_option maxRecDepth 100000 in
theorem lc_put (C0 : LA p s m c b L xs D cA) (g q : Nat → Nat) (hR : Rel t w) (hP : va_P D vwCl (zTr cA g t ++ zMd cA q w) H) (hD : va_D (zAl s) (zTr cA g t ++ zMd cA q w)) (hS : va_S (zAl s) s.heap H locs) (hj : 4 * j + 4 ≤ L) (hl : lv_has ls 4 (lvL b (g 0) (q 0) j)) (kk : LK p l e s m below meth c b D cA g q j Q ls) : W p l e room_1 s m #[Value.ref b] below meth c H locs (62 + 20 * j) (1472 + 115 * j) Q (F0 m 743 ls []) := by
  obtain ⟨hx, hb, hml, hown, hts, hX, hbl, hL, hK, hE⟩ := id C0
  have hA : ∀ r, s.heap.size ≤ r → zAl s r := fun _ h => h
  have hN := hE.1
  refine lv_aload_n hx hb dL_law_743 rfl (lv_at hl 2 rfl) ?_
  refine z_sld C0 hS hl (d := 1) (by omega) (by decide) dL_law_744 dL_law_745 dL_law_746 dL_law_747 dL_law_748 ?_
  refine lv_i2l (v := (xs (4 * j + 1)).toInt64) hx hb dL_law_749 rfl ?_
  refine lv_bipush (v := 32) hx hb dL_law_750 (by decide) ?_
  refine lv_lshl (v := ((xs (4 * j + 1)).toInt64 <<< ((32 : Int32).toInt64 &&& 63))) hx hb dL_law_752 rfl ?_
  refine z_sld C0 hS hl (d := 2) (by omega) (by decide) dL_law_753 dL_law_754 dL_law_755 dL_law_756 dL_law_757 ?_
  refine lv_i2l (v := (xs (4 * j + 2)).toInt64) hx hb dL_law_758 rfl ?_
  refine lv_ldc2 (v := 4294967295) hx hb hown (hts (.constantLong RL 101 4294967295) (List.mem_of_getElem? (i := 6) rfl)) dL_law_759 ?_
  refine lv_land hx hb dL_law_762 ?_
  refine lv_lor hx hb dL_law_763 ?_
  refine z_Hp (wt := fun u => zTr cA g u ++ zMd cA q w) (va_runV (As := [.long (((xs (4 * j + 1)).toInt64 <<< ((32 : Int32).toInt64 &&& 63)) ||| ((xs (4 * j + 2)).toInt64 &&& 4294967295))]) (rest := []) ⟨hx, hb, hml, hown, hts⟩ (d_X9_put l D cA g H.size (((xs (4 * j + 1)).toInt64 <<< ((32 : Int32).toInt64 &&& 63)) ||| ((xs (4 * j + 2)).toInt64 &&& 4294967295)) hR) (cwV 1 hts gL_law_X9_put rfl rfl rfl (by decide +kernel) ⟨Nat.le_of_ble_eq_true rfl, Nat.le_of_ble_eq_true rfl⟩) (zqV hK hP hD hS hA hE List.perm_append_comm 0 rfl rfl) rfl rfl hl.1 rfl (lv_room (Nat.le_of_ble_eq_true rfl)) dL_law_764 ⟨(show (62 + 20 * j) + 0 ≤ 600000 by omega), (show (1472 + 115 * j) + 0 ≤ 7302250 by omega)⟩) hP hD hS hA List.perm_append_comm (fun u => List.perm_append_comm) (fun r1 t1 H1 locs1 hp1 hP hD hS => ?_)
  refine lv_aload_n hx hb dL_law_767 rfl (lv_at hl 3 rfl) ?_
  refine z_sld C0 hS hl (d := 1) (by omega) (by decide) dL_law_768 dL_law_769 dL_law_770 dL_law_771 dL_law_772 ?_
  refine lv_i2l (v := (xs (4 * j + 1)).toInt64) hx hb dL_law_773 rfl ?_
  refine lv_bipush (v := 32) hx hb dL_law_774 (by decide) ?_
  refine lv_lshl (v := ((xs (4 * j + 1)).toInt64 <<< ((32 : Int32).toInt64 &&& 63))) hx hb dL_law_776 rfl ?_
  refine z_sld C0 hS hl (d := 2) (by omega) (by decide) dL_law_777 dL_law_778 dL_law_779 dL_law_780 dL_law_781 ?_
  refine lv_i2l (v := (xs (4 * j + 2)).toInt64) hx hb dL_law_782 rfl ?_
  refine lv_ldc2 (v := 4294967295) hx hb hown (hts (.constantLong RL 101 4294967295) (List.mem_of_getElem? (i := 6) rfl)) dL_law_783 ?_
  refine lv_land hx hb dL_law_786 ?_
  refine lv_lor hx hb dL_law_787 ?_
  refine z_Hp (post := fun (r : Int32) (u : vX10) => (r, u) = (fm_put (nT (fq w)) w ((((xs (4 * j + 1)).toInt64 <<< ((32 : Int32).toInt64 &&& 63)) ||| ((xs (4 * j + 2)).toInt64 &&& 4294967295))))) (wt := fun u => zTr cA g t1 ++ zMd cA q u) (va_runV (As := [.long (((xs (4 * j + 1)).toInt64 <<< ((32 : Int32).toInt64 &&& 63)) ||| ((xs (4 * j + 2)).toInt64 &&& 4294967295))]) (rest := [.int r1]) ⟨hx, hb, hml, hown, hts⟩ (e_X10_put l D cA q H1.size (((xs (4 * j + 1)).toInt64 <<< ((32 : Int32).toInt64 &&& 63)) ||| ((xs (4 * j + 2)).toInt64 &&& 4294967295)) hR) (cwV 1 hts gL_law_X10_put rfl rfl rfl (by decide +kernel) ⟨Nat.le_of_ble_eq_true rfl, Nat.le_of_ble_eq_true rfl⟩) (zqV hK hP hD hS hA hE (List.Perm.refl _) 0 rfl rfl) rfl rfl hl.1 rfl (lv_room (Nat.le_of_ble_eq_true rfl)) dL_law_788 ⟨(show (62 + 20 * j) + 0 + 0 ≤ 600000 by omega), (show (1472 + 115 * j) + 0 + 0 ≤ 7302250 by omega)⟩) hP hD hS hA (List.Perm.refl _) (fun u => List.Perm.refl _) (fun r2 w1 H2 locs2 hp2 hP hD hS => ?_)
  obtain ⟨p1, p2⟩ := z_pr hp2
  refine lv_icmp_eq (tgt := 894) hx hb dL_law_791 (by decide) (fun _ => ?_) (fun h => absurd (hp1.1.trans p1.symm) h)
  refine W.widen (k := 82 + 20 * j) (n := 1587 + 115 * j) (by omega) (by omega) ?_
  exact kk t1 w1 H2 locs2 (by rw [p2]; exact hp1.2) hP hD hS
set_option maxHeartbeats 4000000 in
set_option maxRecDepth 100000 in
theorem lc_wipe (C0 : LA p s m c b L xs D cA) (g q : Nat → Nat) (hR : Rel t w) (hP : va_P D vwCl (zTr cA g t ++ zMd cA q w) H) (hD : va_D (zAl s) (zTr cA g t ++ zMd cA q w)) (hS : va_S (zAl s) s.heap H locs) (hj : 4 * j + 4 ≤ L) (hl : lv_has ls 4 (lvL b (g 0) (q 0) j)) (kk : LK p l e s m below meth c b D cA g q j Q ls) : W p l e room_1 s m #[Value.ref b] below meth c H locs (62 + 20 * j) (1472 + 115 * j) Q (F0 m 796 ls []) := by
  obtain ⟨hx, hb, hml, hown, hts, hX, hbl, hL, hK, hE⟩ := id C0
  have hA : ∀ r, s.heap.size ≤ r → zAl s r := fun _ h => h
  have hN := hE.1
  refine lv_aload_n hx hb dL_law_796 rfl (lv_at hl 2 rfl) ?_
  refine z_Hp (wt := fun u => zTr cA g u ++ zMd cA q w) (va_runV (As := []) (rest := []) ⟨hx, hb, hml, hown, hts⟩ (d_X9_wipe l D cA g H.size  hR) (cwV 0 hts gL_law_X9_wipe rfl rfl rfl (by decide +kernel) ⟨Nat.le_of_ble_eq_true rfl, Nat.le_of_ble_eq_true rfl⟩) (zqV hK hP hD hS hA hE List.perm_append_comm 0 rfl rfl) rfl rfl hl.1 rfl (lv_room (Nat.le_of_ble_eq_true rfl)) dL_law_797 ⟨(show (62 + 20 * j) + 0 ≤ 600000 by omega), (show (1472 + 115 * j) + 0 ≤ 7302250 by omega)⟩) hP hD hS hA List.perm_append_comm (fun u => List.perm_append_comm) (fun r1 t1 H1 locs1 hp1 hP hD hS => ?_)
  refine lv_aload_n hx hb dL_law_800 rfl (lv_at hl 3 rfl) ?_
  refine z_Hp (post := fun (r : Int32) (u : vX10) => (r, u) = (fm_wipe w)) (wt := fun u => zTr cA g t1 ++ zMd cA q u) (va_runV (As := []) (rest := [.int r1]) ⟨hx, hb, hml, hown, hts⟩ (e_X10_wipe l D cA q H1.size  hR) (cwV 0 hts gL_law_X10_wipe rfl rfl rfl (by decide +kernel) ⟨Nat.le_of_ble_eq_true rfl, Nat.le_of_ble_eq_true rfl⟩) (zqV hK hP hD hS hA hE (List.Perm.refl _) 0 rfl rfl) rfl rfl hl.1 rfl (lv_room (Nat.le_of_ble_eq_true rfl)) dL_law_801 ⟨(show (62 + 20 * j) + 0 + 0 ≤ 600000 by omega), (show (1472 + 115 * j) + 0 + 0 ≤ 7302250 by omega)⟩) hP hD hS hA (List.Perm.refl _) (fun u => List.Perm.refl _) (fun r2 w1 H2 locs2 hp2 hP hD hS => ?_)
  obtain ⟨p1, p2⟩ := z_pr hp2
  refine lv_icmp_eq (tgt := 894) hx hb dL_law_804 (by decide) (fun _ => ?_) (fun h => absurd (hp1.1.trans p1.symm) h)
  refine W.widen (k := 82 + 20 * j) (n := 1587 + 115 * j) (by omega) (by omega) ?_
  exact kk t1 w1 H2 locs2 (by rw [p2]; exact hp1.2) hP hD hS
set_option maxHeartbeats 4000000 in
set_option maxRecDepth 100000 in
theorem lc_fault (C0 : LA p s m c b L xs D cA) (g q : Nat → Nat) (hR : Rel t w) (hP : va_P D vwCl (zTr cA g t ++ zMd cA q w) H) (hD : va_D (zAl s) (zTr cA g t ++ zMd cA q w)) (hS : va_S (zAl s) s.heap H locs) (hj : 4 * j + 4 ≤ L) (hl : lv_has ls 4 (lvL b (g 0) (q 0) j)) (kk : LK p l e s m below meth c b D cA g q j Q ls) : W p l e room_1 s m #[Value.ref b] below meth c H locs (62 + 20 * j) (1472 + 115 * j) Q (F0 m 809 ls []) := by
  obtain ⟨hx, hb, hml, hown, hts, hX, hbl, hL, hK, hE⟩ := id C0
  have hA : ∀ r, s.heap.size ≤ r → zAl s r := fun _ h => h
  have hN := hE.1
  refine lv_aload_n hx hb dL_law_809 rfl (lv_at hl 2 rfl) ?_
  refine z_Hp (wt := fun u => zTr cA g u ++ zMd cA q w) (va_runV (As := []) (rest := []) ⟨hx, hb, hml, hown, hts⟩ (d_X9_fault l D cA g H.size  hR) (cwV 0 hts gL_law_X9_fault rfl rfl rfl (by decide +kernel) ⟨Nat.le_of_ble_eq_true rfl, Nat.le_of_ble_eq_true rfl⟩) (zqV hK hP hD hS hA hE List.perm_append_comm 0 rfl rfl) rfl rfl hl.1 rfl (lv_room (Nat.le_of_ble_eq_true rfl)) dL_law_810 ⟨(show (62 + 20 * j) + 0 ≤ 600000 by omega), (show (1472 + 115 * j) + 0 ≤ 7302250 by omega)⟩) hP hD hS hA List.perm_append_comm (fun u => List.perm_append_comm) (fun r1 t1 H1 locs1 hp1 hP hD hS => ?_)
  refine lv_aload_n hx hb dL_law_813 rfl (lv_at hl 3 rfl) ?_
  refine z_Hp (post := fun (r : Int32) (u : vX10) => (r, u) = (fm_fault w)) (wt := fun u => zTr cA g t1 ++ zMd cA q u) (va_runV (As := []) (rest := [.int r1]) ⟨hx, hb, hml, hown, hts⟩ (e_X10_fault l D cA q H1.size  hR) (cwV 0 hts gL_law_X10_fault rfl rfl rfl (by decide +kernel) ⟨Nat.le_of_ble_eq_true rfl, Nat.le_of_ble_eq_true rfl⟩) (zqV hK hP hD hS hA hE (List.Perm.refl _) 0 rfl rfl) rfl rfl hl.1 rfl (lv_room (Nat.le_of_ble_eq_true rfl)) dL_law_814 ⟨(show (62 + 20 * j) + 0 + 0 ≤ 600000 by omega), (show (1472 + 115 * j) + 0 + 0 ≤ 7302250 by omega)⟩) hP hD hS hA (List.Perm.refl _) (fun u => List.Perm.refl _) (fun r2 w1 H2 locs2 hp2 hP hD hS => ?_)
  obtain ⟨p1, p2⟩ := z_pr hp2
  refine lv_icmp_eq (tgt := 894) hx hb dL_law_817 (by decide) (fun _ => ?_) (fun h => absurd (hp1.1.trans p1.symm) h)
  refine W.widen (k := 82 + 20 * j) (n := 1587 + 115 * j) (by omega) (by omega) ?_
  exact kk t1 w1 H2 locs2 (by rw [p2]; exact hp1.2) hP hD hS
set_option maxHeartbeats 4000000 in
set_option maxRecDepth 100000 in
theorem lc_load (C0 : LA p s m c b L xs D cA) (g q : Nat → Nat) (hR : Rel t w) (hP : va_P D vwCl (zTr cA g t ++ zMd cA q w) H) (hD : va_D (zAl s) (zTr cA g t ++ zMd cA q w)) (hS : va_S (zAl s) s.heap H locs) (hj : 4 * j + 4 ≤ L) (hl : lv_has ls 4 (lvL b (g 0) (q 0) j)) (kk : LK p l e s m below meth c b D cA g q j Q ls) : W p l e room_1 s m #[Value.ref b] below meth c H locs (62 + 20 * j) (1472 + 115 * j) Q (F0 m 822 ls []) := by
  obtain ⟨hx, hb, hml, hown, hts, hX, hbl, hL, hK, hE⟩ := id C0
  have hA : ∀ r, s.heap.size ≤ r → zAl s r := fun _ h => h
  have hN := hE.1
  refine lv_aload_n hx hb dL_law_822 rfl (lv_at hl 2 rfl) ?_
  refine z_Hp (wt := fun u => zTr cA g u ++ zMd cA q w) (va_runV (As := []) (rest := []) ⟨hx, hb, hml, hown, hts⟩ (d_X9_load l D cA g H.size  hR) (cwV 0 hts gL_law_X9_load rfl rfl rfl (by decide +kernel) ⟨Nat.le_of_ble_eq_true rfl, Nat.le_of_ble_eq_true rfl⟩) (zqV hK hP hD hS hA hE List.perm_append_comm 0 rfl rfl) rfl rfl hl.1 rfl (lv_room (Nat.le_of_ble_eq_true rfl)) dL_law_823 ⟨(show (62 + 20 * j) + 20 ≤ 600000 by omega), (show (1472 + 115 * j) + 115 ≤ 7302250 by omega)⟩) hP hD hS hA List.perm_append_comm (fun u => List.perm_append_comm) (fun r1 t1 H1 locs1 hp1 hP hD hS => ?_)
  refine lv_aload_n hx hb dL_law_826 rfl (lv_at hl 3 rfl) ?_
  refine z_Hp (post := fun (r : Int32) (u : vX10) => (r, u) = (fm_load (pmN w) (nT (w.1 3)) w)) (wt := fun u => zTr cA g t1 ++ zMd cA q u) (va_runV (As := []) (rest := [.int r1]) ⟨hx, hb, hml, hown, hts⟩ (e_X10_load l D cA q H1.size  hR) (cwV 0 hts gL_law_X10_load rfl rfl rfl (by decide +kernel) ⟨Nat.le_of_ble_eq_true rfl, Nat.le_of_ble_eq_true rfl⟩) (zqV hK hP hD hS hA hE (List.Perm.refl _) 0 rfl rfl) rfl rfl hl.1 rfl (lv_room (Nat.le_of_ble_eq_true rfl)) dL_law_827 ⟨(show (62 + 20 * j) + 20 + 0 ≤ 600000 by omega), (show (1472 + 115 * j) + 115 + 0 ≤ 7302250 by omega)⟩) hP hD hS hA (List.Perm.refl _) (fun u => List.Perm.refl _) (fun r2 w1 H2 locs2 hp2 hP hD hS => ?_)
  obtain ⟨p1, p2⟩ := z_pr hp2
  refine lv_icmp_eq (tgt := 894) hx hb dL_law_830 (by decide) (fun _ => ?_) (fun h => absurd (hp1.1.trans p1.symm) h)
  refine W.widen (k := 82 + 20 * j) (n := 1587 + 115 * j) (by omega) (by omega) ?_
  exact kk t1 w1 H2 locs2 (by rw [p2]; exact hp1.2) hP hD hS
set_option maxHeartbeats 4000000 in
set_option maxRecDepth 100000 in
theorem lc_undo (C0 : LA p s m c b L xs D cA) (g q : Nat → Nat) (hR : Rel t w) (hP : va_P D vwCl (zTr cA g t ++ zMd cA q w) H) (hD : va_D (zAl s) (zTr cA g t ++ zMd cA q w)) (hS : va_S (zAl s) s.heap H locs) (hj : 4 * j + 4 ≤ L) (hl : lv_has ls 4 (lvL b (g 0) (q 0) j)) (kk : LK p l e s m below meth c b D cA g q j Q ls) : W p l e room_1 s m #[Value.ref b] below meth c H locs (62 + 20 * j) (1472 + 115 * j) Q (F0 m 835 ls []) := by
  obtain ⟨hx, hb, hml, hown, hts, hX, hbl, hL, hK, hE⟩ := id C0
  have hA : ∀ r, s.heap.size ≤ r → zAl s r := fun _ h => h
  have hN := hE.1
  refine lv_aload_n hx hb dL_law_835 rfl (lv_at hl 2 rfl) ?_
  refine z_Hp (wt := fun u => zTr cA g u ++ zMd cA q w) (va_runV (As := []) (rest := []) ⟨hx, hb, hml, hown, hts⟩ (d_X9_undo l D cA g H.size  hR) (cwV 0 hts gL_law_X9_undo rfl rfl rfl (by decide +kernel) ⟨Nat.le_of_ble_eq_true rfl, Nat.le_of_ble_eq_true rfl⟩) (zqV hK hP hD hS hA hE List.perm_append_comm 0 rfl rfl) rfl rfl hl.1 rfl (lv_room (Nat.le_of_ble_eq_true rfl)) dL_law_836 ⟨(show (62 + 20 * j) + 0 ≤ 600000 by omega), (show (1472 + 115 * j) + 0 ≤ 7302250 by omega)⟩) hP hD hS hA List.perm_append_comm (fun u => List.perm_append_comm) (fun r1 t1 H1 locs1 hp1 hP hD hS => ?_)
  refine lv_aload_n hx hb dL_law_839 rfl (lv_at hl 3 rfl) ?_
  refine z_Hp (post := fun (r : Int32) (u : vX10) => (r, u) = (fm_undo (pmN w) w)) (wt := fun u => zTr cA g t1 ++ zMd cA q u) (va_runV (As := []) (rest := [.int r1]) ⟨hx, hb, hml, hown, hts⟩ (e_X10_undo l D cA q H1.size  hR) (cwV 0 hts gL_law_X10_undo rfl rfl rfl (by decide +kernel) ⟨Nat.le_of_ble_eq_true rfl, Nat.le_of_ble_eq_true rfl⟩) (zqV hK hP hD hS hA hE (List.Perm.refl _) 0 rfl rfl) rfl rfl hl.1 rfl (lv_room (Nat.le_of_ble_eq_true rfl)) dL_law_840 ⟨(show (62 + 20 * j) + 0 + 0 ≤ 600000 by omega), (show (1472 + 115 * j) + 0 + 0 ≤ 7302250 by omega)⟩) hP hD hS hA (List.Perm.refl _) (fun u => List.Perm.refl _) (fun r2 w1 H2 locs2 hp2 hP hD hS => ?_)
  obtain ⟨p1, p2⟩ := z_pr hp2
  refine lv_icmp_eq (tgt := 894) hx hb dL_law_843 (by decide) (fun _ => ?_) (fun h => absurd (hp1.1.trans p1.symm) h)
  refine W.widen (k := 82 + 20 * j) (n := 1587 + 115 * j) (by omega) (by omega) ?_
  exact kk t1 w1 H2 locs2 (by rw [p2]; exact hp1.2) hP hD hS
set_option maxHeartbeats 4000000 in
set_option maxRecDepth 100000 in
theorem lc_save (C0 : LA p s m c b L xs D cA) (g q : Nat → Nat) (hR : Rel t w) (hP : va_P D vwCl (zTr cA g t ++ zMd cA q w) H) (hD : va_D (zAl s) (zTr cA g t ++ zMd cA q w)) (hS : va_S (zAl s) s.heap H locs) (hj : 4 * j + 4 ≤ L) (hl : lv_has ls 4 (lvL b (g 0) (q 0) j)) (kk : LK p l e s m below meth c b D cA g q j Q ls) : W p l e room_1 s m #[Value.ref b] below meth c H locs (62 + 20 * j) (1472 + 115 * j) Q (F0 m 848 ls []) := by
  obtain ⟨hx, hb, hml, hown, hts, hX, hbl, hL, hK, hE⟩ := id C0
  have hA : ∀ r, s.heap.size ≤ r → zAl s r := fun _ h => h
  have hN := hE.1
  refine lv_aload_n hx hb dL_law_848 rfl (lv_at hl 2 rfl) ?_
  refine z_sld C0 hS hl (d := 1) (by omega) (by decide) dL_law_849 dL_law_850 dL_law_851 dL_law_852 dL_law_853 ?_
  refine z_Hp (wt := fun u => zTr cA g u ++ zMd cA q w) (va_runV (As := [.int (xs (4 * j + 1))]) (rest := []) ⟨hx, hb, hml, hown, hts⟩ (d_X9_save l D cA g H.size (xs (4 * j + 1)) hR) (cwV 1 hts gL_law_X9_save rfl rfl rfl (by decide +kernel) ⟨Nat.le_of_ble_eq_true rfl, Nat.le_of_ble_eq_true rfl⟩) (zqV hK hP hD hS hA hE List.perm_append_comm 0 rfl rfl) rfl rfl hl.1 rfl (lv_room (Nat.le_of_ble_eq_true rfl)) dL_law_854 ⟨(show (62 + 20 * j) + 20 ≤ 600000 by omega), (show (1472 + 115 * j) + 115 ≤ 7302250 by omega)⟩) hP hD hS hA List.perm_append_comm (fun u => List.perm_append_comm) (fun r1 t1 H1 locs1 hp1 hP hD hS => ?_)
  refine lv_aload_n hx hb dL_law_857 rfl (lv_at hl 3 rfl) ?_
  refine z_sld C0 hS hl (d := 1) (by omega) (by decide) dL_law_858 dL_law_859 dL_law_860 dL_law_861 dL_law_862 ?_
  refine z_Hp (post := fun (r : Int32) (u : vX10) => (r, u) = (fm_saveX w ((xs (4 * j + 1))))) (wt := fun u => zTr cA g t1 ++ zMd cA q u) (va_runV (As := [.int (xs (4 * j + 1))]) (rest := [.int r1]) ⟨hx, hb, hml, hown, hts⟩ (e_X10_save l D cA q H1.size (xs (4 * j + 1)) hR) (cwV 1 hts gL_law_X10_save rfl rfl rfl (by decide +kernel) ⟨Nat.le_of_ble_eq_true rfl, Nat.le_of_ble_eq_true rfl⟩) (zqV hK hP hD hS hA hE (List.Perm.refl _) 0 rfl rfl) rfl rfl hl.1 rfl (lv_room (Nat.le_of_ble_eq_true rfl)) dL_law_863 ⟨(show (62 + 20 * j) + 20 + 0 ≤ 600000 by omega), (show (1472 + 115 * j) + 115 + 0 ≤ 7302250 by omega)⟩) hP hD hS hA (List.Perm.refl _) (fun u => List.Perm.refl _) (fun r2 w1 H2 locs2 hp2 hP hD hS => ?_)
  obtain ⟨p1, p2⟩ := z_pr hp2
  refine lv_icmp_eq (tgt := 894) hx hb dL_law_866 (by decide) (fun _ => ?_) (fun h => absurd (hp1.1.trans p1.symm) h)
  refine W.widen (k := 82 + 20 * j) (n := 1587 + 115 * j) (by omega) (by omega) ?_
  exact kk t1 w1 H2 locs2 (by rw [p2]; exact hp1.2) hP hD hS
set_option maxHeartbeats 4000000 in
set_option maxRecDepth 100000 in
theorem lc_restore (C0 : LA p s m c b L xs D cA) (g q : Nat → Nat) (hR : Rel t w) (hP : va_P D vwCl (zTr cA g t ++ zMd cA q w) H) (hD : va_D (zAl s) (zTr cA g t ++ zMd cA q w)) (hS : va_S (zAl s) s.heap H locs) (hj : 4 * j + 4 ≤ L) (hl : lv_has ls 4 (lvL b (g 0) (q 0) j)) (kk : LK p l e s m below meth c b D cA g q j Q ls) : W p l e room_1 s m #[Value.ref b] below meth c H locs (62 + 20 * j) (1472 + 115 * j) Q (F0 m 871 ls []) := by
  obtain ⟨hx, hb, hml, hown, hts, hX, hbl, hL, hK, hE⟩ := id C0
  have hA : ∀ r, s.heap.size ≤ r → zAl s r := fun _ h => h
  have hN := hE.1
  refine lv_aload_n hx hb dL_law_871 rfl (lv_at hl 2 rfl) ?_
  refine z_sld C0 hS hl (d := 1) (by omega) (by decide) dL_law_872 dL_law_873 dL_law_874 dL_law_875 dL_law_876 ?_
  refine z_Hp (wt := fun u => zTr cA g u ++ zMd cA q w) (va_runV (As := [.int (xs (4 * j + 1))]) (rest := []) ⟨hx, hb, hml, hown, hts⟩ (d_X9_restore l D cA g H.size (xs (4 * j + 1)) hR) (cwV 1 hts gL_law_X9_restore rfl rfl rfl (by decide +kernel) ⟨Nat.le_of_ble_eq_true rfl, Nat.le_of_ble_eq_true rfl⟩) (zqV hK hP hD hS hA hE List.perm_append_comm 0 rfl rfl) rfl rfl hl.1 rfl (lv_room (Nat.le_of_ble_eq_true rfl)) dL_law_877 ⟨(show (62 + 20 * j) + 20 ≤ 600000 by omega), (show (1472 + 115 * j) + 115 ≤ 7302250 by omega)⟩) hP hD hS hA List.perm_append_comm (fun u => List.perm_append_comm) (fun r1 t1 H1 locs1 hp1 hP hD hS => ?_)
  refine lv_aload_n hx hb dL_law_880 rfl (lv_at hl 3 rfl) ?_
  refine z_sld C0 hS hl (d := 1) (by omega) (by decide) dL_law_881 dL_law_882 dL_law_883 dL_law_884 dL_law_885 ?_
  refine z_Hp (post := fun (r : Int32) (u : vX10) => (r, u) = (fm_restX (pmN w) w ((xs (4 * j + 1))))) (wt := fun u => zTr cA g t1 ++ zMd cA q u) (va_runV (As := [.int (xs (4 * j + 1))]) (rest := [.int r1]) ⟨hx, hb, hml, hown, hts⟩ (e_X10_restore l D cA q H1.size (xs (4 * j + 1)) hR) (cwV 1 hts gL_law_X10_restore rfl rfl rfl (by decide +kernel) ⟨Nat.le_of_ble_eq_true rfl, Nat.le_of_ble_eq_true rfl⟩) (zqV hK hP hD hS hA hE (List.Perm.refl _) 0 rfl rfl) rfl rfl hl.1 rfl (lv_room (Nat.le_of_ble_eq_true rfl)) dL_law_886 ⟨(show (62 + 20 * j) + 20 + 0 ≤ 600000 by omega), (show (1472 + 115 * j) + 115 + 0 ≤ 7302250 by omega)⟩) hP hD hS hA (List.Perm.refl _) (fun u => List.Perm.refl _) (fun r2 w1 H2 locs2 hp2 hP hD hS => ?_)
  obtain ⟨p1, p2⟩ := z_pr hp2
  refine lv_icmp_eq (tgt := 894) hx hb dL_law_889 (by decide) (fun _ => ?_) (fun h => absurd (hp1.1.trans p1.symm) h)
  refine W.widen (k := 82 + 20 * j) (n := 1587 + 115 * j) (by omega) (by omega) ?_
  exact kk t1 w1 H2 locs2 (by rw [p2]; exact hp1.2) hP hD hS
end ZLAW
