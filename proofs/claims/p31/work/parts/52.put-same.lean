/-! put and wipe: both sides -/
theorem and_255 (y : Int64) : 0 ≤ (y &&& 255).toInt ∧ (y &&& 255).toInt ≤ 255 := by
  have h1 : (y &&& 255).toBitVec.toNat ≤ 255 := by
    have e : (y &&& 255).toBitVec = y.toBitVec &&& (255 : Int64).toBitVec := rfl
    rw [e, BitVec.toNat_and]
    exact Nat.and_le_right
  have h2 : (y &&& 255).toInt = (y &&& 255).toBitVec.toInt := rfl
  rw [h2, BitVec.toInt_eq_toNat_of_lt (by omega)]
  omega
theorem z255 : ∀ j, j < 64 → 8 ≤ j → ((255 : Int64).toBitVec.getLsbD j) = false := by decide
theorem sh_gen (x d : Int64) (u : UInt64) (s : Nat) (hs : s ≤ 56) (hu : (u.toBitVec % 64).toNat = s) (hd : (d.toBitVec.smod 64).toNat = s) : ((x.toUInt64 >>> u).toInt64 &&& 255) = ((x >>> d) &&& 255) := by
  apply Int64.toBitVec_inj.mp
  show (x.toBitVec >>> (u.toBitVec % 64).toNat) &&& (255 : Int64).toBitVec = (x.toBitVec.sshiftRight (d.toBitVec.smod 64).toNat) &&& (255 : Int64).toBitVec
  rw [hu, hd]
  apply BitVec.eq_of_getLsbD_eq
  intro j hj
  rw [BitVec.getLsbD_and, BitVec.getLsbD_and]
  by_cases c : j < 8
  · congr 1
    rw [BitVec.getLsbD_ushiftRight, BitVec.getLsbD_sshiftRight]
    have h1 : s + j < 64 := by omega
    have h2 : ¬ 64 ≤ j := by omega
    simp [h1, h2]
  · rw [z255 j hj (by omega), Bool.and_false, Bool.and_false]
theorem sh_eq (x : Int64) {i : Nat} (hi : i < 8) : ((x.toUInt64 >>> ((8 * nI i).toInt64.toUInt64 &&& Int64.toUInt64 63)).toInt64 &&& 255) = ((x >>> ((8 * nI i).toInt64 &&& 63)) &&& 255) := by
  have hi' : i = 0 ∨ i = 1 ∨ i = 2 ∨ i = 3 ∨ i = 4 ∨ i = 5 ∨ i = 6 ∨ i = 7 := by omega
  rcases hi' with rfl | rfl | rfl | rfl | rfl | rfl | rfl | rfl
  · exact sh_gen x _ _ 0 (by decide) (by decide) (by decide)
  · exact sh_gen x _ _ 8 (by decide) (by decide) (by decide)
  · exact sh_gen x _ _ 16 (by decide) (by decide) (by decide)
  · exact sh_gen x _ _ 24 (by decide) (by decide) (by decide)
  · exact sh_gen x _ _ 32 (by decide) (by decide) (by decide)
  · exact sh_gen x _ _ 40 (by decide) (by decide) (by decide)
  · exact sh_gen x _ _ 48 (by decide) (by decide) (by decide)
  · exact sh_gen x _ _ 56 (by decide) (by decide) (by decide)
theorem ch_all : (List.range 256).all (fun k => decide (((nI k).toUInt32 % 65536).toInt32 = nI k ∧ narrow .char (.int (nI k)) = .int (nI k))) = true := by decide +kernel
theorem ch_id {b : Int64} (h : 0 ≤ b.toInt ∧ b.toInt ≤ 255) : (b.toInt32.toUInt32 % 65536).toInt32 = b.toInt32 ∧ narrow .char (.int b.toInt32) = .int b.toInt32 := by
  have e := zx_i (x := b) (by omega)
  obtain ⟨k, hk, ek⟩ := z_nIof (x := b.toInt32) (n := 256) (by omega) (by omega)
  rw [ek]
  exact co_dec ch_all hk
theorem sg_nar (x : Int64) (n k : Nat) : narrow .char (.int (fm_sg x n k)) = .int (fm_sg x n k) := (ch_id (and_255 _)).2
theorem nar_of {x : Int32} (h : narrow .char (.int x) = .int x) : vp_nar .char x = x := by unfold vp_nar; rw [h]
theorem ch_eq (x : Int64) {n i : Nat} (hi : i < n) (hn : n ≤ 8) : vp_nar .char (fc_ch x (nI i)) = fm_sg x n (n - 1 - i) := by
  have e1 : (nI n - 1 - nI (n - 1 - i) : Int32) = nI i := by
    rw [z_pred1 (by omega), show (nI (n - 1) : Int32) - nI (n - 1 - i) = nI (n - 1 - (n - 1 - i)) from pk_sub (by omega), show n - 1 - (n - 1 - i) = i by omega]
  have e2 : fm_sg x n (n - 1 - i) = ((x >>> ((8 * nI i).toInt64 &&& 63)) &&& 255).toInt32 := by unfold fm_sg; rw [e1]
  have e3 : fc_ch x (nI i) = fm_sg x n (n - 1 - i) := by
    unfold fc_ch
    rw [sh_eq x (by omega), (ch_id (and_255 _)).1, e2]
  rw [e3]; exact nar_of (sg_nar x n _)
theorem p1_eq : ∀ (d k : Nat) (x : Int64), fc_c1 d k x = fm_p1 d k x
  | 0, _, _ => rfl
  | d + 1, k, x => by
    have e : zf_in (x &&& 255) 33 126 = fm_in (x &&& 255).toInt32 33 126 := by
      have h := and_255 x
      have e1 : (x &&& 255) = (x &&& 255).toInt32.toInt64 := (zx_32 (by omega)).symm
      have e2 := zx_in (x := (x &&& 255).toInt32) (lo := 33) (hi := 126) (a := 33) (b := 126) rfl rfl
      rw [← e1] at e2; exact e2
    show (if x &&& 255 = 0 then (k, x) else if zf_in (x &&& 255) 33 126 = 0 then (9, x) else fc_c1 d (k + 1) (zus x)) = (if x &&& 255 = 0 then (k, x) else if fm_in (x &&& 255).toInt32 33 126 = 0 then (9, x) else fm_p1 d (k + 1) (zus x))
    rw [e, p1_eq d (k + 1) (zus x)]
theorem pl_eq (x : Int64) {N q : Nat} (hN : N ≤ 8) (hq : q + N ≤ 80) (v : vX4) : ∀ (j : Nat) (w : vX4), j ≤ N → w = (zpl q (N - j) v.1 (fm_sg x N), v.2.1, nI (q + (N - j)), v.2.2.2) → fc_pl x j w = (zpl q N v.1 (fm_sg x N), v.2.1, nI (q + N), v.2.2.2)
  | 0, w, _, hw => by
    show w = _
    rw [hw, Nat.sub_zero]
  | j + 1, w, hj, hw => by
    show fc_pl x j (fc_app w (fc_ch x (nI j))) = _
    refine pl_eq x hN hq v j _ (by omega) ?_
    have hl : w.2.2.1 = nI (q + (N - (j + 1))) := by rw [hw]
    unfold fc_app
    rw [hl, if_neg (nI_pos (by omega)), if_pos (nI_lt (by omega) (by omega)), nI_clamp (by omega), ch_eq x (n := N) (by omega) hN, hw]
    dsimp only
    rw [show N - 1 - j = N - (j + 1) by omega, zpl_s, nI_1, show N - (j + 1) + 1 = N - j by omega, show q + (N - (j + 1)) + 1 = q + (N - j) by omega]
theorem op_put {S f : vX7} {v : vH} {rs : vR} {pd : vX4} {m : vX10} (h : Rel (S, f, v, rs, pd) m) {q : Nat} (hq : fq m = nI q) (hq8 : q ≤ 80) (x : Int64) : (zf_put pd x).1 = (fm_put q m x).1 ∧ Rel (S, f, v, rs, (zf_put pd x).2) (fm_put q m x).2 := by
  have h0 := h
  obtain ⟨h1, h2, h3, ⟨p1, p2, p3, p4⟩⟩ := h
  have hpd : pd.2.2.1 = nI q := p1.trans hq
  unfold zf_put fm_put
  unfold fc_cs
  rw [p1_eq]
  have n9 : (fm_p1 8 0 x).1 ≤ 9 := by rw [← p1_eq]; exact fc_c1_n 8 0 x (by omega)
  generalize hP : fm_p1 8 0 x = P at n9
  obtain ⟨n, y⟩ := P
  dsimp only at n9 ⊢
  by_cases c9 : n = 9
  · rw [if_pos c9, if_pos c9]
    rw [if_pos rfl]; exact ⟨rfl, h0⟩
  · rw [if_neg c9, if_neg c9]
    by_cases c0 : n = 0
    · subst c0
      have e0 : (if y = 0 then nI 0 else 0 : Int32) = 0 := by split <;> rfl
      rw [e0, if_pos rfl, if_pos rfl]; exact ⟨rfl, h0⟩
    · rw [if_neg c0]
      by_cases cy : y = 0
      · rw [if_pos cy, if_pos cy]
        have hne : ¬ (nI n : Int32) = 0 := fun p => c0 ((nI_eq (a := n) (b := 0) (by omega) (by decide)).mp p)
        rw [if_neg hne, hpd, nI_add]
        by_cases c8 : q + n ≤ 80
        · rw [if_pos c8, if_pos (show (nI (q + n) : Int32) ≤ 80 from nI_le (a := q + n) (b := 80) c8 (by omega)), nT_nI (by omega)]
          have hpl := pl_eq x (N := n) (q := q) (by omega) c8 pd n pd (Nat.le_refl n) (by rw [Nat.sub_self, zpl_0, Nat.add_zero, ← hpd])
          rw [hpl]
          refine ⟨rfl, h1, h2, h3, rfl, ?_, fun j hj => ?_, fun k hk => ?_⟩
          · show 0 ≤ (nI (q + n)).toInt ∧ (nI (q + n)).toInt ≤ 80
            rw [nI_toInt (by omega)]; omega
          · have hj' : j < q + n := by
              have e : nT (nI (q + n)) = q + n := nT_nI (by omega)
              rw [← e]; exact hj
            show zpl q n pd.1 (fm_sg x n) j = zpl q n (fp m) (fm_sg x n) j
            unfold zpl
            by_cases d : q ≤ j ∧ j < q + n
            · rw [if_pos d, if_pos d]
            · rw [if_neg d, if_neg d]
              exact p3 j (by show j < nT (fq m); rw [hq, nT_nI (by omega)]; omega)
          · show narrow .char (.int (zpl q n pd.1 (fm_sg x n) k)) = .int (zpl q n pd.1 (fm_sg x n) k)
            unfold zpl
            by_cases d : q ≤ k ∧ k < q + n
            · rw [if_pos d]; exact sg_nar x n _
            · rw [if_neg d]; exact p4 k hk
        · have c8' : ¬ (nI (q + n) : Int32) ≤ 80 := fun p => c8 ((nI_leI (a := q + n) (b := 80) (by omega) (by omega)).mp p)
          rw [if_neg c8, if_neg c8']; exact ⟨rfl, h0⟩
      · rw [if_neg cy, if_neg cy, if_pos rfl]; exact ⟨rfl, h0⟩
theorem op_wipe {S f : vX7} {v : vH} {rs : vR} {pd : vX4} {m : vX10} (h : Rel (S, f, v, rs, pd) m) : (zf_wipe pd).1 = (fm_wipe m).1 ∧ Rel (S, f, v, rs, (zf_wipe pd).2) (fm_wipe m).2 := by
  obtain ⟨h1, h2, h3, ⟨p1, p2, p3, p4⟩⟩ := h
  exact ⟨p1, h1, h2, h3, rfl, (show 0 ≤ (0 : Int32).toInt ∧ (0 : Int32).toInt ≤ 80 from ⟨by decide, by decide⟩), fun j hj => absurd hj (Nat.not_lt_zero j), p4⟩
