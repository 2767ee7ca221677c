def sbI (x k : Int) : Int := (Int32.ofInt (shrI x k)).toInt8.toInt32.toInt
theorem sbI_eq (x k : Int) : sbI x k = (shrI x k).bmod 256 := by
  unfold sbI
  rw [Int8.toInt_toInt32, Int32.toInt_toInt8]
  unfold shrI
  rw [Int32.ofInt_toInt]
theorem btI_eq (x k : Int) : btI x k = ((((Int32.ofInt x).toUInt32 >>> ((Int32.ofInt k).toUInt32 &&& Int32.toUInt32 31)).toInt32.toBitVec.toNat % 256 : Nat) : Int) := by
  unfold btI bandI ushrI
  rw [Int32.ofInt_toInt, pk_and _ (m := Int32.ofInt 255) 8 (by decide), nI_toInt (by omega)]
theorem toInt_N (x : Int32) : x.toInt = if x.toBitVec.toNat < 2147483648 then (x.toBitVec.toNat : Int) else (x.toBitVec.toNat : Int) - 4294967296 := by
  show x.toBitVec.toInt = _
  rw [BitVec.toInt_eq_toNat_cond]
  split <;> split <;> omega
theorem byte_rel (x k : Int) (hk : k = 24 ∨ k = 16 ∨ k = 8 ∨ k = 0) : (0 ≤ btI x k ∧ btI x k ≤ 255) ∧ sbI x k = if btI x k < 128 then btI x k else btI x k - 256 := by
  rw [sbI_eq, btI_eq]
  unfold shrI
  have hN := toInt_N (Int32.ofInt x)
  have hlt := (Int32.ofInt x).toBitVec.isLt
  rcases hk with rfl | rfl | rfl | rfl
  · rw [pk_ushr _ (Int32.ofInt 24) 24 (by decide), pk_shr _ _ 24 (by decide), hN, Int.shiftRight_eq_div_pow]
    unfold Int.bmod
    simp only
    split <;> split <;> (try split) <;> omega
  · rw [pk_ushr _ (Int32.ofInt 16) 16 (by decide), pk_shr _ _ 16 (by decide), hN, Int.shiftRight_eq_div_pow]
    unfold Int.bmod
    simp only
    split <;> split <;> (try split) <;> omega
  · rw [pk_ushr _ (Int32.ofInt 8) 8 (by decide), pk_shr _ _ 8 (by decide), hN, Int.shiftRight_eq_div_pow]
    unfold Int.bmod
    simp only
    split <;> split <;> (try split) <;> omega
  · rw [pk_ushr _ (Int32.ofInt 0) 0 (by decide), pk_shr _ _ 0 (by decide), hN, Int.shiftRight_eq_div_pow]
    unfold Int.bmod
    simp only
    split <;> split <;> (try split) <;> omega
theorem Simx_tape {nu : Nat} {b : Int} {v z v2 z2 : VV} (h : Simx nu b v z) (hv : ∀ k, k ≠ 1 → k ≠ 2 → v2 k = v k) (hz : ∀ k, k ≠ 27 → k ≠ 28 → z2 k = z k) (h27 : ∀ j, j ≠ 2 → z2 27 j = z 27 j) (hT : ST v2 z2) : Simx nu b v2 z2 := by
  obtain ⟨hM, hC, hU, hW, hX, hH, hR, hT0, hK⟩ := h
  have e33 := h27 33 (by decide)
  have e34 := h27 34 (by decide)
  have e35 := h27 35 (by decide)
  have e36 := h27 36 (by decide)
  have z48 := hz 48 (by decide) (by decide)
  have hse : ∀ u, seatOfS z2 u = seatOfS z u := fun u => by unfold seatOfS; rw [z48, e34]
  refine ⟨⟨by rw [e33]; exact hM.1, by rw [e34]; exact hM.2.1, by rw [e35]; exact hM.2.2.1, ?_, ?_, ?_, ?_⟩, ?_, ?_, ?_, ?_, ⟨?_, ?_, ?_⟩, ?_, hT, ?_⟩
  · unfold RB; rw [hz 29 (by decide) (by decide)]; exact hM.2.2.2.1
  · rw [hz 34 (by decide) (by decide), hz 35 (by decide) (by decide), hz 36 (by decide) (by decide), hz 37 (by decide) (by decide), hz 41 (by decide) (by decide)]; exact hM.2.2.2.2.1
  · rw [e34, hz 44 (by decide) (by decide), hz 45 (by decide) (by decide), hz 46 (by decide) (by decide), hz 47 (by decide) (by decide)]; exact hM.2.2.2.2.2.1
  · rw [e34, z48]; exact hM.2.2.2.2.2.2
  · unfold SC; rw [hv 0 (by decide) (by decide), e34, e35]; exact hC
  · intro k hk
    rw [hv (59 + 3 * k) (by omega) (by omega), hz 34 (by decide) (by decide), hz 35 (by decide) (by decide), hz 36 (by decide) (by decide), hz 37 (by decide) (by decide), hz 38 (by decide) (by decide), hz 39 (by decide) (by decide), hz 40 (by decide) (by decide), hz 41 (by decide) (by decide)]
    exact hU k hk
  · intro k hk w w0 w1
    rw [hv (60 + 3 * k) (by omega) (by omega), hv (61 + 3 * k) (by omega) (by omega), hz 42 (by decide) (by decide), hz 43 (by decide) (by decide)]
    exact hW k hk w w0 w1
  · intro g hg
    rw [e34] at hg
    rw [hv (8 + g) (by omega) (by omega), hz 44 (by decide) (by decide), hz 45 (by decide) (by decide), hz 46 (by decide) (by decide), hz 47 (by decide) (by decide)]
    exact hX g hg
  · rw [hv 16 (by decide) (by decide), e34, z48]; exact hH.1
  · intro k hk
    rw [hv (59 + 3 * k) (by omega) (by omega), hse]
    exact hH.2.1 k hk
  · unfold INJ; rw [e34, z48]; exact hH.2.2
  · unfold SR; rw [hv 4 (by decide) (by decide), hz 29 (by decide) (by decide)]; exact hR
  · unfold SK gvN; rw [hv 0 (by decide) (by decide), e34, e36, hz 49 (by decide) (by decide)]; exact hK
theorem Simx_byte {nu : Nat} {b : Int} {v z : VV} (h : Simx nu b v z) (hL : z 27 2 < 180) {p q : Int} (hp : (0 ≤ p ∧ p ≤ 255) ∧ q = if p < 128 then p else p - 256) : Simx nu b (up (up v 2 (v 1 1) q) 1 1 (v 1 1 + 1)) (up (up z 28 (z 27 2) p) 27 2 (z 27 2 + 1)) := by
  have hT := h.2.2.2.2.2.2.2.1
  refine Simx_tape h (fun k k1 k2 => by rw [up_ne k1, up_ne k2]) (fun k k1 k2 => by rw [up_ne k1, up_ne k2]) (fun j hj => by rw [up_nj hj, up_c (by decide)]) ⟨hT.1, ?_, ?_, ?_, ?_⟩
  · rw [up_self, up_self, hT.2.1]
  · rw [up_self]; have := hT.2.2.1; omega
  · intro i
    rw [up_c (show 28 ≠ 27 by decide), up_get]
    split
    · exact hp.1
    · exact hT.2.2.2.1 i
  · intro i i0 i1
    rw [up_self] at i1
    rw [up_c (show 28 ≠ 27 by decide), up_c (show 2 ≠ 1 by decide)]
    by_cases e : i = z 27 2
    · have e2 : up v 2 (v 1 1) q 2 i = q := by rw [e, ← hT.2.1, up_self]
      have e3 : up z 28 (z 27 2) p 28 i = p := by rw [e, up_self]
      rw [e2, e3]; exact hp.2
    · have e2 : ¬ i = v 1 1 := fun y => e (by rw [y, hT.2.1])
      rw [up_nj e, up_nj e2]
      exact hT.2.2.2.2 i i0 (by omega)
theorem Simx_cut {nu : Nat} {b : Int} {v z : VV} (h : Simx nu b v z) {n : Int} (hn : 0 ≤ n ∧ n ≤ z 27 2) : Simx nu b (up v 1 1 n) (up z 27 2 n) := by
  have hT := h.2.2.2.2.2.2.2.1
  refine Simx_tape h (fun k k1 k2 => by rw [up_ne k1]) (fun k k1 k2 => by rw [up_ne k1]) (fun j hj => by rw [up_nj hj]) ⟨hT.1, ?_, ?_, hT.2.2.2.1, ?_⟩
  · rw [up_self, up_self]
  · rw [up_self]; have := hT.2.2.1; omega
  · intro i i0 i1
    rw [up_self] at i1
    exact hT.2.2.2.2 i i0 (by omega)
set_option maxRecDepth 20000 in
set_option maxHeartbeats 1000000 in
theorem c_X3_length (l : Launch) (d nu : Nat) (v : VV)  : Ct l yX3_length cX3_length (some .int) 1 (d + 0) 0 0 [ar (some 1)] (SG nu) v (rI (SG nu) (v 1 1) v) := by
  refine Ct_of_G [some (ar (some 1))] (by decide) rfl rfl ?_
  refine G_aload_n dX3_length_0 rfl ?_
  refine G_getI (jj := 1) dX3_length_1 flX3_13 rfl rfl rfl ?_
  exact G_iret dX3_length_4 rfl rfl rfl ⟨rfl, rfl, rfl⟩
set_option maxRecDepth 20000 in
set_option maxHeartbeats 1000000 in
theorem c_X3_hasRoom (l : Launch) (d nu : Nat) (v : VV) (n : Int) (hL : 0 ≤ v 1 1 ∧ v 1 1 ≤ 180) (hn : 0 ≤ n ∧ n ≤ 100) : Ct l yX3_hasRoom cX3_hasRoom (some .boolean) 2 (d + 0) 0 0 [ar (some 1), ai n] (SG nu) v (rI (SG nu) (if v 1 1 + n ≤ 180 then 1 else 0) v) := by
  refine Ct_of_G [some (ar (some 1)), some (ai n)] (by decide) rfl rfl ?_
  refine G_aload_n dX3_hasRoom_0 rfl ?_
  refine G_getI (jj := 1) dX3_hasRoom_1 flX3_13 rfl rfl rfl ?_
  refine G_iload_n dX3_hasRoom_4 rfl ?_
  refine G_iadd dX3_hasRoom_5 (iRm (by omega) (by omega)) ?_
  refine G_sipush (n := 180) dX3_hasRoom_6 (by decide) ⟨by decide, by decide⟩ ?_
  refine G_icmp_gt 16 dX3_hasRoom_9 (by decide) (fun h9 => ?_) (fun h9 => ?_)
  · refine G_iconst (n := 0) dX3_hasRoom_16 ⟨by decide, by decide⟩ ?_
    exact G_zret dX3_hasRoom_17 rfl (by omega) rfl rfl ⟨by first | (rw [if_pos (by omega)]) | (rw [if_neg (by omega)]), rfl, rfl⟩
  · refine G_iconst (n := 1) dX3_hasRoom_12 ⟨by decide, by decide⟩ ?_
    refine G_goto 17 dX3_hasRoom_13 (by decide) ?_
    exact G_zret dX3_hasRoom_17 rfl (by omega) rfl rfl ⟨by first | (rw [if_pos (by omega)]) | (rw [if_neg (by omega)]), rfl, rfl⟩
set_option maxRecDepth 20000 in
set_option maxHeartbeats 1000000 in
theorem c_X3_cut (l : Launch) (d nu : Nat) (v : VV) (n : Int) : Ct l yX3_cut cX3_cut (some .boolean) 2 (d + 0) 0 0 [ar (some 1), ai n] (SG nu) v (rI (SG nu) (if 0 ≤ n ∧ n ≤ v 1 1 then 1 else 0) (if 0 ≤ n ∧ n ≤ v 1 1 then up v 1 1 n else v)) := by
  refine Ct_of_G [some (ar (some 1)), some (ai n)] (by decide) rfl rfl ?_
  refine G_iload_n dX3_cut_0 rfl ?_
  refine G_if_lt 12 dX3_cut_1 (by decide) (fun h1 => ?_) (fun h1 => ?_)
  · refine G_iconst (n := 0) dX3_cut_12 ⟨by decide, by decide⟩ ?_
    exact G_zret dX3_cut_13 rfl (by omega) rfl rfl ⟨by first | (rw [if_pos (by omega)]) | (rw [if_neg (by omega)]), rfl, by first | (rw [if_pos (by omega)]) | (rw [if_neg (by omega)])⟩
  · refine G_iload_n dX3_cut_4 rfl ?_
    refine G_aload_n dX3_cut_5 rfl ?_
    refine G_getI (jj := 1) dX3_cut_6 flX3_13 rfl rfl rfl ?_
    refine G_icmp_le 14 dX3_cut_9 (by decide) (fun h9 => ?_) (fun h9 => ?_)
    · refine G_aload_n dX3_cut_14 rfl ?_
      refine G_iload_n dX3_cut_15 rfl ?_
      refine G_putI (jj := 1) dX3_cut_16 flX3_13 rfl rfl rfl rfl ?_
      refine G_iconst (n := 1) dX3_cut_19 ⟨by decide, by decide⟩ ?_
      exact G_zret dX3_cut_20 rfl (by omega) rfl rfl ⟨by first | (rw [if_pos (by omega)]) | (rw [if_neg (by omega)]), rfl, by first | (rw [if_pos (by omega)]) | (rw [if_neg (by omega)])⟩
    · refine G_iconst (n := 0) dX3_cut_12 ⟨by decide, by decide⟩ ?_
      exact G_zret dX3_cut_13 rfl (by omega) rfl rfl ⟨by first | (rw [if_pos (by omega)]) | (rw [if_neg (by omega)]), rfl, by first | (rw [if_pos (by omega)]) | (rw [if_neg (by omega)])⟩
set_option maxRecDepth 20000 in
set_option maxHeartbeats 1000000 in
theorem c_X3_append (l : Launch) (d nu : Nat) (v : VV) (b : Int) (z : VV) (hS : Simx nu b v z) (x : Int) (hx : iR x) (hL : 0 ≤ z 27 2 ∧ z 27 2 ≤ 176) : Ct l yX3_append cX3_append none 3 (d + 1) 0 0 [ar (some 1), ai x] (SG nu) v (fun r S2 v2 => r = none ∧ S2 = SG nu ∧ Simx nu b v2 (comeV z x) ∧ KM v v2) := by
  refine Ct_of_G [some (ar (some 1)), some (ai x), none] (by decide) rfl rfl ?_
  have hT := hS.2.2.2.2.2.2.2.1
  have hT2 := hT.2.1
  have loop : ∀ (N : Nat) (k : Int) (w y : VV), Simx nu b w y → KM v w → N ≤ 4 → k = 8 * N - 8 → y 27 2 + N ≤ 180 → G l (yX3_append, cX3_append, none, 3, (d + 1), 0, 0, none) (fun r S2 v2 => r = none ∧ S2 = SG nu ∧ Simx nu b v2 (comeL x N k y) ∧ KM v v2) 0 0 (SG nu) 12 [some (ar (some 1)), some (ai x), some (ai k)] [] w := by
    intro N
    induction N with
    | zero =>
      intro k w y hw hk h3 h0 h2
      refine G_iload_n dX3_append_12 rfl ?_
      refine G_if_lt 45 dX3_append_13 (by decide) (fun h4 => ?_) (fun h4 => by omega)
      exact G_vret dX3_append_45 rfl rfl rfl ⟨rfl, rfl, hw, hk⟩
    | succ N ih =>
    intro k w y hw hk h3 h0 h2
    have hT := hw.2.2.2.2.2.2.2.1
    have hT2 := hT.2.1
    have hT3 := hT.2.2.1
    have hbr := byte_rel x k (by omega)
    have hsb : -128 ≤ sbI x k ∧ sbI x k < 128 := by rw [hbr.2]; split <;> omega
    refine G_iload_n dX3_append_12 rfl ?_
    refine G_if_lt 45 dX3_append_13 (by decide) (fun h13 => by omega) (fun h13 => ?_)
    refine G_aload_n dX3_append_16 rfl ?_
    refine G_getR (jj := 0) dX3_append_17 flX3_9 rfl rfl rfl ?_
    refine G_aload_n dX3_append_20 rfl ?_
    refine G_getI (jj := 1) dX3_append_21 flX3_13 rfl rfl rfl ?_
    refine G_iload_n dX3_append_24 rfl ?_
    refine G_iload_n dX3_append_25 rfl ?_
    refine G_ishr (shrI x k) dX3_append_26 rfl ?_
    refine G_i2b (sbI x k) dX3_append_27 rfl ?_
    refine G_bast dX3_append_28 rfl (by omega) (by omega) hsb ?_
    refine G_aload_n dX3_append_29 rfl ?_
    refine G_dup_a dX3_append_30 ?_
    refine G_getIv (w 1 1) (jj := 1) dX3_append_31 flX3_13 rfl rfl rfl rfl ?_
    refine G_iconst (n := 1) dX3_append_34 ⟨by decide, by decide⟩ ?_
    refine G_iadd dX3_append_35 (iRm (by omega) (by omega)) ?_
    refine G_putI (jj := 1) dX3_append_36 flX3_13 rfl rfl rfl rfl ?_
    refine G_iinc dX3_append_39 rfl (iRm (by omega) (by omega)) rfl rfl ?_
    refine G_goto 12 dX3_append_42 (by decide) ?_
    exact ih (k + -8) _ _ (Simx_byte hw (by omega) hbr) (fun q q1 q2 => by rw [up_ne (by omega), up_ne (by omega)]; exact hk q q1 q2) (by omega) (by omega) (by rw [up_self]; omega)
  refine G_aload_n dX3_append_0 rfl ?_
  refine G_iconst (n := 4) dX3_append_1 ⟨by decide, by decide⟩ ?_
  refine G_cVi (ci := 3) dX3_append_2 rfl (by decide) rfl (c_X3_hasRoom l (d + 0) nu v 4 (by omega) (by omega)) mcX3_17 rfl rfl (by show _ ≤ d + 1; omega) rfl rfl (Nat.le_refl _) (Nat.le_refl _) ?_
  refine G_if_ne 9 dX3_append_5 (by decide) (fun h5 => ?_) (fun h5 => by omega)
  refine G_bipush (n := 24) dX3_append_9 (by decide) ⟨by decide, by decide⟩ ?_
  refine G_istore_n dX3_append_11 rfl rfl ?_
  exact loop 4 24 v z hS KM.rf (by omega) (by omega) (by omega)
