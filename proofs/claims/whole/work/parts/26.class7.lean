def KM (v v2 : VV) : Prop := ∀ k, 27 ≤ k → k < 59 → v2 k = v k
theorem KP.m {v v2 : VV} (h : KP v v2) : KM v v2 := fun k k1 k2 => h k k2 (by omega)
theorem KM.tr {a b c : VV} (h : KM a b) (h2 : KM b c) : KM a c := fun k k1 k2 => (h2 k k1 k2).trans (h k k1 k2)
theorem KM.rf {a : VV} : KM a a := fun _ _ _ => rfl
theorem bitct_0 (n : Nat) : bitct 0 n = 0 := by
  induction n with
  | zero => rfl
  | succ n ih => rw [bitct, ih]; simp
theorem bitct_no {x n : Nat} (h : bitct x n = 0) : ∀ i, i < n → x.testBit i = false := by
  induction n with
  | zero => intro i hi; omega
  | succ n ih =>
    rw [bitct] at h
    intro i hi
    by_cases e : i = n
    · subst e
      cases hb : x.testBit i with
      | false => rfl
      | true => rw [hb] at h; simp at h
    · exact ih (by omega) i (by omega)
theorem sk_zero {v z : VV} (h : SK v z) (hr : iR (v 0 9)) : v 0 9 = 0 ↔ z 27 36 = 0 := by
  constructor
  · intro e
    rw [h.2.2]
    unfold gvN
    rw [e, show (Int32.ofInt 0).toBitVec.toNat = 0 from rfl, bitct_0]
    rfl
  · intro e
    have h1 : bitct (gvN v) 32 = 0 := by have := h.2.2; omega
    have h2 := bitct_no h1
    have h3 : gvN v = 0 := by
      apply Nat.eq_of_testBit_eq
      intro i
      rw [Nat.zero_testBit]
      by_cases hi : i < 32
      · exact h2 i hi
      · apply Nat.testBit_lt_two_pow
        have : gvN v < 2 ^ 32 := (Int32.ofInt (v 0 9)).toBitVec.isLt
        exact Nat.lt_of_lt_of_le this (Nat.pow_le_pow_right (by decide) (by omega))
    have h4 : Int32.ofInt (v 0 9) = Int32.ofInt 0 := by
      apply Int32.toBitVec_inj.mp
      apply BitVec.eq_of_toNat_eq
      exact h3
    exact (iR_eq hr iR_0).mp h4
theorem sk_nn {v z : VV} (h : SK v z) : 0 ≤ z 27 36 := by rw [h.2.2]; omega
theorem RV_9 {nu : Nat} {v : VV} (h : RV (SG nu) v) : iR (v 0 9) := h 0 (by show 0 < 59 + 3 * nu; omega) 9
theorem up_comm (v : VV) {k k2 : Nat} (j x j2 x2 : Int) (h : k ≠ k2) : up (up v k j x) k2 j2 x2 = up (up v k2 j2 x2) k j x := by
  funext a b
  simp only [up_get]
  by_cases h1 : a = k
  · subst h1; simp [h]
  · by_cases h2 : a = k2
    · subst h2; simp [h1]
    · simp [h1, h2]
set_option maxRecDepth 20000 in
set_option maxHeartbeats 1000000 in
theorem c_X5_may (l : Launch) (d nu : Nat) (v : VV) (z : VV) (hS : Sim nu v z) (u s : Int) : Ct l yX5_may cX5_may (some .boolean) 3 (d + 4) 0 0 [ar (some 0), ai u, ai s] (SG nu) v (rI (SG nu) (bP ((0 ≤ u ∧ u < nu) ∧ (0 ≤ s ∧ s < 2 * z 27 34) ∧ mayP z u s)) v) := by
  refine Ct_of_G [some (ar (some 0)), some (ai u), some (ai s)] (by decide) rfl rfl ?_
  have hMB : MB nu z := hS.1
  have hnn := hMB.1
  have hgm := hMB.2.1
  have hwk := hMB.2.2.1
  have hc6 := hS.2.1.1
  have hc7 := hS.2.1.2.1
  have hc8 := hS.2.1.2.2
  have hg0 : 0 ≤ v 0 7 ∧ v 0 7 ≤ 8 := by omega
  have hu0 : v 0 6 = nu ∧ nu ≤ 20 := ⟨hc6, hnn.1⟩
  refine G_aload_n dX5_may_0 rfl ?_
  refine G_aload_n dX5_may_1 rfl ?_
  refine G_iload_n dX5_may_2 rfl ?_
  refine G_cVa (ci := 5) dX5_may_3 rfl (by decide) rfl (c_X5_umpireAt l (d + 3) nu v hu0 u) mcX5_87 rfl rfl (by show _ ≤ d + 4; omega) rfl rfl (Nat.le_refl _) (Nat.le_refl _) ?_
  by_cases hu : 0 ≤ u ∧ u < nu
  · rw [if_pos (show 0 ≤ u ∧ u < nu by omega)]
    have hn : u.toNat < nu := by omega
    have hun : ((u.toNat : Nat) : Int) = u := by omega
    refine G_iload_n dX5_may_6 rfl ?_
    by_cases hs : 0 ≤ s ∧ s < 2 * z 27 34
    · refine G_cVi (ci := 5) dX5_may_7 rfl (by decide) rfl (c_X5_fits l (d + 0) nu v z hS u.toNat hn s hs) mcX5_110 rfl rfl (by show _ ≤ d + 4; omega) rfl rfl (Nat.le_refl _) (Nat.le_refl _) ?_
      exact G_zret dX5_may_10 rfl (bP_01 _) rfl rfl ⟨congrArg (fun x => some (ai x)) (bP_congr ⟨fun q => by rw [hun]; exact q.2.2, fun q => ⟨hu, hs, by rw [hun] at q; exact q⟩⟩).symm, rfl, rfl⟩
    · refine G_cVi (ci := 5) dX5_may_7 rfl (by decide) rfl (c_X5_fitsO l (d + 0) nu v z hS u.toNat hn s hs) mcX5_110 rfl rfl (by show _ ≤ d + 4; omega) rfl rfl (Nat.le_refl _) (Nat.le_refl _) ?_
      exact G_zret dX5_may_10 rfl (by omega) rfl rfl ⟨congrArg (fun x => some (ai x)) (bP_f (fun q => hs q.2.1)).symm, rfl, rfl⟩
  · rw [if_neg (show ¬ (0 ≤ u ∧ u < nu) by omega)]
    refine G_iload_n dX5_may_6 rfl ?_
    refine G_cVi (ci := 5) dX5_may_7 rfl (by decide) rfl (c_X5_fitsN l (d + 0) nu v z hS s) mcX5_110 rfl rfl (by show _ ≤ d + 4; omega) rfl rfl (Nat.le_refl _) (Nat.le_refl _) ?_
    exact G_zret dX5_may_10 rfl (by omega) rfl rfl ⟨congrArg (fun x => some (ai x)) (bP_f (fun q => hu q.1)).symm, rfl, rfl⟩
set_option maxRecDepth 20000 in
set_option maxHeartbeats 1000000 in
theorem c_X5_cost (l : Launch) (d nu : Nat) (v : VV) (z : VV) (hS : Sim nu v z) (u s : Int) : Ct l yX5_cost cX5_cost (some .int) 3 (d + 4) 0 0 [ar (some 0), ai u, ai s] (SG nu) v (rI (SG nu) (if (0 ≤ u ∧ u < nu) ∧ (0 ≤ s ∧ s < 2 * z 27 34) then costS z u s else -1) v) := by
  refine Ct_of_G [some (ar (some 0)), some (ai u), some (ai s)] (by decide) rfl rfl ?_
  have hMB : MB nu z := hS.1
  have hnn := hMB.1
  have hgm := hMB.2.1
  have hwk := hMB.2.2.1
  have hc6 := hS.2.1.1
  have hc7 := hS.2.1.2.1
  have hc8 := hS.2.1.2.2
  have hg0 : 0 ≤ v 0 7 ∧ v 0 7 ≤ 8 := by omega
  have hu0 : v 0 6 = nu ∧ nu ≤ 20 := ⟨hc6, hnn.1⟩
  refine G_aload_n dX5_cost_0 rfl ?_
  refine G_aload_n dX5_cost_1 rfl ?_
  refine G_iload_n dX5_cost_2 rfl ?_
  refine G_cVa (ci := 5) dX5_cost_3 rfl (by decide) rfl (c_X5_umpireAt l (d + 3) nu v hu0 u) mcX5_87 rfl rfl (by show _ ≤ d + 4; omega) rfl rfl (Nat.le_refl _) (Nat.le_refl _) ?_
  by_cases hu : 0 ≤ u ∧ u < nu
  · rw [if_pos (show 0 ≤ u ∧ u < nu by omega)]
    have hn : u.toNat < nu := by omega
    have hun : ((u.toNat : Nat) : Int) = u := by omega
    refine G_iload_n dX5_cost_6 rfl ?_
    by_cases hs : 0 ≤ s ∧ s < 2 * z 27 34
    · refine G_cVi (ci := 5) dX5_cost_7 rfl (by decide) rfl (c_X5_price l (d + 0) nu v z hS u.toNat hn s hs) mcX5_114 rfl rfl (by show _ ≤ d + 4; omega) rfl rfl (Nat.le_refl _) (Nat.le_refl _) ?_
      exact G_iret dX5_cost_10 rfl rfl rfl ⟨by rw [if_pos ⟨hu, hs⟩, hun], rfl, rfl⟩
    · refine G_cVi (ci := 5) dX5_cost_7 rfl (by decide) rfl (c_X5_priceO l (d + 0) nu v z hS u.toNat hn s hs) mcX5_114 rfl rfl (by show _ ≤ d + 4; omega) rfl rfl (Nat.le_refl _) (Nat.le_refl _) ?_
      exact G_iret dX5_cost_10 rfl rfl rfl ⟨by rw [if_neg (fun q => hs q.2)], rfl, rfl⟩
  · rw [if_neg (show ¬ (0 ≤ u ∧ u < nu) by omega)]
    refine G_iload_n dX5_cost_6 rfl ?_
    refine G_cVi (ci := 5) dX5_cost_7 rfl (by decide) rfl (c_X5_priceN l (d + 0) nu v z hS s) mcX5_114 rfl rfl (by show _ ≤ d + 4; omega) rfl rfl (Nat.le_refl _) (Nat.le_refl _) ?_
    exact G_iret dX5_cost_10 rfl rfl rfl ⟨by rw [if_neg (fun q => hu q.1)], rfl, rfl⟩
set_option maxRecDepth 20000 in
set_option maxHeartbeats 1000000 in
theorem c_X5_seat (l : Launch) (d nu : Nat) (v : VV) (z : VV) (hS : Sim nu v z) (s : Int) : Ct l yX5_seat cX5_seat (some .int) 2 (d + 1) 0 0 [ar (some 0), ai s] (SG nu) v (rI (SG nu) (if 0 ≤ s ∧ s < 2 * z 27 34 then z 48 s else -1) v) := by
  refine Ct_of_G [some (ar (some 0)), some (ai s)] (by decide) rfl rfl ?_
  have hMB : MB nu z := hS.1
  have hnn := hMB.1
  have hgm := hMB.2.1
  have hwk := hMB.2.2.1
  have hc6 := hS.2.1.1
  have hc7 := hS.2.1.2.1
  have hc8 := hS.2.1.2.2
  have hg0 : 0 ≤ v 0 7 ∧ v 0 7 ≤ 8 := by omega
  have hu0 : v 0 6 = nu ∧ nu ≤ 20 := ⟨hc6, hnn.1⟩
  refine G_aload_n dX5_seat_0 rfl ?_
  refine G_iload_n dX5_seat_1 rfl ?_
  refine G_cVi (ci := 5) dX5_seat_2 rfl (by decide) rfl (c_X5_isSeat l (d + 0) nu v hg0 s) mcX5_150 rfl rfl (by show _ ≤ d + 1; omega) rfl rfl (Nat.le_refl _) (Nat.le_refl _) ?_
  refine G_if_eq 17 dX5_seat_5 (by decide) (fun h5 => ?_) (fun h5 => ?_)
  · refine G_iconst (n := (-1)) dX5_seat_17 ⟨by decide, by decide⟩ ?_
    exact G_iret dX5_seat_18 rfl rfl rfl ⟨by first | (rw [if_pos (by omega)]) | (rw [if_neg (by omega)]), rfl, rfl⟩
  · have e9 := hS.2.2.2.2.2.1.1 s (by omega) (by omega)
    rw [if_pos (by omega)] at e9
    refine G_aload_n dX5_seat_8 rfl ?_
    refine G_getR (jj := 4) dX5_seat_9 flX5_36 rfl rfl rfl ?_
    refine G_iload_n dX5_seat_12 rfl ?_
    refine G_ialdv (z 48 s) dX5_seat_13 rfl (by omega) (by omega) e9 ?_
    refine G_goto 18 dX5_seat_14 (by decide) ?_
    exact G_iret dX5_seat_18 rfl rfl rfl ⟨by first | (rw [if_pos (by omega)]) | (rw [if_neg (by omega)]), rfl, rfl⟩
set_option maxRecDepth 20000 in
set_option maxHeartbeats 1000000 in
theorem c_X5_stood (l : Launch) (d nu : Nat) (v : VV) (z : VV) (hS : Sim nu v z) (u x : Int) : Ct l yX5_stood cX5_stood (some .int) 4 (d + 2) 0 0 [ar (some 0), ai u, ai x] (SG nu) v (rI (SG nu) (if (0 ≤ u ∧ u < nu) ∧ (0 ≤ x ∧ x < z 27 35) then z 42 (100 * u + x) else -1) v) := by
  refine Ct_of_G [some (ar (some 0)), some (ai u), some (ai x), none] (by decide) rfl rfl ?_
  have hMB : MB nu z := hS.1
  have hnn := hMB.1
  have hgm := hMB.2.1
  have hwk := hMB.2.2.1
  have hc6 := hS.2.1.1
  have hc7 := hS.2.1.2.1
  have hc8 := hS.2.1.2.2
  have hg0 : 0 ≤ v 0 7 ∧ v 0 7 ≤ 8 := by omega
  have hu0 : v 0 6 = nu ∧ nu ≤ 20 := ⟨hc6, hnn.1⟩
  refine G_aload_n dX5_stood_0 rfl ?_
  refine G_iload_n dX5_stood_1 rfl ?_
  refine G_cVa (ci := 5) dX5_stood_2 rfl (by decide) rfl (c_X5_umpireAt l (d + 1) nu v hu0 u) mcX5_87 rfl rfl (by show _ ≤ d + 2; omega) rfl rfl (Nat.le_refl _) (Nat.le_refl _) ?_
  by_cases hu : 0 ≤ u ∧ u < nu
  · rw [if_pos (show 0 ≤ u ∧ u < nu by omega)]
    have hn : u.toNat < nu := by omega
    have hun : ((u.toNat : Nat) : Int) = u := by omega
    refine G_astore_n dX5_stood_5 rfl rfl ?_
    refine G_aload_n dX5_stood_6 rfl ?_
    refine G_ifnullS dX5_stood_7 ?_
    refine G_iload_n dX5_stood_10 rfl ?_
    refine G_if_lt 22 dX5_stood_11 (by decide) (fun h11 => ?_) (fun h11 => ?_)
    · refine G_iconst (n := (-1)) dX5_stood_22 ⟨by decide, by decide⟩ ?_
      exact G_iret dX5_stood_23 rfl rfl rfl ⟨by rw [if_neg (by omega)], rfl, rfl⟩
    · refine G_iload_n dX5_stood_14 rfl ?_
      refine G_aload_n dX5_stood_15 rfl ?_
      refine G_getIv (z 27 35) (jj := 8) dX5_stood_16 flX5_91 rfl rfl rfl hc8 ?_
      refine G_icmp_lt 24 dX5_stood_19 (by decide) (fun h19 => ?_) (fun h19 => ?_)
      · refine G_aload_n dX5_stood_24 rfl ?_
        refine G_iload_n dX5_stood_25 rfl ?_
        refine G_cVi (ci := 4) dX5_stood_26 (by rw [sh_ump hn]) (by decide) rfl (c_X4_clubsIn l (d + 1) nu v u.toNat hn x) mcX5_190 rfl rfl (by show _ ≤ d + 2; omega) rfl rfl (Nat.le_refl _) (Nat.le_refl _) ?_
        exact G_iret dX5_stood_29 rfl rfl rfl ⟨by rw [if_pos (by omega), cIn_z hS.2.2.2.1 hn (by omega) (by omega), hun], rfl, rfl⟩
      · refine G_iconst (n := (-1)) dX5_stood_22 ⟨by decide, by decide⟩ ?_
        exact G_iret dX5_stood_23 rfl rfl rfl ⟨by rw [if_neg (by omega)], rfl, rfl⟩
  · rw [if_neg (show ¬ (0 ≤ u ∧ u < nu) by omega)]
    refine G_astore_n dX5_stood_5 rfl rfl ?_
    refine G_aload_n dX5_stood_6 rfl ?_
    refine G_ifnullN 22 dX5_stood_7 (by decide) ?_
    refine G_iconst (n := (-1)) dX5_stood_22 ⟨by decide, by decide⟩ ?_
    exact G_iret dX5_stood_23 rfl rfl rfl ⟨by rw [if_neg (by omega)], rfl, rfl⟩
set_option maxRecDepth 20000 in
set_option maxHeartbeats 1000000 in
theorem c_X5_away (l : Launch) (d nu : Nat) (v : VV) (z : VV) (hS : Sim nu v z) (u x b : Int) (hb : b = 0 ∨ b = 1) : Ct l yX5_away cX5_away (some .boolean) 5 (d + 2) 0 0 [ar (some 0), ai u, ai x, ai b] (SG nu) v (fun r S2 v2 => r = some (ai (if (0 ≤ u ∧ u < nu) ∧ (z 27 35 ≤ x ∧ x ≤ 99) ∧ ¬ (x = z 27 35 ∧ seatOfS z u ≠ -1) ∧ z 43 (100 * u + x) ≠ b then 1 else 0)) ∧ S2 = SG nu ∧ Sim nu v2 (if (0 ≤ u ∧ u < nu) ∧ (z 27 35 ≤ x ∧ x ≤ 99) ∧ ¬ (x = z 27 35 ∧ seatOfS z u ≠ -1) ∧ z 43 (100 * u + x) ≠ b then up z 43 (100 * u + x) b else z) ∧ KM v v2) := by
  refine Ct_of_G [some (ar (some 0)), some (ai u), some (ai x), some (ai b), none] (by decide) rfl rfl ?_
  have hMB : MB nu z := hS.1
  have hnn := hMB.1
  have hgm := hMB.2.1
  have hwk := hMB.2.2.1
  have hc6 := hS.2.1.1
  have hc7 := hS.2.1.2.1
  have hc8 := hS.2.1.2.2
  have hg0 : 0 ≤ v 0 7 ∧ v 0 7 ≤ 8 := by omega
  have hu0 : v 0 6 = nu ∧ nu ≤ 20 := ⟨hc6, hnn.1⟩
  refine G_aload_n dX5_away_0 rfl ?_
  refine G_iload_n dX5_away_1 rfl ?_
  refine G_cVa (ci := 5) dX5_away_2 rfl (by decide) rfl (c_X5_umpireAt l (d + 1) nu v hu0 u) mcX5_87 rfl rfl (by show _ ≤ d + 2; omega) rfl rfl (Nat.le_refl _) (Nat.le_refl _) ?_
  by_cases hu : 0 ≤ u ∧ u < nu
  · rw [if_pos (show 0 ≤ u ∧ u < nu by omega)]
    have hn : u.toNat < nu := by omega
    have hun : ((u.toNat : Nat) : Int) = u := by omega
    have hpl := hS.2.2.2.2.2.1.2.1 u.toNat hn
    rw [hun] at hpl
    refine G_astore dX5_away_5 rfl rfl ?_
    refine G_aload dX5_away_7 rfl ?_
    refine G_ifnullS dX5_away_9 ?_
    refine G_iload_n dX5_away_12 rfl ?_
    refine G_aload_n dX5_away_13 rfl ?_
    refine G_getIv (z 27 35) (jj := 8) dX5_away_14 flX5_91 rfl rfl rfl hc8 ?_
    refine G_icmp_lt 26 dX5_away_17 (by decide) (fun h17 => ?_) (fun h17 => ?_)
    · refine G_iconst (n := 0) dX5_away_26 ⟨by decide, by decide⟩ ?_
      exact G_zret dX5_away_27 rfl (by omega) rfl rfl ⟨by rw [if_neg (by omega)], rfl, by rw [if_neg (by omega)]; exact hS, KM.rf⟩
    · refine G_iload_n dX5_away_20 rfl ?_
      refine G_bipush (n := 99) dX5_away_21 (by decide) ⟨by decide, by decide⟩ ?_
      refine G_icmp_le 28 dX5_away_23 (by decide) (fun h23 => ?_) (fun h23 => ?_)
      · refine G_iload_n dX5_away_28 rfl ?_
        refine G_aload_n dX5_away_29 rfl ?_
        refine G_getIv (z 27 35) (jj := 8) dX5_away_30 flX5_91 rfl rfl rfl hc8 ?_
        refine G_icmp_ne 47 dX5_away_33 (by decide) (fun h33 => ?_) (fun h33 => ?_)
        · refine G_aload dX5_away_47 rfl ?_
          refine G_iload_n dX5_away_49 rfl ?_
          refine G_iload_n dX5_away_50 rfl ?_
          refine G_cVi (ci := 4) dX5_away_51 (by rw [sh_ump hn]) (by decide) rfl (c_X4_setAway l (d + 1) nu v u.toNat hn x b hb) mcX5_97 rfl rfl (by show _ ≤ d + 2; omega) rfl rfl (Nat.le_refl _) (Nat.le_refl _) ?_
          have ew := (hS.2.2.2.1 u.toNat hn x (by omega) (by omega)).1
          rw [hun] at ew
          rw [ew]
          exact G_zret dX5_away_54 rfl (by split <;> omega) rfl rfl ⟨by congr 2; by_cases q : z 43 (100 * u + x) = b; rw [if_neg (by omega), if_neg (by omega)]; rw [if_pos (by omega), if_pos (by omega)], rfl, by by_cases q : z 43 (100 * u + x) = b; rw [if_neg (by omega), if_neg (by omega)]; exact hS; rw [if_pos (by omega), if_pos (by omega)]; have q2 := Simx_away (x := b) hS hn (w := x) (by omega) (by omega); rw [hun] at q2; exact q2, fun k k1 k2 => by split; exact up_ne (by omega); rfl⟩
        · refine G_aload dX5_away_36 rfl ?_
          refine G_getIv (seatOfS z u) (jj := 4) dX5_away_38 flX5_94 rfl (by rw [sh_ump hn]) rfl hpl ?_
          refine G_iconst (n := (-1)) dX5_away_41 ⟨by decide, by decide⟩ ?_
          refine G_icmp_eq 47 dX5_away_42 (by decide) (fun h42 => ?_) (fun h42 => ?_)
          · refine G_aload dX5_away_47 rfl ?_
            refine G_iload_n dX5_away_49 rfl ?_
            refine G_iload_n dX5_away_50 rfl ?_
            refine G_cVi (ci := 4) dX5_away_51 (by rw [sh_ump hn]) (by decide) rfl (c_X4_setAway l (d + 1) nu v u.toNat hn x b hb) mcX5_97 rfl rfl (by show _ ≤ d + 2; omega) rfl rfl (Nat.le_refl _) (Nat.le_refl _) ?_
            have ew := (hS.2.2.2.1 u.toNat hn x (by omega) (by omega)).1
            rw [hun] at ew
            rw [ew]
            exact G_zret dX5_away_54 rfl (by split <;> omega) rfl rfl ⟨by congr 2; by_cases q : z 43 (100 * u + x) = b; rw [if_neg (by omega), if_neg (by omega)]; rw [if_pos (by omega), if_pos (by omega)], rfl, by by_cases q : z 43 (100 * u + x) = b; rw [if_neg (by omega), if_neg (by omega)]; exact hS; rw [if_pos (by omega), if_pos (by omega)]; have q2 := Simx_away (x := b) hS hn (w := x) (by omega) (by omega); rw [hun] at q2; exact q2, fun k k1 k2 => by split; exact up_ne (by omega); rfl⟩
          · refine G_iconst (n := 0) dX5_away_45 ⟨by decide, by decide⟩ ?_
            exact G_zret dX5_away_46 rfl (by omega) rfl rfl ⟨by rw [if_neg (by omega)], rfl, by rw [if_neg (by omega)]; exact hS, KM.rf⟩
      · refine G_iconst (n := 0) dX5_away_26 ⟨by decide, by decide⟩ ?_
        exact G_zret dX5_away_27 rfl (by omega) rfl rfl ⟨by rw [if_neg (by omega)], rfl, by rw [if_neg (by omega)]; exact hS, KM.rf⟩
  · rw [if_neg (show ¬ (0 ≤ u ∧ u < nu) by omega)]
    refine G_astore dX5_away_5 rfl rfl ?_
    refine G_aload dX5_away_7 rfl ?_
    refine G_ifnullN 26 dX5_away_9 (by decide) ?_
    refine G_iconst (n := 0) dX5_away_26 ⟨by decide, by decide⟩ ?_
    exact G_zret dX5_away_27 rfl (by omega) rfl rfl ⟨by rw [if_neg (by omega)], rfl, by rw [if_neg (by omega)]; exact hS, KM.rf⟩
set_option maxRecDepth 20000 in
set_option maxHeartbeats 1000000 in
theorem c_X5_filledSeats (l : Launch) (d nu : Nat) (v : VV) (z : VV) (hS : Sim nu v z) : Ct l yX5_filledSeats cX5_filledSeats (some .int) 3 (d + 3) 0 0 [ar (some 0)] (SG nu) v (rI (SG nu) (filledS z) v) := by
  refine Ct_of_G [some (ar (some 0)), none, none] (by decide) rfl rfl ?_
  have hMB : MB nu z := hS.1
  have hnn := hMB.1
  have hgm := hMB.2.1
  have hwk := hMB.2.2.1
  have hc6 := hS.2.1.1
  have hc7 := hS.2.1.2.1
  have hc8 := hS.2.1.2.2
  have hg0 : 0 ≤ v 0 7 ∧ v 0 7 ≤ 8 := by omega
  have hu0 : v 0 6 = nu ∧ nu ≤ 20 := ⟨hc6, hnn.1⟩
  have loop : ∀ (N : Nat) (a s : Int), 0 ≤ s → s + N = 2 * z 27 34 → 0 ≤ a → a ≤ s → G l (yX5_filledSeats, cX5_filledSeats, (some .int), 3, (d + 3), 0, 0, none) (rI (SG nu) (a + sumF (fun s => if z 48 s = -1 then 0 else 1) N s) v) 0 0 (SG nu) 4 [some (ar (some 0)), some (ai a), some (ai s)] [] v := by
    intro N
    induction N using Nat.strongRecOn with
    | ind N ih =>
    intro a s h0 h1 h2 h3
    refine G_iload_n dX5_filledSeats_4 rfl ?_
    refine G_iconst (n := 2) dX5_filledSeats_5 ⟨by decide, by decide⟩ ?_
    refine G_aload_n dX5_filledSeats_6 rfl ?_
    refine G_getI (jj := 7) dX5_filledSeats_7 flX5_101 rfl rfl rfl ?_
    refine G_imul dX5_filledSeats_10 (iRm (by omega) (by omega)) ?_
    refine G_icmp_ge 31 dX5_filledSeats_11 (by decide) (fun h11 => ?_) (fun h11 => ?_)
    · obtain rfl : N = 0 := by omega
      refine G_iload_n dX5_filledSeats_31 rfl ?_
      exact G_iret dX5_filledSeats_32 rfl rfl rfl ⟨by rw [sumF, Int.add_zero], rfl, rfl⟩
    · obtain ⟨N, rfl⟩ : ∃ k, N = k + 1 := ⟨N - 1, by omega⟩
      have hsg : s < 2 * z 27 34 := by omega
      refine G_aload_n dX5_filledSeats_14 rfl ?_
      refine G_iload_n dX5_filledSeats_15 rfl ?_
      refine G_cVa (ci := 5) dX5_filledSeats_16 rfl (by decide) rfl (c_X5_holderOf l (d + 1) nu v hu0 hg0 s) mcX5_153 rfl rfl (by show _ ≤ d + 3; omega) rfl rfl (Nat.le_refl _) (Nat.le_refl _) ?_
      by_cases hw : z 48 s = -1
      · rw [(hold_none hS h0 hsg hw).2]
        refine G_ifnullN 25 dX5_filledSeats_19 (by decide) ?_
        refine G_iinc dX5_filledSeats_25 rfl (iRm (by omega) (by omega)) rfl rfl ?_
        refine G_goto 4 dX5_filledSeats_28 (by decide) ?_
        exact GI_eq (by simp [sumF, hw]; try omega) (ih N (by omega) _ (s + 1) (by omega) (by omega) (by omega) (by omega))
      · obtain ⟨hx1, hx2, hx3⟩ := hold_some hS h0 hsg hw
        rw [hx3]
        have hn : (z 48 s).toNat < nu := by omega
        have hzn : (((z 48 s).toNat : Nat) : Int) = z 48 s := by omega
        refine G_ifnullS dX5_filledSeats_19 ?_
        refine G_iinc dX5_filledSeats_22 rfl (iRm (by omega) (by omega)) rfl rfl ?_
        refine G_iinc dX5_filledSeats_25 rfl (iRm (by omega) (by omega)) rfl rfl ?_
        refine G_goto 4 dX5_filledSeats_28 (by decide) ?_
        exact GI_eq (by simp [sumF, hw]; try omega) (ih N (by omega) _ (s + 1) (by omega) (by omega) (by omega) (by omega))
  refine G_iconst (n := 0) dX5_filledSeats_0 ⟨by decide, by decide⟩ ?_
  refine G_istore_n dX5_filledSeats_1 rfl rfl ?_
  refine G_iconst (n := 0) dX5_filledSeats_2 ⟨by decide, by decide⟩ ?_
  refine G_istore_n dX5_filledSeats_3 rfl rfl ?_
  have e := loop (2 * z 27 34).toNat 0 0 (by omega) (by omega) (by omega) (by omega)
  rw [Int.zero_add] at e
  exact e
set_option maxRecDepth 20000 in
set_option maxHeartbeats 1000000 in
theorem c_X5_together (l : Launch) (d nu : Nat) (v : VV) (z : VV) (hS : Sim nu v z) : Ct l yX5_together cX5_together (some .int) 4 (d + 5) 0 0 [ar (some 0)] (SG nu) v (rI (SG nu) (togS z) v) := by
  refine Ct_of_G [some (ar (some 0)), none, none, none] (by decide) rfl rfl ?_
  have hMB : MB nu z := hS.1
  have hnn := hMB.1
  have hgm := hMB.2.1
  have hwk := hMB.2.2.1
  have hc6 := hS.2.1.1
  have hc7 := hS.2.1.2.1
  have hc8 := hS.2.1.2.2
  have hg0 : 0 ≤ v 0 7 ∧ v 0 7 ≤ 8 := by omega
  have hu0 : v 0 6 = nu ∧ nu ≤ 20 := ⟨hc6, hnn.1⟩
  have loop : ∀ (N : Nat) (a s : Int) (Z : Option AV), 0 ≤ s → s + N = 2 * z 27 34 → 0 ≤ a → a ≤ s * 5148 → G l (yX5_together, cX5_together, (some .int), 4, (d + 5), 0, 0, none) (rI (SG nu) (a + sumF (fun s => if z 48 s = -1 then 0 else costS z (z 48 s) s) N s) v) 0 0 (SG nu) 4 [some (ar (some 0)), some (ai a), some (ai s), Z] [] v := by
    intro N
    induction N using Nat.strongRecOn with
    | ind N ih =>
    intro a s Z h0 h1 h2 h3
    refine G_iload_n dX5_together_4 rfl ?_
    refine G_iconst (n := 2) dX5_together_5 ⟨by decide, by decide⟩ ?_
    refine G_aload_n dX5_together_6 rfl ?_
    refine G_getI (jj := 7) dX5_together_7 flX5_101 rfl rfl rfl ?_
    refine G_imul dX5_together_10 (iRm (by omega) (by omega)) ?_
    refine G_icmp_ge 39 dX5_together_11 (by decide) (fun h11 => ?_) (fun h11 => ?_)
    · obtain rfl : N = 0 := by omega
      refine G_iload_n dX5_together_39 rfl ?_
      exact G_iret dX5_together_40 rfl rfl rfl ⟨by rw [sumF, Int.add_zero], rfl, rfl⟩
    · obtain ⟨N, rfl⟩ : ∃ k, N = k + 1 := ⟨N - 1, by omega⟩
      have hsg : s < 2 * z 27 34 := by omega
      refine G_aload_n dX5_together_14 rfl ?_
      refine G_iload_n dX5_together_15 rfl ?_
      refine G_cVa (ci := 5) dX5_together_16 rfl (by decide) rfl (c_X5_holderOf l (d + 3) nu v hu0 hg0 s) mcX5_153 rfl rfl (by show _ ≤ d + 5; omega) rfl rfl (Nat.le_refl _) (Nat.le_refl _) ?_
      by_cases hw : z 48 s = -1
      · rw [(hold_none hS h0 hsg hw).2]
        refine G_astore_n dX5_together_19 rfl rfl ?_
        refine G_aload_n dX5_together_20 rfl ?_
        refine G_ifnullN 33 dX5_together_21 (by decide) ?_
        refine G_iinc dX5_together_33 rfl (iRm (by omega) (by omega)) rfl rfl ?_
        refine G_goto 4 dX5_together_36 (by decide) ?_
        exact GI_eq (by simp [sumF, hw]; try omega) (ih N (by omega) _ (s + 1) _ (by omega) (by omega) (by omega) (by omega))
      · obtain ⟨hx1, hx2, hx3⟩ := hold_some hS h0 hsg hw
        rw [hx3]
        have hn : (z 48 s).toNat < nu := by omega
        have hzn : (((z 48 s).toNat : Nat) : Int) = z 48 s := by omega
        have hcs := MB.cost hMB (u := z 48 s) (s := s) hx1 ⟨h0, hsg⟩
        refine G_astore_n dX5_together_19 rfl rfl ?_
        refine G_aload_n dX5_together_20 rfl ?_
        refine G_ifnullS dX5_together_21 ?_
        refine G_iload_n dX5_together_24 rfl ?_
        refine G_aload_n dX5_together_25 rfl ?_
        refine G_aload_n dX5_together_26 rfl ?_
        refine G_iload_n dX5_together_27 rfl ?_
        refine G_cVi (ci := 5) dX5_together_28 rfl (by decide) rfl (c_X5_price l (d + 1) nu v z hS (z 48 s).toNat hn s ⟨h0, hsg⟩) mcX5_114 rfl rfl (by show _ ≤ d + 5; omega) rfl rfl (Nat.le_refl _) (Nat.le_refl _) ?_
        rw [hzn]
        refine G_iadd dX5_together_31 (iRm (by omega) (by omega)) ?_
        refine G_istore_n dX5_together_32 rfl rfl ?_
        refine G_iinc dX5_together_33 rfl (iRm (by omega) (by omega)) rfl rfl ?_
        refine G_goto 4 dX5_together_36 (by decide) ?_
        exact GI_eq (by simp [sumF, hw]; try omega) (ih N (by omega) _ (s + 1) _ (by omega) (by omega) (by omega) (by omega))
  refine G_iconst (n := 0) dX5_together_0 ⟨by decide, by decide⟩ ?_
  refine G_istore_n dX5_together_1 rfl rfl ?_
  refine G_iconst (n := 0) dX5_together_2 ⟨by decide, by decide⟩ ?_
  refine G_istore_n dX5_together_3 rfl rfl ?_
  have e := loop (2 * z 27 34).toNat 0 0 none (by omega) (by omega) (by omega) (by omega)
  rw [Int.zero_add] at e
  exact e
set_option maxRecDepth 20000 in
set_option maxHeartbeats 1000000 in
theorem c_X1_faultKind (l : Launch) (d nu : Nat) (v : VV)  : Ct l yX1_faultKind cX1_faultKind (some .int) 1 (d + 0) 0 0 [ar (some 3)] (SG nu) v (rI (SG nu) (v 3 5) v) := by
  refine Ct_of_G [some (ar (some 3))] (by decide) rfl rfl ?_
  refine G_aload_n dX1_faultKind_0 rfl ?_
  refine G_getI (jj := 5) dX1_faultKind_1 flX1_21 rfl rfl rfl ?_
  exact G_iret dX1_faultKind_4 rfl rfl rfl ⟨rfl, rfl, rfl⟩
set_option maxRecDepth 20000 in
set_option maxHeartbeats 1000000 in
theorem c_X5_fault (l : Launch) (d nu : Nat) (v : VV) (z : VV) (hS : Sim nu v z) : Ct l yX5_fault cX5_fault (some .int) 1 (d + 1) 0 0 [ar (some 0)] (SG nu) v (rI (SG nu) (z 27 13) v) := by
  refine Ct_of_G [some (ar (some 0))] (by decide) rfl rfl ?_
  have hMB : MB nu z := hS.1
  have hnn := hMB.1
  have hgm := hMB.2.1
  have hwk := hMB.2.2.1
  have hc6 := hS.2.1.1
  have hc7 := hS.2.1.2.1
  have hc8 := hS.2.1.2.2
  have hg0 : 0 ≤ v 0 7 ∧ v 0 7 ≤ 8 := by omega
  have hu0 : v 0 6 = nu ∧ nu ≤ 20 := ⟨hc6, hnn.1⟩
  refine G_aload_n dX5_fault_0 rfl ?_
  refine G_getR (jj := 1) dX5_fault_1 flX5_19 rfl rfl rfl ?_
  refine G_cVi (ci := 1) dX5_fault_4 rfl (by decide) rfl (c_X1_faultKind l (d + 0) nu v) mcX5_66 rfl rfl (by show _ ≤ d + 1; omega) rfl rfl (Nat.le_refl _) (Nat.le_refl _) ?_
  rw [hS.2.2.2.2.2.2.2.1.1]
  exact G_iret dX5_fault_7 rfl rfl rfl ⟨rfl, rfl, rfl⟩
set_option maxRecDepth 20000 in
set_option maxHeartbeats 1000000 in
theorem c_X5_rule (l : Launch) (d nu : Nat) (v : VV) (z : VV) (hS : Sim nu v z) (k : Int) : Ct l yX5_rule cX5_rule (some .int) 2 (d + 1) 0 0 [ar (some 0), ai k] (SG nu) v (rI (SG nu) (if 0 ≤ k ∧ k < 9 then z 29 k else -1) v) := by
  refine Ct_of_G [some (ar (some 0)), some (ai k)] (by decide) rfl rfl ?_
  have hMB : MB nu z := hS.1
  have hnn := hMB.1
  have hgm := hMB.2.1
  have hwk := hMB.2.2.1
  have hc6 := hS.2.1.1
  have hc7 := hS.2.1.2.1
  have hc8 := hS.2.1.2.2
  have hg0 : 0 ≤ v 0 7 ∧ v 0 7 ≤ 8 := by omega
  have hu0 : v 0 6 = nu ∧ nu ≤ 20 := ⟨hc6, hnn.1⟩
  refine G_aload_n dX5_rule_0 rfl ?_
  refine G_getR (jj := 1) dX5_rule_1 flX5_19 rfl rfl rfl ?_
  refine G_iload_n dX5_rule_4 rfl ?_
  refine G_cVi (ci := 1) dX5_rule_5 rfl (by decide) rfl (c_X1_value l (d + 0) nu v k) mcX5_69 rfl rfl (by show _ ≤ d + 1; omega) rfl rfl (Nat.le_refl _) (Nat.le_refl _) ?_
  exact G_iret dX5_rule_8 rfl rfl rfl ⟨by congr 2; by_cases q : 0 ≤ k ∧ k < 9; rw [if_pos q, if_pos q]; exact hS.2.2.2.2.2.2.1 k q.1 q.2; rw [if_neg q, if_neg q], rfl, rfl⟩
set_option maxRecDepth 20000 in
set_option maxHeartbeats 1000000 in
theorem c_X5_off (l : Launch) (d nu : Nat) (v : VV) (z : VV) (hS : Sim nu v z) (u : Int) : Ct l yX5_off cX5_off (some .int) 5 (d + 7) 0 0 [ar (some 0), ai u] (SG nu) v (fun r S2 v2 => ∃ x z2, r = some (ai x) ∧ S2 = SG nu ∧ offP nu z u x z2 ∧ Sim nu v2 z2 ∧ KM v v2) := by
  refine Ct_of_G [some (ar (some 0)), some (ai u), none, none, none] (by decide) rfl rfl ?_
  have hMB : MB nu z := hS.1
  have hnn := hMB.1
  have hgm := hMB.2.1
  have hwk := hMB.2.2.1
  have hc6 := hS.2.1.1
  have hc7 := hS.2.1.2.1
  have hc8 := hS.2.1.2.2
  have hg0 : 0 ≤ v 0 7 ∧ v 0 7 ≤ 8 := by omega
  have hu0 : v 0 6 = nu ∧ nu ≤ 20 := ⟨hc6, hnn.1⟩
  refine G_fact (fun _ hRV _ _ => ?_)
  have hk9 := sk_zero hS.2.2.2.2.2.2.2.2 (RV_9 hRV)
  have hk8 := sk_nn hS.2.2.2.2.2.2.2.2
  refine G_aload_n dX5_off_0 rfl ?_
  refine G_iload_n dX5_off_1 rfl ?_
  refine G_cVa (ci := 5) dX5_off_2 rfl (by decide) rfl (c_X5_umpireAt l (d + 6) nu v hu0 u) mcX5_87 rfl rfl (by show _ ≤ d + 7; omega) rfl rfl (Nat.le_refl _) (Nat.le_refl _) ?_
  by_cases hu : 0 ≤ u ∧ u < nu
  · rw [if_pos (show 0 ≤ u ∧ u < nu by omega)]
    have hn : u.toNat < nu := by omega
    have hun : ((u.toNat : Nat) : Int) = u := by omega
    have hpl := hS.2.2.2.2.2.1.2.1 u.toNat hn
    rw [hun] at hpl
    have hI := hS.2.2.2.2.2.1.2.2
    refine G_astore_n dX5_off_5 rfl rfl ?_
    refine G_aload_n dX5_off_6 rfl ?_
    refine G_ifnullS dX5_off_7 ?_
    refine G_aload_n dX5_off_10 rfl ?_
    refine G_getIv (seatOfS z u) (jj := 4) dX5_off_11 flX5_94 rfl (by rw [sh_ump hn]) rfl hpl ?_
    refine G_iconst (n := (-1)) dX5_off_14 ⟨by decide, by decide⟩ ?_
    refine G_icmp_eq 25 dX5_off_15 (by decide) (fun h15 => ?_) (fun h15 => ?_)
    · refine G_iconst (n := (-1)) dX5_off_25 ⟨by decide, by decide⟩ ?_
      exact G_iret dX5_off_26 rfl rfl rfl ⟨-1, z, rfl, rfl, Or.inl ⟨by unfold offOk; omega, rfl, rfl⟩, hS, KM.rf⟩
    · refine G_aload_n dX5_off_18 rfl ?_
      refine G_getI (jj := 9) dX5_off_19 flX5_118 rfl rfl rfl ?_
      refine G_if_eq 27 dX5_off_22 (by decide) (fun h22 => ?_) (fun h22 => ?_)
      · have hoff : offOk nu z u := ⟨hu, h15, by omega⟩
        have hsr : 0 ≤ seatOfS z u ∧ seatOfS z u < 2 * z 27 34 := by rcases seatOf_spec (v := z) u hgm.1 with ⟨q, -⟩ | ⟨q1, q2, -⟩; exact absurd q h15; exact ⟨q1, q2⟩
        refine G_aload_n dX5_off_27 rfl ?_
        refine G_getIv (seatOfS z u) (jj := 4) dX5_off_28 flX5_94 rfl (by rw [sh_ump hn]) rfl hpl ?_
        refine G_istore_n dX5_off_31 rfl rfl ?_
        refine G_aload_n dX5_off_32 rfl ?_
        refine G_iload_n dX5_off_33 rfl ?_
        refine G_cVq (ci := 5) dX5_off_34 rfl (by decide) rfl (c_X5_clearSeat l (d + 4) nu v (z 27 35) z hS (seatOfS z u) hsr) mcX5_125 rfl rfl (by show _ ≤ d + 7; omega) rfl rfl (Nat.le_refl _) (Nat.le_refl _) (fun r S2 v2 hq9 => ?_)
        obtain ⟨rfl, rfl, hS1, hk1⟩ := hq9
        have hc8b : v2 0 8 = z 27 35 := hS1.2.1.2.2
        refine G_aload_n dX5_off_37 rfl ?_
        refine G_aload_n dX5_off_38 rfl ?_
        refine G_getIv (z 27 35) (jj := 8) dX5_off_39 flX5_91 rfl rfl rfl hc8b ?_
        refine G_iconst (n := 1) dX5_off_42 ⟨by decide, by decide⟩ ?_
        refine G_cVi (ci := 4) dX5_off_43 (by rw [sh_ump hn]) (by decide) rfl (c_X4_setAway l (d + 6) nu v2 u.toNat hn (z 27 35) 1 (Or.inr rfl)) mcX5_97 rfl rfl (by show _ ≤ d + 7; omega) rfl rfl (Nat.le_refl _) (Nat.le_refl _) ?_
        rw [show (if (0 ≤ z 27 35 ∧ z 27 35 ≤ 99) ∧ v2 (60 + 3 * u.toNat) (z 27 35) ≠ 1 then up v2 (60 + 3 * u.toNat) (z 27 35) 1 else v2) = up v2 (60 + 3 * u.toNat) (z 27 35) 1 from by
          by_cases q : v2 (60 + 3 * u.toNat) (z 27 35) = 1
          · rw [if_neg (fun y => y.2 q)]; have e := up_id v2 (60 + 3 * u.toNat) (z 27 35); rw [q] at e; exact e.symm
          · rw [if_pos ⟨by omega, q⟩]]
        have hS2 := Simx_away (x := 1) hS1 hn (w := z 27 35) (by omega) (by omega)
        rw [hun, show up (up z 48 (seatOfS z u) (-1)) 43 (100 * u + z 27 35) 1 = offZ z u (seatOfS z u) from (up_comm z _ _ _ _ (by decide))] at hS2
        have hk2 : KM v (up v2 (60 + 3 * u.toNat) (z 27 35) 1) := fun k k1 k2 => (up_ne (by omega)).trans (hk1.m k k1 k2)
        have hp : ∀ x z2, offF nu (offZ z u (seatOfS z u)) (seatOfS z u) x z2 → offP nu z u x z2 := fun x z2 q => Or.inr ⟨hoff, q⟩
        have hws : offZ z u (seatOfS z u) 48 (seatOfS z u) = -1 := up_self _ _ _ _
        have hsr2 : 0 ≤ seatOfS z u ∧ seatOfS z u < 2 * (offZ z u (seatOfS z u)) 27 34 := hsr
        have hSz : Sim nu (up v2 (60 + 3 * u.toNat) (z 27 35) 1) (offZ z u (seatOfS z u)) := hS2
        clear hS2 hS1 hk1 hpl
        generalize hs9 : seatOfS z u = s at hSz hp hws hsr2 ⊢
        generalize offZ z u s = y at hSz hp hws hsr2 ⊢
        generalize up v2 (60 + 3 * u.toNat) (z 27 35) 1 = v3 at hSz hk2 ⊢
        refine G_pop_i dX5_off_46 ?_
        refine G_aload_n dX5_off_47 rfl ?_
        refine G_iload_n dX5_off_48 rfl ?_
        refine G_cVq (ci := 5) dX5_off_49 rfl (by decide) rfl (c_X5_cheapestFree l (d + 2) nu v3 y hSz s hsr2) mcX5_144 rfl rfl (by show _ ≤ d + 7; omega) rfl rfl (Nat.le_refl _) (Nat.le_refl _) (fun r S2 v4 hq9 => ?_)
        obtain ⟨b, rfl, hb, rfl, rfl⟩ := hq9
        refine G_istore dX5_off_52 rfl rfl ?_
        refine G_iload dX5_off_54 rfl ?_
        refine G_iconst (n := (-1)) dX5_off_56 ⟨by decide, by decide⟩ ?_
        refine G_icmp_eq 69 dX5_off_57 (by decide) (fun h57 => ?_) (fun h57 => ?_)
        · refine G_aload_n dX5_off_69 rfl ?_
          refine G_iload_n dX5_off_70 rfl ?_
          refine G_cVq (ci := 5) dX5_off_71 rfl (by decide) rfl (c_X5_fillByMove l (d + 0) nu v4 y hSz s hsr2 hws) mcX5_147 rfl rfl (by show _ ≤ d + 7; omega) rfl rfl (Nat.le_refl _) (Nat.le_refl _) (fun r S2 v5 hq9 => ?_)
          obtain ⟨x, rfl, rfl, C, t, hmv, hq9⟩ := hq9
          subst h57
          refine G_if_eq 81 dX5_off_74 (by decide) (fun h74 => ?_) (fun h74 => ?_)
          · refine G_iconst (n := 0) dX5_off_81 ⟨by decide, by decide⟩ ?_
            exact G_iret dX5_off_82 rfl rfl rfl (by rcases hq9 with ⟨e1, e2, e3⟩ | ⟨e1, e2, x2, e3, e4, e5, e6⟩; (first | (subst e3; exact ⟨0, _, rfl, rfl, hp 0 _ ⟨-1, hb, Or.inr ⟨rfl, C, t, hmv, Or.inl ⟨e1, rfl, rfl⟩⟩⟩, hSz, hk2⟩) | omega); (first | exact ⟨2, _, rfl, rfl, hp 2 _ ⟨-1, hb, Or.inr ⟨rfl, C, t, hmv, Or.inr ⟨e1, rfl, x2, e3, e4, rfl⟩⟩⟩, e5, hk2.tr e6.m⟩ | omega))
          · refine G_iconst (n := 2) dX5_off_77 ⟨by decide, by decide⟩ ?_
            refine G_goto 82 dX5_off_78 (by decide) ?_
            exact G_iret dX5_off_82 rfl rfl rfl (by rcases hq9 with ⟨e1, e2, e3⟩ | ⟨e1, e2, x2, e3, e4, e5, e6⟩; (first | (subst e3; exact ⟨0, _, rfl, rfl, hp 0 _ ⟨-1, hb, Or.inr ⟨rfl, C, t, hmv, Or.inl ⟨e1, rfl, rfl⟩⟩⟩, hSz, hk2⟩) | omega); (first | exact ⟨2, _, rfl, rfl, hp 2 _ ⟨-1, hb, Or.inr ⟨rfl, C, t, hmv, Or.inr ⟨e1, rfl, x2, e3, e4, rfl⟩⟩⟩, e5, hk2.tr e6.m⟩ | omega))
        · have hbc : (0 ≤ b ∧ b < nu) ∧ candP y b s := by rcases hb with ⟨e, -⟩ | ⟨e1, e2, e3, -⟩; exact absurd e h57; exact ⟨⟨e1, e2⟩, e3⟩
          refine G_aload_n dX5_off_60 rfl ?_
          refine G_iload_n dX5_off_61 rfl ?_
          refine G_iload dX5_off_62 rfl ?_
          refine G_cVq (ci := 5) dX5_off_64 rfl (by decide) rfl (c_X5_fillSeat l (d + 5) nu v4 (y 27 35) y hSz s b hsr2 hws (Or.inr ⟨hbc.1, hbc.2.1⟩)) mcX5_138 rfl rfl (by show _ ≤ d + 7; omega) rfl rfl (Nat.le_refl _) (Nat.le_refl _) (fun r S2 v5 hq9 => ?_)
          obtain ⟨rfl, rfl, hS5, hk5⟩ := hq9
          refine G_iconst (n := 1) dX5_off_67 ⟨by decide, by decide⟩ ?_
          exact G_iret dX5_off_68 rfl rfl rfl ⟨1, _, rfl, rfl, hp 1 _ ⟨b, hb, Or.inl ⟨h57, rfl, rfl⟩⟩, hS5, hk2.tr hk5.m⟩
      · refine G_iconst (n := (-1)) dX5_off_25 ⟨by decide, by decide⟩ ?_
        exact G_iret dX5_off_26 rfl rfl rfl ⟨-1, z, rfl, rfl, Or.inl ⟨by unfold offOk; omega, rfl, rfl⟩, hS, KM.rf⟩
  · rw [if_neg (show ¬ (0 ≤ u ∧ u < nu) by omega)]
    refine G_astore_n dX5_off_5 rfl rfl ?_
    refine G_aload_n dX5_off_6 rfl ?_
    refine G_ifnullN 25 dX5_off_7 (by decide) ?_
    refine G_iconst (n := (-1)) dX5_off_25 ⟨by decide, by decide⟩ ?_
    exact G_iret dX5_off_26 rfl rfl rfl ⟨-1, z, rfl, rfl, Or.inl ⟨by unfold offOk; omega, rfl, rfl⟩, hS, KM.rf⟩
