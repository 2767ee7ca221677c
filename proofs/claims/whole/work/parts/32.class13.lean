set_option maxRecDepth 20000 in
set_option maxHeartbeats 1000000 in
theorem c_X5_count (l : Launch) (d nu : Nat) (v : VV) (z : VV) (hS : Sim nu v z) (x : Int) : Ct l yX5_count cX5_count (some .int) 2 (d + 4) 0 0 [ar (some 0), ai x] (SG nu) v (rI (SG nu) (countS z x) v) := by
  refine Ct_of_G [some (ar (some 0)), some (ai x)] (by decide) rfl rfl ?_
  have hMB : MB nu z := hS.1
  have hnn := hMB.1
  have hgm := hMB.2.1
  have hwk := hMB.2.2.1
  have hc6 := hS.2.1.1
  have hc7 := hS.2.1.2.1
  have hc8 := hS.2.1.2.2
  have hg0 : 0 ≤ v 0 7 ∧ v 0 7 ≤ 8 := by omega
  have hu0 : v 0 6 = nu ∧ nu ≤ 20 := ⟨hc6, hnn.1⟩
  refine G_iload_n dX5_count_0 rfl ?_
  rcases (show (x < 0 ∨ 5 < x) ∨ x = 0 ∨ x = 1 ∨ x = 2 ∨ x = 3 ∨ x = 4 ∨ x = 5 by omega) with hsw | rfl | rfl | rfl | rfl | rfl | rfl
  · refine G_tableOut 76 dX5_count_1 hsw (by decide) ?_
    refine G_iconst (n := (-1)) dX5_count_76 ⟨by decide, by decide⟩ ?_
    exact G_iret dX5_count_77 rfl rfl rfl ⟨by unfold countS; rw [if_neg (by omega), if_neg (by omega), if_neg (by omega), if_neg (by omega), if_neg (by omega), if_neg (by omega)], rfl, rfl⟩
  · refine G_tableIn 40 dX5_count_1 (by omega) (by omega) rfl (by decide) ?_
    refine G_aload_n dX5_count_40 rfl ?_
    refine G_getIv (z 27 35) (jj := 8) dX5_count_41 flX5_91 rfl rfl rfl hc8 ?_
    exact G_iret dX5_count_44 rfl rfl rfl ⟨by simp [countS], rfl, rfl⟩
  · refine G_tableIn 45 dX5_count_1 (by omega) (by omega) rfl (by decide) ?_
    refine G_aload_n dX5_count_45 rfl ?_
    refine G_getIv ((nu : Int)) (jj := 6) dX5_count_46 flX5_73 rfl rfl rfl hc6 ?_
    exact G_iret dX5_count_49 rfl rfl rfl ⟨by simp [countS, hnn.2], rfl, rfl⟩
  · refine G_tableIn 50 dX5_count_1 (by omega) (by omega) rfl (by decide) ?_
    refine G_aload_n dX5_count_50 rfl ?_
    refine G_getIv (z 27 34) (jj := 7) dX5_count_51 flX5_101 rfl rfl rfl hc7 ?_
    exact G_iret dX5_count_54 rfl rfl rfl ⟨by simp [countS], rfl, rfl⟩
  · refine G_tableIn 55 dX5_count_1 (by omega) (by omega) rfl (by decide) ?_
    refine G_aload_n dX5_count_55 rfl ?_
    refine G_cVi (ci := 5) dX5_count_56 rfl (by decide) rfl (c_X5_filledSeats l (d + 0) nu v z hS) mcX5_141 rfl rfl (by show _ ≤ d + 4; omega) rfl rfl (Nat.le_refl _) (Nat.le_refl _) ?_
    exact G_iret dX5_count_59 rfl rfl rfl ⟨by simp [countS], rfl, rfl⟩
  · refine G_tableIn 60 dX5_count_1 (by omega) (by omega) rfl (by decide) ?_
    refine G_aload_n dX5_count_60 rfl ?_
    refine G_getI (jj := 9) dX5_count_61 flX5_118 rfl rfl rfl ?_
    refine G_cSi dX5_count_64 (c_J6_bitCount_0f7a4 l (d + 3) nu v (v 0 9)) mcX5_193 rfl rfl (by show _ ≤ d + 4; omega) rfl rfl (Nat.le_refl _) (Nat.le_refl _) ?_
    rw [bcI_bits, show (bitct ((Int32.ofInt (v 0 9)).toBitVec.toNat) 32 : Int) = z 27 36 from hS.2.2.2.2.2.2.2.2.2.2.symm]
    exact G_iret dX5_count_67 rfl rfl rfl ⟨by simp [countS], rfl, rfl⟩
  · refine G_tableIn 68 dX5_count_1 (by omega) (by omega) rfl (by decide) ?_
    refine G_aload_n dX5_count_68 rfl ?_
    refine G_getR (jj := 0) dX5_count_69 flX5_10 rfl rfl rfl ?_
    refine G_cVi (ci := 3) dX5_count_72 rfl (by decide) rfl (c_X3_length l (d + 3) nu v) mcX5_55 rfl rfl (by show _ ≤ d + 4; omega) rfl rfl (Nat.le_refl _) (Nat.le_refl _) ?_
    rw [hS.2.2.2.2.2.2.2.1.2.1]
    exact G_iret dX5_count_75 rfl rfl rfl ⟨by simp [countS], rfl, rfl⟩
set_option maxRecDepth 20000 in
set_option maxHeartbeats 1000000 in
theorem c_X5_feed (l : Launch) (d nu : Nat) (v : VV) (z : VV) (hS : Sim nu v z) (a b c q e : Int) (ha : iR a) (hb : iR b) (hc : iR c) (hq : iR q) (he : iR e) : Ct l yX5_feed cX5_feed (some .int) 6 (d + 3) 0 0 [ar (some 0), ai a, ai b, ai c, ai q, ai e] (SG nu) v (fun r S2 v2 => r = some (ai (if z 27 2 + 20 ≤ 180 then z 27 2 + 20 else -1)) ∧ S2 = SG nu ∧ Sim nu v2 (if z 27 2 + 20 ≤ 180 then feedV z a b c q e else z) ∧ KM v v2) := by
  refine Ct_of_G [some (ar (some 0)), some (ai a), some (ai b), some (ai c), some (ai q), some (ai e)] (by decide) rfl rfl ?_
  have hMB : MB nu z := hS.1
  have hnn := hMB.1
  have hgm := hMB.2.1
  have hwk := hMB.2.2.1
  have hc6 := hS.2.1.1
  have hc7 := hS.2.1.2.1
  have hc8 := hS.2.1.2.2
  have hg0 : 0 ≤ v 0 7 ∧ v 0 7 ≤ 8 := by omega
  have hu0 : v 0 6 = nu ∧ nu ≤ 20 := ⟨hc6, hnn.1⟩
  have hT2 := hS.2.2.2.2.2.2.2.1.2.1
  have hT3 := hS.2.2.2.2.2.2.2.1.2.2.1
  refine G_aload_n dX5_feed_0 rfl ?_
  refine G_getR (jj := 0) dX5_feed_1 flX5_10 rfl rfl rfl ?_
  refine G_bipush (n := 20) dX5_feed_4 (by decide) ⟨by decide, by decide⟩ ?_
  refine G_cVi (ci := 3) dX5_feed_6 rfl (by decide) rfl (c_X3_hasRoom l (d + 2) nu v 20 (by omega) (by omega)) mcX5_47 rfl rfl (by show _ ≤ d + 3; omega) rfl rfl (Nat.le_refl _) (Nat.le_refl _) ?_
  refine G_if_ne 14 dX5_feed_9 (by decide) (fun h9 => ?_) (fun h9 => ?_)
  · refine G_aload_n dX5_feed_14 rfl ?_
    refine G_getR (jj := 0) dX5_feed_15 flX5_10 rfl rfl rfl ?_
    refine G_iload_n dX5_feed_18 rfl ?_
    refine G_cVq (ci := 3) dX5_feed_19 rfl (by decide) rfl (c_X3_append l (d + 1) nu v (z 27 35) (z) hS a ha (by first | omega | (simp only [comeV_len]; omega))) mcX5_51 rfl rfl (by show _ ≤ d + 3; omega) rfl rfl (Nat.le_refl _) (Nat.le_refl _) (fun r S2 w0 hq9 => ?_)
    obtain ⟨rfl, rfl, hS0, hk0⟩ := hq9
    refine G_aload_n dX5_feed_22 rfl ?_
    refine G_getR (jj := 0) dX5_feed_23 flX5_10 rfl rfl rfl ?_
    refine G_iload_n dX5_feed_26 rfl ?_
    refine G_cVq (ci := 3) dX5_feed_27 rfl (by decide) rfl (c_X3_append l (d + 1) nu w0 (z 27 35) (comeV (z) a) hS0 b hb (by first | omega | (simp only [comeV_len]; omega))) mcX5_51 rfl rfl (by show _ ≤ d + 3; omega) rfl rfl (Nat.le_refl _) (Nat.le_refl _) (fun r S2 w1 hq9 => ?_)
    obtain ⟨rfl, rfl, hS1, hk1⟩ := hq9
    refine G_aload_n dX5_feed_30 rfl ?_
    refine G_getR (jj := 0) dX5_feed_31 flX5_10 rfl rfl rfl ?_
    refine G_iload_n dX5_feed_34 rfl ?_
    refine G_cVq (ci := 3) dX5_feed_35 rfl (by decide) rfl (c_X3_append l (d + 1) nu w1 (z 27 35) (comeV (comeV (z) a) b) hS1 c hc (by first | omega | (simp only [comeV_len]; omega))) mcX5_51 rfl rfl (by show _ ≤ d + 3; omega) rfl rfl (Nat.le_refl _) (Nat.le_refl _) (fun r S2 w2 hq9 => ?_)
    obtain ⟨rfl, rfl, hS2, hk2⟩ := hq9
    refine G_aload_n dX5_feed_38 rfl ?_
    refine G_getR (jj := 0) dX5_feed_39 flX5_10 rfl rfl rfl ?_
    refine G_iload dX5_feed_42 rfl ?_
    refine G_cVq (ci := 3) dX5_feed_44 rfl (by decide) rfl (c_X3_append l (d + 1) nu w2 (z 27 35) (comeV (comeV (comeV (z) a) b) c) hS2 q hq (by first | omega | (simp only [comeV_len]; omega))) mcX5_51 rfl rfl (by show _ ≤ d + 3; omega) rfl rfl (Nat.le_refl _) (Nat.le_refl _) (fun r S2 w3 hq9 => ?_)
    obtain ⟨rfl, rfl, hS3, hk3⟩ := hq9
    refine G_aload_n dX5_feed_47 rfl ?_
    refine G_getR (jj := 0) dX5_feed_48 flX5_10 rfl rfl rfl ?_
    refine G_iload dX5_feed_51 rfl ?_
    refine G_cVq (ci := 3) dX5_feed_53 rfl (by decide) rfl (c_X3_append l (d + 1) nu w3 (z 27 35) (comeV (comeV (comeV (comeV (z) a) b) c) q) hS3 e he (by first | omega | (simp only [comeV_len]; omega))) mcX5_51 rfl rfl (by show _ ≤ d + 3; omega) rfl rfl (Nat.le_refl _) (Nat.le_refl _) (fun r S2 w4 hq9 => ?_)
    obtain ⟨rfl, rfl, hS4, hk4⟩ := hq9
    refine G_aload_n dX5_feed_56 rfl ?_
    refine G_getR (jj := 0) dX5_feed_57 flX5_10 rfl rfl rfl ?_
    refine G_cVi (ci := 3) dX5_feed_60 rfl (by decide) rfl (c_X3_length l (d + 2) nu w4) mcX5_55 rfl rfl (by show _ ≤ d + 3; omega) rfl rfl (Nat.le_refl _) (Nat.le_refl _) ?_
    rw [hS4.2.2.2.2.2.2.2.1.2.1]
    exact G_iret dX5_feed_63 rfl rfl rfl ⟨by rw [if_pos (by omega)]; congr 2; simp only [comeV_len]; omega, rfl, by rw [if_pos (by omega)]; exact hS4, (((hk0.tr hk1).tr hk2).tr hk3).tr hk4⟩
  · refine G_iconst (n := (-1)) dX5_feed_12 ⟨by decide, by decide⟩ ?_
    exact G_iret dX5_feed_13 rfl rfl rfl ⟨by rw [if_neg (by omega)], rfl, by rw [if_neg (by omega)]; exact hS, KM.rf⟩
set_option maxRecDepth 20000 in
set_option maxHeartbeats 1000000 in
theorem c_X5_end (l : Launch) (d nu : Nat) (v : VV) (z : VV) (hS : Sim nu v z) (n : Int) : Ct l yX5_end cX5_end (some .boolean) 2 (d + 1) 0 0 [ar (some 0), ai n] (SG nu) v (fun r S2 v2 => r = some (ai (if 0 ≤ n ∧ n ≤ z 27 2 then 1 else 0)) ∧ S2 = SG nu ∧ Sim nu v2 (if 0 ≤ n ∧ n ≤ z 27 2 then up z 27 2 n else z) ∧ KM v v2) := by
  refine Ct_of_G [some (ar (some 0)), some (ai n)] (by decide) rfl rfl ?_
  have hMB : MB nu z := hS.1
  have hnn := hMB.1
  have hgm := hMB.2.1
  have hwk := hMB.2.2.1
  have hc6 := hS.2.1.1
  have hc7 := hS.2.1.2.1
  have hc8 := hS.2.1.2.2
  have hg0 : 0 ≤ v 0 7 ∧ v 0 7 ≤ 8 := by omega
  have hu0 : v 0 6 = nu ∧ nu ≤ 20 := ⟨hc6, hnn.1⟩
  have hT2 := hS.2.2.2.2.2.2.2.1.2.1
  refine G_aload_n dX5_end_0 rfl ?_
  refine G_getR (jj := 0) dX5_end_1 flX5_10 rfl rfl rfl ?_
  refine G_iload_n dX5_end_4 rfl ?_
  refine G_cVi (ci := 3) dX5_end_5 rfl (by decide) rfl (c_X3_cut l (d + 0) nu v n) mcX5_59 rfl rfl (by show _ ≤ d + 1; omega) rfl rfl (Nat.le_refl _) (Nat.le_refl _) ?_
  rw [hT2]
  exact G_zret dX5_end_8 rfl (by split <;> omega) rfl rfl ⟨rfl, rfl, by split; exact Simx_cut hS (by omega); exact hS, fun k k1 k2 => by split; exact up_ne (by omega); rfl⟩
