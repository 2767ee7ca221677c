set_option maxRecDepth 20000 in
set_option maxHeartbeats 1000000 in
theorem c_X6_may (l : Launch) (d nu : Nat) (v : VV) (w : VV) (hw : up v 27 0 0 = w) (hB : MB nu w) (u s : Int) : Ct l yX6_may cX6_may (some .boolean) 3 (d + 3) 0 0 [ar (some 27), ai u, ai s] (SG nu) v (rI (SG nu) (bP ((0 ≤ u ∧ u < nu) ∧ (0 ≤ s ∧ s < 2 * w 27 34) ∧ mayP w u s)) w) := by
  refine Ct_of_G [some (ar (some 27)), some (ai u), some (ai s)] (by decide) rfl rfl ?_
  have hn := hB.1
  have hgm := hB.2.1
  have hwk := hB.2.2.1
  refine G_aload_n dX6_may_0 rfl ?_
  refine G_iconst (n := 0) dX6_may_1 ⟨by decide, by decide⟩ ?_
  refine G_putI (jj := 0) dX6_may_2 flX6_101 rfl rfl rfl rfl ?_
  rw [hw]
  refine G_aload_n dX6_may_5 rfl ?_
  refine G_iload_n dX6_may_6 rfl ?_
  refine G_cVi (ci := 6) dX6_may_7 rfl (by decide) rfl (c_X6_isUmpire l (d + 2) nu w u) mcX6_191 rfl rfl (by show _ ≤ d + 3; omega) rfl rfl (Nat.le_refl _) (Nat.le_refl _) ?_
  refine G_if_eq 34 dX6_may_10 (by decide) (fun h10 => ?_) (fun h10 => ?_)
  · refine G_iconst (n := 0) dX6_may_34 ⟨by decide, by decide⟩ ?_
    exact G_zret dX6_may_35 rfl (by omega) rfl rfl ⟨congrArg (fun x => some (ai x)) (by first | exact (bP_t ⟨hu, hs, bP_1.mp (by rcases bP_01 (mayP w u s) with q | q; exact absurd q h27; exact q)⟩).symm | exact (bP_f (fun h => bP_0.mp h27 h.2.2)).symm | exact (bP_f (fun h => by omega)).symm), rfl, rfl⟩
  · have hu : 0 ≤ u ∧ u < nu := by omega
    refine G_aload_n dX6_may_13 rfl ?_
    refine G_iload_n dX6_may_14 rfl ?_
    refine G_cVi (ci := 6) dX6_may_15 rfl (by decide) rfl (c_X6_isSeat l (d + 2) nu w s hgm) mcX6_207 rfl rfl (by show _ ≤ d + 3; omega) rfl rfl (Nat.le_refl _) (Nat.le_refl _) ?_
    refine G_if_eq 34 dX6_may_18 (by decide) (fun h18 => ?_) (fun h18 => ?_)
    · refine G_iconst (n := 0) dX6_may_34 ⟨by decide, by decide⟩ ?_
      exact G_zret dX6_may_35 rfl (by omega) rfl rfl ⟨congrArg (fun x => some (ai x)) (by first | exact (bP_t ⟨hu, hs, bP_1.mp (by rcases bP_01 (mayP w u s) with q | q; exact absurd q h27; exact q)⟩).symm | exact (bP_f (fun h => bP_0.mp h27 h.2.2)).symm | exact (bP_f (fun h => by omega)).symm), rfl, rfl⟩
    · have hs : 0 ≤ s ∧ s < 2 * w 27 34 := by omega
      refine G_aload_n dX6_may_21 rfl ?_
      refine G_iload_n dX6_may_22 rfl ?_
      refine G_iload_n dX6_may_23 rfl ?_
      refine G_cVi (ci := 6) dX6_may_24 rfl (by decide) rfl (c_X6_mayHave l (d + 0) nu w hB u s hu hs) mcX6_210 rfl rfl (by show _ ≤ d + 3; omega) rfl rfl (Nat.le_refl _) (Nat.le_refl _) ?_
      refine G_if_eq 34 dX6_may_27 (by decide) (fun h27 => ?_) (fun h27 => ?_)
      · refine G_iconst (n := 0) dX6_may_34 ⟨by decide, by decide⟩ ?_
        exact G_zret dX6_may_35 rfl (by omega) rfl rfl ⟨congrArg (fun x => some (ai x)) (by first | exact (bP_t ⟨hu, hs, bP_1.mp (by rcases bP_01 (mayP w u s) with q | q; exact absurd q h27; exact q)⟩).symm | exact (bP_f (fun h => bP_0.mp h27 h.2.2)).symm | exact (bP_f (fun h => by omega)).symm), rfl, rfl⟩
      · refine G_iconst (n := 1) dX6_may_30 ⟨by decide, by decide⟩ ?_
        refine G_goto 35 dX6_may_31 (by decide) ?_
        exact G_zret dX6_may_35 rfl (by omega) rfl rfl ⟨congrArg (fun x => some (ai x)) (by first | exact (bP_t ⟨hu, hs, bP_1.mp (by rcases bP_01 (mayP w u s) with q | q; exact absurd q h27; exact q)⟩).symm | exact (bP_f (fun h => bP_0.mp h27 h.2.2)).symm | exact (bP_f (fun h => by omega)).symm), rfl, rfl⟩
set_option maxRecDepth 20000 in
set_option maxHeartbeats 1000000 in
theorem c_X6_cost (l : Launch) (d nu : Nat) (v : VV) (w : VV) (hw : up v 27 0 0 = w) (hB : MB nu w) (u s : Int) : Ct l yX6_cost cX6_cost (some .int) 3 (d + 3) 0 0 [ar (some 27), ai u, ai s] (SG nu) v (rI (SG nu) (if (0 ≤ u ∧ u < nu) ∧ (0 ≤ s ∧ s < 2 * w 27 34) then costS w u s else -1) w) := by
  refine Ct_of_G [some (ar (some 27)), some (ai u), some (ai s)] (by decide) rfl rfl ?_
  have hn := hB.1
  have hgm := hB.2.1
  have hwk := hB.2.2.1
  refine G_aload_n dX6_cost_0 rfl ?_
  refine G_iconst (n := 0) dX6_cost_1 ⟨by decide, by decide⟩ ?_
  refine G_putI (jj := 0) dX6_cost_2 flX6_101 rfl rfl rfl rfl ?_
  rw [hw]
  refine G_aload_n dX6_cost_5 rfl ?_
  refine G_iload_n dX6_cost_6 rfl ?_
  refine G_cVi (ci := 6) dX6_cost_7 rfl (by decide) rfl (c_X6_isUmpire l (d + 2) nu w u) mcX6_191 rfl rfl (by show _ ≤ d + 3; omega) rfl rfl (Nat.le_refl _) (Nat.le_refl _) ?_
  refine G_if_eq 30 dX6_cost_10 (by decide) (fun h10 => ?_) (fun h10 => ?_)
  · refine G_iconst (n := (-1)) dX6_cost_30 ⟨by decide, by decide⟩ ?_
    exact G_iret dX6_cost_31 rfl rfl rfl ⟨by first | (rw [if_pos (by omega)]) | (rw [if_neg (by omega)]), rfl, rfl⟩
  · have hu : 0 ≤ u ∧ u < nu := by omega
    refine G_aload_n dX6_cost_13 rfl ?_
    refine G_iload_n dX6_cost_14 rfl ?_
    refine G_cVi (ci := 6) dX6_cost_15 rfl (by decide) rfl (c_X6_isSeat l (d + 2) nu w s hgm) mcX6_207 rfl rfl (by show _ ≤ d + 3; omega) rfl rfl (Nat.le_refl _) (Nat.le_refl _) ?_
    refine G_if_eq 30 dX6_cost_18 (by decide) (fun h18 => ?_) (fun h18 => ?_)
    · refine G_iconst (n := (-1)) dX6_cost_30 ⟨by decide, by decide⟩ ?_
      exact G_iret dX6_cost_31 rfl rfl rfl ⟨by first | (rw [if_pos (by omega)]) | (rw [if_neg (by omega)]), rfl, rfl⟩
    · have hs : 0 ≤ s ∧ s < 2 * w 27 34 := by omega
      refine G_aload_n dX6_cost_21 rfl ?_
      refine G_iload_n dX6_cost_22 rfl ?_
      refine G_iload_n dX6_cost_23 rfl ?_
      refine G_cVi (ci := 6) dX6_cost_24 rfl (by decide) rfl (c_X6_costOf l (d + 0) nu w hB u s hu hs) mcX6_214 rfl rfl (by show _ ≤ d + 3; omega) rfl rfl (Nat.le_refl _) (Nat.le_refl _) ?_
      refine G_goto 31 dX6_cost_27 (by decide) ?_
      exact G_iret dX6_cost_31 rfl rfl rfl ⟨by first | (rw [if_pos (by omega)]) | (rw [if_neg (by omega)]), rfl, rfl⟩
set_option maxRecDepth 20000 in
set_option maxHeartbeats 1000000 in
theorem c_X6_seat (l : Launch) (d nu : Nat) (v : VV) (w : VV) (hw : up v 27 0 0 = w) (hB : MB nu w) (s : Int) : Ct l yX6_seat cX6_seat (some .int) 2 (d + 1) 0 0 [ar (some 27), ai s] (SG nu) v (rI (SG nu) (if 0 ≤ s ∧ s < 2 * w 27 34 then w 48 s else -1) w) := by
  refine Ct_of_G [some (ar (some 27)), some (ai s)] (by decide) rfl rfl ?_
  have hn := hB.1
  have hgm := hB.2.1
  have hwk := hB.2.2.1
  refine G_aload_n dX6_seat_0 rfl ?_
  refine G_iconst (n := 0) dX6_seat_1 ⟨by decide, by decide⟩ ?_
  refine G_putI (jj := 0) dX6_seat_2 flX6_101 rfl rfl rfl rfl ?_
  rw [hw]
  refine G_aload_n dX6_seat_5 rfl ?_
  refine G_iload_n dX6_seat_6 rfl ?_
  refine G_cVi (ci := 6) dX6_seat_7 rfl (by decide) rfl (c_X6_isSeat l (d + 0) nu w s hgm) mcX6_207 rfl rfl (by show _ ≤ d + 1; omega) rfl rfl (Nat.le_refl _) (Nat.le_refl _) ?_
  refine G_if_eq 22 dX6_seat_10 (by decide) (fun h10 => ?_) (fun h10 => ?_)
  · refine G_iconst (n := (-1)) dX6_seat_22 ⟨by decide, by decide⟩ ?_
    exact G_iret dX6_seat_23 rfl rfl rfl ⟨by first | (rw [if_pos (by omega)]) | (rw [if_neg (by omega)]), rfl, rfl⟩
  · refine G_aload_n dX6_seat_13 rfl ?_
    refine G_getR (jj := 31) dX6_seat_14 flX6_71 rfl rfl rfl ?_
    refine G_iload_n dX6_seat_17 rfl ?_
    refine G_iald dX6_seat_18 rfl (by omega) (by omega) ?_
    refine G_goto 23 dX6_seat_19 (by decide) ?_
    exact G_iret dX6_seat_23 rfl rfl rfl ⟨by first | (rw [if_pos (by omega)]) | (rw [if_neg (by omega)]), rfl, rfl⟩
set_option maxRecDepth 20000 in
set_option maxHeartbeats 1000000 in
theorem c_X6_rule (l : Launch) (d nu : Nat) (v : VV) (w : VV) (hw : up v 27 0 0 = w) (k : Int) : Ct l yX6_rule cX6_rule (some .int) 2 (d + 0) 0 0 [ar (some 27), ai k] (SG nu) v (rI (SG nu) (if 0 ≤ k ∧ k < 9 then w 29 k else -1) w) := by
  refine Ct_of_G [some (ar (some 27)), some (ai k)] (by decide) rfl rfl ?_
  refine G_aload_n dX6_rule_0 rfl ?_
  refine G_iconst (n := 0) dX6_rule_1 ⟨by decide, by decide⟩ ?_
  refine G_putI (jj := 0) dX6_rule_2 flX6_101 rfl rfl rfl rfl ?_
  rw [hw]
  refine G_iload_n dX6_rule_5 rfl ?_
  refine G_if_lt 15 dX6_rule_6 (by decide) (fun h6 => ?_) (fun h6 => ?_)
  · refine G_iconst (n := (-1)) dX6_rule_15 ⟨by decide, by decide⟩ ?_
    refine G_goto 25 dX6_rule_16 (by decide) ?_
    exact G_iret dX6_rule_25 rfl rfl rfl ⟨by first | (rw [if_pos (by omega)]) | (rw [if_neg (by omega)]), rfl, rfl⟩
  · refine G_iload_n dX6_rule_9 rfl ?_
    refine G_bipush (n := 9) dX6_rule_10 (by decide) ⟨by decide, by decide⟩ ?_
    refine G_icmp_lt 19 dX6_rule_12 (by decide) (fun h12 => ?_) (fun h12 => ?_)
    · refine G_aload_n dX6_rule_19 rfl ?_
      refine G_getR (jj := 3) dX6_rule_20 flX6_13 rfl rfl rfl ?_
      refine G_iload_n dX6_rule_23 rfl ?_
      refine G_iald dX6_rule_24 rfl (by omega) (by omega) ?_
      exact G_iret dX6_rule_25 rfl rfl rfl ⟨by first | (rw [if_pos (by omega)]) | (rw [if_neg (by omega)]), rfl, rfl⟩
    · refine G_iconst (n := (-1)) dX6_rule_15 ⟨by decide, by decide⟩ ?_
      refine G_goto 25 dX6_rule_16 (by decide) ?_
      exact G_iret dX6_rule_25 rfl rfl rfl ⟨by first | (rw [if_pos (by omega)]) | (rw [if_neg (by omega)]), rfl, rfl⟩
set_option maxRecDepth 20000 in
set_option maxHeartbeats 1000000 in
theorem c_X6_stood (l : Launch) (d nu : Nat) (v : VV) (w : VV) (hw : up v 27 0 0 = w) (hB : MB nu w) (u x : Int) : Ct l yX6_stood cX6_stood (some .int) 3 (d + 1) 0 0 [ar (some 27), ai u, ai x] (SG nu) v (rI (SG nu) (if (0 ≤ u ∧ u < nu) ∧ (0 ≤ x ∧ x < w 27 35) then w 42 (100 * u + x) else -1) w) := by
  refine Ct_of_G [some (ar (some 27)), some (ai u), some (ai x)] (by decide) rfl rfl ?_
  have hn := hB.1
  have hgm := hB.2.1
  have hwk := hB.2.2.1
  refine G_aload_n dX6_stood_0 rfl ?_
  refine G_iconst (n := 0) dX6_stood_1 ⟨by decide, by decide⟩ ?_
  refine G_putI (jj := 0) dX6_stood_2 flX6_101 rfl rfl rfl rfl ?_
  rw [hw]
  refine G_aload_n dX6_stood_5 rfl ?_
  refine G_iload_n dX6_stood_6 rfl ?_
  refine G_cVi (ci := 6) dX6_stood_7 rfl (by decide) rfl (c_X6_isUmpire l (d + 0) nu w u) mcX6_191 rfl rfl (by show _ ≤ d + 1; omega) rfl rfl (Nat.le_refl _) (Nat.le_refl _) ?_
  refine G_if_eq 41 dX6_stood_10 (by decide) (fun h10 => ?_) (fun h10 => ?_)
  · refine G_iconst (n := (-1)) dX6_stood_41 ⟨by decide, by decide⟩ ?_
    exact G_iret dX6_stood_42 rfl rfl rfl ⟨by first | (rw [if_pos (by omega)]) | (rw [if_neg (by omega)]), rfl, rfl⟩
  · have hu : 0 ≤ u ∧ u < nu := by omega
    refine G_iload_n dX6_stood_13 rfl ?_
    refine G_iconst (n := 0) dX6_stood_14 ⟨by decide, by decide⟩ ?_
    refine G_aload_n dX6_stood_15 rfl ?_
    refine G_getI (jj := 35) dX6_stood_16 flX6_194 rfl rfl rfl ?_
    refine G_iconst (n := 1) dX6_stood_19 ⟨by decide, by decide⟩ ?_
    refine G_isub dX6_stood_20 (iRm (by omega) (by omega)) ?_
    refine G_cSi dX6_stood_21 (c_X6_isIn l (d + 0) nu w x 0 (w 27 35 - 1)) mcX6_187 rfl rfl (by show _ ≤ d + 1; omega) rfl rfl (Nat.le_refl _) (Nat.le_refl _) ?_
    refine G_if_eq 41 dX6_stood_24 (by decide) (fun h24 => ?_) (fun h24 => ?_)
    · refine G_iconst (n := (-1)) dX6_stood_41 ⟨by decide, by decide⟩ ?_
      exact G_iret dX6_stood_42 rfl rfl rfl ⟨by first | (rw [if_pos (by omega)]) | (rw [if_neg (by omega)]), rfl, rfl⟩
    · refine G_aload_n dX6_stood_27 rfl ?_
      refine G_getR (jj := 25) dX6_stood_28 flX6_52 rfl rfl rfl ?_
      refine G_bipush (n := 100) dX6_stood_31 (by decide) ⟨by decide, by decide⟩ ?_
      refine G_iload_n dX6_stood_33 rfl ?_
      refine G_imul dX6_stood_34 (iRm (by omega) (by omega)) ?_
      refine G_iload_n dX6_stood_35 rfl ?_
      refine G_iadd dX6_stood_36 (iRm (by omega) (by omega)) ?_
      refine G_iald dX6_stood_37 rfl (by omega) (by omega) ?_
      refine G_goto 42 dX6_stood_38 (by decide) ?_
      exact G_iret dX6_stood_42 rfl rfl rfl ⟨by first | (rw [if_pos (by omega)]) | (rw [if_neg (by omega)]), rfl, rfl⟩
def countS (v : VV) (x : Int) : Int := if x = 0 then v 27 35 else if x = 1 then v 27 33 else if x = 2 then v 27 34 else if x = 3 then filledS v else if x = 4 then v 27 36 else if x = 5 then v 27 2 else -1
set_option maxRecDepth 20000 in
set_option maxHeartbeats 1000000 in
theorem c_X6_count (l : Launch) (d nu : Nat) (v : VV) (w : VV) (hw : up v 27 0 0 = w) (hB : MB nu w) (x : Int) : Ct l yX6_count cX6_count (some .int) 2 (d + 1) 0 0 [ar (some 27), ai x] (SG nu) v (rI (SG nu) (countS w x) w) := by
  refine Ct_of_G [some (ar (some 27)), some (ai x)] (by decide) rfl rfl ?_
  have hn := hB.1
  have hgm := hB.2.1
  have hwk := hB.2.2.1
  refine G_aload_n dX6_count_0 rfl ?_
  refine G_iconst (n := 0) dX6_count_1 ⟨by decide, by decide⟩ ?_
  refine G_putI (jj := 0) dX6_count_2 flX6_101 rfl rfl rfl rfl ?_
  rw [hw]
  refine G_iload_n dX6_count_5 rfl ?_
  rcases (show (x < 0 ∨ 5 < x) ∨ x = 0 ∨ x = 1 ∨ x = 2 ∨ x = 3 ∨ x = 4 ∨ x = 5 by omega) with hsw | rfl | rfl | rfl | rfl | rfl | rfl
  · refine G_tableOut 74 dX6_count_6 hsw (by decide) ?_
    refine G_iconst (n := (-1)) dX6_count_74 ⟨by decide, by decide⟩ ?_
    exact G_iret dX6_count_75 rfl rfl rfl ⟨by unfold countS; rw [if_neg (by omega), if_neg (by omega), if_neg (by omega), if_neg (by omega), if_neg (by omega), if_neg (by omega)], rfl, rfl⟩
  · refine G_tableIn 44 dX6_count_6 (by omega) (by omega) rfl (by decide) ?_
    refine G_aload_n dX6_count_44 rfl ?_
    refine G_getI (jj := 35) dX6_count_45 flX6_194 rfl rfl rfl ?_
    exact G_iret dX6_count_48 rfl rfl rfl ⟨by simp [countS], rfl, rfl⟩
  · refine G_tableIn 49 dX6_count_6 (by omega) (by omega) rfl (by decide) ?_
    refine G_aload_n dX6_count_49 rfl ?_
    refine G_getI (jj := 33) dX6_count_50 flX6_181 rfl rfl rfl ?_
    exact G_iret dX6_count_53 rfl rfl rfl ⟨by simp [countS], rfl, rfl⟩
  · refine G_tableIn 54 dX6_count_6 (by omega) (by omega) rfl (by decide) ?_
    refine G_aload_n dX6_count_54 rfl ?_
    refine G_getI (jj := 34) dX6_count_55 flX6_184 rfl rfl rfl ?_
    exact G_iret dX6_count_58 rfl rfl rfl ⟨by simp [countS], rfl, rfl⟩
  · refine G_tableIn 59 dX6_count_6 (by omega) (by omega) rfl (by decide) ?_
    refine G_aload_n dX6_count_59 rfl ?_
    refine G_cVi (ci := 6) dX6_count_60 rfl (by decide) rfl (c_X6_filled l (d + 0) nu w hgm) mcX6_256 rfl rfl (by show _ ≤ d + 1; omega) rfl rfl (Nat.le_refl _) (Nat.le_refl _) ?_
    exact G_iret dX6_count_63 rfl rfl rfl ⟨by simp [countS], rfl, rfl⟩
  · refine G_tableIn 64 dX6_count_6 (by omega) (by omega) rfl (by decide) ?_
    refine G_aload_n dX6_count_64 rfl ?_
    refine G_getI (jj := 36) dX6_count_65 flX6_250 rfl rfl rfl ?_
    exact G_iret dX6_count_68 rfl rfl rfl ⟨by simp [countS], rfl, rfl⟩
  · refine G_tableIn 69 dX6_count_6 (by omega) (by omega) rfl (by decide) ?_
    refine G_aload_n dX6_count_69 rfl ?_
    refine G_getI (jj := 2) dX6_count_70 flX6_105 rfl rfl rfl ?_
    exact G_iret dX6_count_73 rfl rfl rfl ⟨by simp [countS], rfl, rfl⟩
def togS (v : VV) : Int := sumF (fun s => if v 48 s = -1 then 0 else costS v (v 48 s) s) (2 * v 27 34).toNat 0
set_option maxRecDepth 20000 in
set_option maxHeartbeats 1000000 in
theorem c_X6_together (l : Launch) (d nu : Nat) (v : VV) (w : VV) (hw : up v 27 0 0 = w) (hB : MB nu w) : Ct l yX6_together cX6_together (some .int) 3 (d + 4) 0 0 [ar (some 27)] (SG nu) v (rI (SG nu) (togS w) w) := by
  refine Ct_of_G [some (ar (some 27)), none, none] (by decide) rfl rfl ?_
  have hn := hB.1
  have hgm := hB.2.1
  have hwk := hB.2.2.1
  have loop : ∀ (n : Nat) (a s : Int), 0 ≤ s → s + n = 2 * w 27 34 → 0 ≤ a → a ≤ s * 5148 → G l (yX6_together, cX6_together, (some .int), 3, (d + 4), 0, 0, none) (rI (SG nu) (a + sumF (fun s => if w 48 s = -1 then 0 else costS w (w 48 s) s) n s) w) 0 0 (SG nu) 9 [some (ar (some 27)), some (ai a), some (ai s)] [] w := by
    intro n
    induction n using Nat.strongRecOn with
    | ind n ih =>
    intro a s h0 h1 h2 h3
    refine G_iload_n dX6_together_9 rfl ?_
    refine G_iconst (n := 2) dX6_together_10 ⟨by decide, by decide⟩ ?_
    refine G_aload_n dX6_together_11 rfl ?_
    refine G_getI (jj := 34) dX6_together_12 flX6_184 rfl rfl rfl ?_
    refine G_imul dX6_together_15 (iRm (by omega) (by omega)) ?_
    refine G_icmp_ge 49 dX6_together_16 (by decide) (fun h16 => ?_) (fun h16 => ?_)
    · obtain rfl : n = 0 := by omega
      refine G_iload_n dX6_together_49 rfl ?_
      exact G_iret dX6_together_50 rfl rfl rfl ⟨by rw [sumF, Int.add_zero], rfl, rfl⟩
    · obtain ⟨n, rfl⟩ : ∃ k, n = k + 1 := ⟨n - 1, by omega⟩
      have hws := hB.2.2.2.2.2.2 s (by omega) (by omega)
      refine G_aload_n dX6_together_19 rfl ?_
      refine G_getR (jj := 31) dX6_together_20 flX6_71 rfl rfl rfl ?_
      refine G_iload_n dX6_together_23 rfl ?_
      refine G_iald dX6_together_24 rfl (by omega) (by omega) ?_
      refine G_iconst (n := (-1)) dX6_together_25 ⟨by decide, by decide⟩ ?_
      refine G_icmp_eq 43 dX6_together_26 (by decide) (fun h26 => ?_) (fun h26 => ?_)
      · refine G_iinc dX6_together_43 rfl (iRm (by omega) (by omega)) rfl rfl ?_
        refine G_goto 9 dX6_together_46 (by decide) ?_
        exact GI_eq (by simp [sumF, h26]; try omega) (ih n (by omega) _ (s + 1) (by omega) (by omega) (by omega) (by omega))
      · have hu : 0 ≤ w 48 s ∧ w 48 s < nu := by omega
        have hcs := hB.cost hu (s := s) (by omega)
        refine G_iload_n dX6_together_29 rfl ?_
        refine G_aload_n dX6_together_30 rfl ?_
        refine G_aload_n dX6_together_31 rfl ?_
        refine G_getR (jj := 31) dX6_together_32 flX6_71 rfl rfl rfl ?_
        refine G_iload_n dX6_together_35 rfl ?_
        refine G_iald dX6_together_36 rfl (by omega) (by omega) ?_
        refine G_iload_n dX6_together_37 rfl ?_
        refine G_cVi (ci := 6) dX6_together_38 rfl (by decide) rfl (c_X6_costOf l (d + 1) nu w hB (w 48 s) s hu (by omega)) mcX6_214 rfl rfl (by show _ ≤ d + 4; omega) rfl rfl (Nat.le_refl _) (Nat.le_refl _) ?_
        refine G_iadd dX6_together_41 (iRm (by omega) (by omega)) ?_
        refine G_istore_n dX6_together_42 rfl rfl ?_
        refine G_iinc dX6_together_43 rfl (iRm (by omega) (by omega)) rfl rfl ?_
        refine G_goto 9 dX6_together_46 (by decide) ?_
        exact GI_eq (by simp [sumF, h26]; try omega) (ih n (by omega) _ (s + 1) (by omega) (by omega) (by omega) (by omega))
  refine G_aload_n dX6_together_0 rfl ?_
  refine G_iconst (n := 0) dX6_together_1 ⟨by decide, by decide⟩ ?_
  refine G_putI (jj := 0) dX6_together_2 flX6_101 rfl rfl rfl rfl ?_
  rw [hw]
  refine G_iconst (n := 0) dX6_together_5 ⟨by decide, by decide⟩ ?_
  refine G_istore_n dX6_together_6 rfl rfl ?_
  refine G_iconst (n := 0) dX6_together_7 ⟨by decide, by decide⟩ ?_
  refine G_istore_n dX6_together_8 rfl rfl ?_
  have e := loop (2 * w 27 34).toNat 0 0 (by omega) (by omega) (by omega) (by omega)
  rw [Int.zero_add] at e
  exact e
def aboutS (v : VV) (u x : Int) : Int := if x = 0 then v 36 u else if x = 1 then seatOfS v u else if x = 2 then v 41 u else if x = 3 then v 38 u else if x = 4 then v 39 u else v 40 u
set_option maxRecDepth 20000 in
set_option maxHeartbeats 1000000 in
theorem c_X6_about (l : Launch) (d nu : Nat) (v : VV) (w : VV) (hw : up v 27 0 0 = w) (hB : MB nu w) (u x : Int) : Ct l yX6_about cX6_about (some .int) 3 (d + 1) 0 0 [ar (some 27), ai u, ai x] (SG nu) v (fun r S2 v2 => S2 = SG nu ∧ ((((0 ≤ u ∧ u < nu) ∧ (0 ≤ x ∧ x ≤ 5)) ∧ r = some (ai (aboutS w u x)) ∧ v2 = w) ∨ (¬ ((0 ≤ u ∧ u < nu) ∧ (0 ≤ x ∧ x ≤ 5)) ∧ r = some (ai 0) ∧ v2 = up v 27 0 1))) := by
  refine Ct_of_G [some (ar (some 27)), some (ai u), some (ai x)] (by decide) rfl rfl ?_
  have hn := hB.1
  have hgm := hB.2.1
  have hwk := hB.2.2.1
  have hn2 : v 27 33 = nu := by have := hB.1.2; rw [← hw] at this; exact this
  refine G_aload_n dX6_about_0 rfl ?_
  refine G_iload_n dX6_about_1 rfl ?_
  refine G_cVi (ci := 6) dX6_about_2 rfl (by decide) rfl (c_X6_isUmpire l (d + 0) nu v u) mcX6_191 rfl rfl (by show _ ≤ d + 1; omega) rfl rfl (Nat.le_refl _) (Nat.le_refl _) ?_
  refine G_if_eq 17 dX6_about_5 (by decide) (fun h5 => ?_) (fun h5 => ?_)
  · refine G_aload_n dX6_about_17 rfl ?_
    refine G_cVi (ci := 6) dX6_about_18 rfl (by decide) rfl (c_X6_refuse l (d + 0) nu v) mcX6_262 rfl rfl (by show _ ≤ d + 1; omega) rfl rfl (Nat.le_refl _) (Nat.le_refl _) ?_
    exact G_iret dX6_about_21 rfl rfl rfl ⟨rfl, Or.inr ⟨by omega, rfl, rfl⟩⟩
  · refine G_iload_n dX6_about_8 rfl ?_
    refine G_if_lt 17 dX6_about_9 (by decide) (fun h9 => ?_) (fun h9 => ?_)
    · refine G_aload_n dX6_about_17 rfl ?_
      refine G_cVi (ci := 6) dX6_about_18 rfl (by decide) rfl (c_X6_refuse l (d + 0) nu v) mcX6_262 rfl rfl (by show _ ≤ d + 1; omega) rfl rfl (Nat.le_refl _) (Nat.le_refl _) ?_
      exact G_iret dX6_about_21 rfl rfl rfl ⟨rfl, Or.inr ⟨by omega, rfl, rfl⟩⟩
    · refine G_iload_n dX6_about_12 rfl ?_
      refine G_iconst (n := 5) dX6_about_13 ⟨by decide, by decide⟩ ?_
      refine G_icmp_le 22 dX6_about_14 (by decide) (fun h14 => ?_) (fun h14 => ?_)
      · refine G_aload_n dX6_about_22 rfl ?_
        refine G_iconst (n := 0) dX6_about_23 ⟨by decide, by decide⟩ ?_
        refine G_putI (jj := 0) dX6_about_24 flX6_101 rfl rfl rfl rfl ?_
        rw [hw]
        refine G_iload_n dX6_about_27 rfl ?_
        rcases (show (x < 0 ∨ 4 < x) ∨ x = 0 ∨ x = 1 ∨ x = 2 ∨ x = 3 ∨ x = 4 by omega) with hsw | hsw | hsw | hsw | hsw | hsw
        · refine G_tableOut 98 dX6_about_28 hsw (by decide) ?_
          refine G_aload_n dX6_about_98 rfl ?_
          refine G_getR (jj := 23) dX6_about_99 flX6_46 rfl rfl rfl ?_
          refine G_iload_n dX6_about_102 rfl ?_
          refine G_iald dX6_about_103 rfl (by omega) (by omega) ?_
          exact G_iret dX6_about_104 rfl rfl rfl ⟨rfl, Or.inl ⟨by omega, by unfold aboutS; rw [if_neg (by omega), if_neg (by omega), if_neg (by omega), if_neg (by omega), if_neg (by omega)], rfl⟩⟩
        · refine G_tableIn 64 dX6_about_28 (by omega) (by omega) (by rw [hsw]; rfl) (by decide) ?_
          refine G_aload_n dX6_about_64 rfl ?_
          refine G_getR (jj := 19) dX6_about_65 flX6_34 rfl rfl rfl ?_
          refine G_iload_n dX6_about_68 rfl ?_
          refine G_iald dX6_about_69 rfl (by omega) (by omega) ?_
          exact G_iret dX6_about_70 rfl rfl rfl ⟨rfl, Or.inl ⟨by omega, by simp [aboutS, hsw], rfl⟩⟩
        · refine G_tableIn 71 dX6_about_28 (by omega) (by omega) (by rw [hsw]; rfl) (by decide) ?_
          refine G_aload_n dX6_about_71 rfl ?_
          refine G_iload_n dX6_about_72 rfl ?_
          refine G_cVi (ci := 6) dX6_about_73 rfl (by decide) rfl (c_X6_seatOf l (d + 0) nu w u hgm) mcX6_197 rfl rfl (by show _ ≤ d + 1; omega) rfl rfl (Nat.le_refl _) (Nat.le_refl _) ?_
          exact G_iret dX6_about_76 rfl rfl rfl ⟨rfl, Or.inl ⟨by omega, by simp [aboutS, hsw], rfl⟩⟩
        · refine G_tableIn 77 dX6_about_28 (by omega) (by omega) (by rw [hsw]; rfl) (by decide) ?_
          refine G_aload_n dX6_about_77 rfl ?_
          refine G_getR (jj := 24) dX6_about_78 flX6_49 rfl rfl rfl ?_
          refine G_iload_n dX6_about_81 rfl ?_
          refine G_iald dX6_about_82 rfl (by omega) (by omega) ?_
          exact G_iret dX6_about_83 rfl rfl rfl ⟨rfl, Or.inl ⟨by omega, by simp [aboutS, hsw], rfl⟩⟩
        · refine G_tableIn 84 dX6_about_28 (by omega) (by omega) (by rw [hsw]; rfl) (by decide) ?_
          refine G_aload_n dX6_about_84 rfl ?_
          refine G_getR (jj := 21) dX6_about_85 flX6_40 rfl rfl rfl ?_
          refine G_iload_n dX6_about_88 rfl ?_
          refine G_iald dX6_about_89 rfl (by omega) (by omega) ?_
          exact G_iret dX6_about_90 rfl rfl rfl ⟨rfl, Or.inl ⟨by omega, by simp [aboutS, hsw], rfl⟩⟩
        · refine G_tableIn 91 dX6_about_28 (by omega) (by omega) (by rw [hsw]; rfl) (by decide) ?_
          refine G_aload_n dX6_about_91 rfl ?_
          refine G_getR (jj := 22) dX6_about_92 flX6_43 rfl rfl rfl ?_
          refine G_iload_n dX6_about_95 rfl ?_
          refine G_iald dX6_about_96 rfl (by omega) (by omega) ?_
          exact G_iret dX6_about_97 rfl rfl rfl ⟨rfl, Or.inl ⟨by omega, by simp [aboutS, hsw], rfl⟩⟩
      · refine G_aload_n dX6_about_17 rfl ?_
        refine G_cVi (ci := 6) dX6_about_18 rfl (by decide) rfl (c_X6_refuse l (d + 0) nu v) mcX6_262 rfl rfl (by show _ ≤ d + 1; omega) rfl rfl (Nat.le_refl _) (Nat.le_refl _) ?_
        exact G_iret dX6_about_21 rfl rfl rfl ⟨rfl, Or.inr ⟨by omega, rfl, rfl⟩⟩
set_option maxRecDepth 20000 in
set_option maxHeartbeats 1000000 in
theorem c_X6_end (l : Launch) (d nu : Nat) (v : VV) (w : VV) (hw : up v 27 0 0 = w) (n : Int) : Ct l yX6_end cX6_end (some .boolean) 2 (d + 0) 0 0 [ar (some 27), ai n] (SG nu) v (rI (SG nu) (if 0 ≤ n ∧ n ≤ w 27 2 then 1 else 0) (if 0 ≤ n ∧ n ≤ w 27 2 then up w 27 2 n else w)) := by
  refine Ct_of_G [some (ar (some 27)), some (ai n)] (by decide) rfl rfl ?_
  refine G_aload_n dX6_end_0 rfl ?_
  refine G_iconst (n := 0) dX6_end_1 ⟨by decide, by decide⟩ ?_
  refine G_putI (jj := 0) dX6_end_2 flX6_101 rfl rfl rfl rfl ?_
  rw [hw]
  refine G_iload_n dX6_end_5 rfl ?_
  refine G_if_lt 17 dX6_end_6 (by decide) (fun h6 => ?_) (fun h6 => ?_)
  · refine G_iconst (n := 0) dX6_end_17 ⟨by decide, by decide⟩ ?_
    exact G_zret dX6_end_18 rfl (by omega) rfl rfl ⟨by rw [if_neg (by omega)], rfl, by rw [if_neg (by omega)]⟩
  · refine G_iload_n dX6_end_9 rfl ?_
    refine G_aload_n dX6_end_10 rfl ?_
    refine G_getI (jj := 2) dX6_end_11 flX6_105 rfl rfl rfl ?_
    refine G_icmp_le 19 dX6_end_14 (by decide) (fun h14 => ?_) (fun h14 => ?_)
    · refine G_aload_n dX6_end_19 rfl ?_
      refine G_iload_n dX6_end_20 rfl ?_
      refine G_putI (jj := 2) dX6_end_21 flX6_105 rfl rfl rfl rfl ?_
      refine G_iconst (n := 1) dX6_end_24 ⟨by decide, by decide⟩ ?_
      exact G_zret dX6_end_25 rfl (by omega) rfl rfl ⟨by rw [if_pos (by omega)], rfl, by rw [if_pos (by omega)]⟩
    · refine G_iconst (n := 0) dX6_end_17 ⟨by decide, by decide⟩ ?_
      exact G_zret dX6_end_18 rfl (by omega) rfl rfl ⟨by rw [if_neg (by omega)], rfl, by rw [if_neg (by omega)]⟩
def umpV (w : VV) (x y g b : Int) : VV := up (up (up (up (up w 34 (w 27 33) x) 35 (w 27 33) y) 36 (w 27 33) g) 37 (w 27 33) b) 27 33 (w 27 33 + 1)
set_option maxRecDepth 20000 in
set_option maxHeartbeats 1000000 in
theorem c_X6_umpire (l : Launch) (d nu : Nat) (v : VV) (w : VV) (hw : up v 27 0 0 = w) (hB : MB nu w) (x y g b : Int) : Ct l yX6_umpire cX6_umpire (some .int) 5 (d + 1) 0 0 [ar (some 27), ai x, ai y, ai g, ai b] (SG nu) v (rI (SG nu) (if w 27 33 ≠ 20 ∧ (0 ≤ x ∧ x ≤ 99) ∧ (0 ≤ y ∧ y ≤ 99) ∧ (1 ≤ g ∧ g ≤ 4) ∧ (0 ≤ b ∧ b ≤ 4095) then w 27 33 else -1) (if w 27 33 ≠ 20 ∧ (0 ≤ x ∧ x ≤ 99) ∧ (0 ≤ y ∧ y ≤ 99) ∧ (1 ≤ g ∧ g ≤ 4) ∧ (0 ≤ b ∧ b ≤ 4095) then umpV w x y g b else w)) := by
  refine Ct_of_G [some (ar (some 27)), some (ai x), some (ai y), some (ai g), some (ai b)] (by decide) rfl rfl ?_
  have hn := hB.1
  have hgm := hB.2.1
  have hwk := hB.2.2.1
  refine G_aload_n dX6_umpire_0 rfl ?_
  refine G_iconst (n := 0) dX6_umpire_1 ⟨by decide, by decide⟩ ?_
  refine G_putI (jj := 0) dX6_umpire_2 flX6_101 rfl rfl rfl rfl ?_
  rw [hw]
  refine G_aload_n dX6_umpire_5 rfl ?_
  refine G_getI (jj := 33) dX6_umpire_6 flX6_181 rfl rfl rfl ?_
  refine G_bipush (n := 20) dX6_umpire_9 (by decide) ⟨by decide, by decide⟩ ?_
  refine G_icmp_eq 55 dX6_umpire_11 (by decide) (fun h11 => ?_) (fun h11 => ?_)
  · refine G_iconst (n := (-1)) dX6_umpire_55 ⟨by decide, by decide⟩ ?_
    exact G_iret dX6_umpire_56 rfl rfl rfl ⟨by rw [if_neg (by omega)], rfl, by rw [if_neg (by omega)]⟩
  · refine G_iload_n dX6_umpire_14 rfl ?_
    refine G_iconst (n := 0) dX6_umpire_15 ⟨by decide, by decide⟩ ?_
    refine G_bipush (n := 99) dX6_umpire_16 (by decide) ⟨by decide, by decide⟩ ?_
    refine G_cSi dX6_umpire_18 (c_X6_isIn l (d + 0) nu w x 0 99) mcX6_187 rfl rfl (by show _ ≤ d + 1; omega) rfl rfl (Nat.le_refl _) (Nat.le_refl _) ?_
    refine G_if_eq 55 dX6_umpire_21 (by decide) (fun h21 => ?_) (fun h21 => ?_)
    · refine G_iconst (n := (-1)) dX6_umpire_55 ⟨by decide, by decide⟩ ?_
      exact G_iret dX6_umpire_56 rfl rfl rfl ⟨by rw [if_neg (by omega)], rfl, by rw [if_neg (by omega)]⟩
    · refine G_iload_n dX6_umpire_24 rfl ?_
      refine G_iconst (n := 0) dX6_umpire_25 ⟨by decide, by decide⟩ ?_
      refine G_bipush (n := 99) dX6_umpire_26 (by decide) ⟨by decide, by decide⟩ ?_
      refine G_cSi dX6_umpire_28 (c_X6_isIn l (d + 0) nu w y 0 99) mcX6_187 rfl rfl (by show _ ≤ d + 1; omega) rfl rfl (Nat.le_refl _) (Nat.le_refl _) ?_
      refine G_if_eq 55 dX6_umpire_31 (by decide) (fun h31 => ?_) (fun h31 => ?_)
      · refine G_iconst (n := (-1)) dX6_umpire_55 ⟨by decide, by decide⟩ ?_
        exact G_iret dX6_umpire_56 rfl rfl rfl ⟨by rw [if_neg (by omega)], rfl, by rw [if_neg (by omega)]⟩
      · refine G_iload_n dX6_umpire_34 rfl ?_
        refine G_iconst (n := 1) dX6_umpire_35 ⟨by decide, by decide⟩ ?_
        refine G_iconst (n := 4) dX6_umpire_36 ⟨by decide, by decide⟩ ?_
        refine G_cSi dX6_umpire_37 (c_X6_isIn l (d + 0) nu w g 1 4) mcX6_187 rfl rfl (by show _ ≤ d + 1; omega) rfl rfl (Nat.le_refl _) (Nat.le_refl _) ?_
        refine G_if_eq 55 dX6_umpire_40 (by decide) (fun h40 => ?_) (fun h40 => ?_)
        · refine G_iconst (n := (-1)) dX6_umpire_55 ⟨by decide, by decide⟩ ?_
          exact G_iret dX6_umpire_56 rfl rfl rfl ⟨by rw [if_neg (by omega)], rfl, by rw [if_neg (by omega)]⟩
        · refine G_iload dX6_umpire_43 rfl ?_
          refine G_iconst (n := 0) dX6_umpire_45 ⟨by decide, by decide⟩ ?_
          refine G_sipush (n := 4095) dX6_umpire_46 (by decide) ⟨by decide, by decide⟩ ?_
          refine G_cSi dX6_umpire_49 (c_X6_isIn l (d + 0) nu w b 0 4095) mcX6_187 rfl rfl (by show _ ≤ d + 1; omega) rfl rfl (Nat.le_refl _) (Nat.le_refl _) ?_
          refine G_if_ne 57 dX6_umpire_52 (by decide) (fun h52 => ?_) (fun h52 => ?_)
          · refine G_aload_n dX6_umpire_57 rfl ?_
            refine G_getR (jj := 17) dX6_umpire_58 flX6_28 rfl rfl rfl ?_
            refine G_aload_n dX6_umpire_61 rfl ?_
            refine G_getIv (w 27 33) (jj := 33) dX6_umpire_62 flX6_181 rfl rfl rfl rfl ?_
            refine G_iload_n dX6_umpire_65 rfl ?_
            refine G_iast dX6_umpire_66 rfl (by omega) (by omega) ?_
            refine G_aload_n dX6_umpire_67 rfl ?_
            refine G_getR (jj := 18) dX6_umpire_68 flX6_31 rfl rfl rfl ?_
            refine G_aload_n dX6_umpire_71 rfl ?_
            refine G_getIv (w 27 33) (jj := 33) dX6_umpire_72 flX6_181 rfl rfl rfl rfl ?_
            refine G_iload_n dX6_umpire_75 rfl ?_
            refine G_iast dX6_umpire_76 rfl (by omega) (by omega) ?_
            refine G_aload_n dX6_umpire_77 rfl ?_
            refine G_getR (jj := 19) dX6_umpire_78 flX6_34 rfl rfl rfl ?_
            refine G_aload_n dX6_umpire_81 rfl ?_
            refine G_getIv (w 27 33) (jj := 33) dX6_umpire_82 flX6_181 rfl rfl rfl rfl ?_
            refine G_iload_n dX6_umpire_85 rfl ?_
            refine G_iast dX6_umpire_86 rfl (by omega) (by omega) ?_
            refine G_aload_n dX6_umpire_87 rfl ?_
            refine G_getR (jj := 20) dX6_umpire_88 flX6_37 rfl rfl rfl ?_
            refine G_aload_n dX6_umpire_91 rfl ?_
            refine G_getIv (w 27 33) (jj := 33) dX6_umpire_92 flX6_181 rfl rfl rfl rfl ?_
            refine G_iload dX6_umpire_95 rfl ?_
            refine G_iast dX6_umpire_97 rfl (by omega) (by omega) ?_
            refine G_aload_n dX6_umpire_98 rfl ?_
            refine G_dup_a dX6_umpire_99 ?_
            refine G_getIv (w 27 33) (jj := 33) dX6_umpire_100 flX6_181 rfl rfl rfl rfl ?_
            refine G_iconst (n := 1) dX6_umpire_103 ⟨by decide, by decide⟩ ?_
            refine G_iadd dX6_umpire_104 (iRm (by omega) (by omega)) ?_
            refine G_putI (jj := 33) dX6_umpire_105 flX6_181 rfl rfl rfl rfl ?_
            refine G_aload_n dX6_umpire_108 rfl ?_
            refine G_getIv (w 27 33 + 1) (jj := 33) dX6_umpire_109 flX6_181 rfl rfl rfl rfl ?_
            refine G_iconst (n := 1) dX6_umpire_112 ⟨by decide, by decide⟩ ?_
            refine G_isub dX6_umpire_113 (iRm (by omega) (by omega)) ?_
            exact G_iret dX6_umpire_114 rfl rfl rfl ⟨by rw [if_pos (by omega)]; congr 2; omega, rfl, by rw [if_pos (by omega)]; rfl⟩
          · refine G_iconst (n := (-1)) dX6_umpire_55 ⟨by decide, by decide⟩ ?_
            exact G_iret dX6_umpire_56 rfl rfl rfl ⟨by rw [if_neg (by omega)], rfl, by rw [if_neg (by omega)]⟩
theorem fst_spec (p : Int → Bool) (n : Nat) : ∀ i, (fst p n i = -1 ∧ ∀ j, i ≤ j → j < i + n → p j = false) ∨ (i ≤ fst p n i ∧ fst p n i < i + n ∧ p (fst p n i) = true ∧ ∀ j, i ≤ j → j < fst p n i → p j = false) := by
  induction n with
  | zero => intro i; exact Or.inl ⟨rfl, fun j h1 h2 => by omega⟩
  | succ n ih =>
    intro i
    cases hp : p i with
    | true => rw [fst_yes hp]; exact Or.inr ⟨by omega, by omega, hp, fun j h1 h2 => by omega⟩
    | false =>
      rw [fst_no hp]
      rcases ih (i + 1) with ⟨h1, h2⟩ | ⟨h1, h2, h3, h4⟩
      · exact Or.inl ⟨h1, fun j j1 j2 => by by_cases e : j = i; rw [e]; exact hp; exact h2 j (by omega) (by omega)⟩
      · exact Or.inr ⟨by omega, by omega, h3, fun j j1 j2 => by by_cases e : j = i; rw [e]; exact hp; exact h4 j (by omega) (by omega)⟩
theorem seatOf_spec {v : VV} (u : Int) (hg : 0 ≤ v 27 34) : (seatOfS v u = -1 ∧ ∀ s, 0 ≤ s → s < 2 * v 27 34 → v 48 s ≠ u) ∨ (0 ≤ seatOfS v u ∧ seatOfS v u < 2 * v 27 34 ∧ v 48 (seatOfS v u) = u ∧ ∀ s, 0 ≤ s → s < seatOfS v u → v 48 s ≠ u) := by
  rcases fst_spec (fun s => decide (v 48 s = u)) (2 * v 27 34).toNat 0 with ⟨h1, h2⟩ | ⟨h1, h2, h3, h4⟩
  · exact Or.inl ⟨h1, fun s s1 s2 => by simpa using h2 s s1 (by omega)⟩
  · exact Or.inr ⟨h1, by unfold seatOfS; omega, of_decide_eq_true h3, fun s s1 s2 => by simpa using h4 s s1 s2⟩
/-- who has no SEAT and MAY have s -/
def candP (v : VV) (u s : Int) : Prop := seatOfS v u = -1 ∧ mayP v u s
/-- of the UMPIRES below n: the cheapest of these -/
def spU (v : VV) (s n b : Int) : Prop := (b = -1 ∧ ∀ u, 0 ≤ u → u < n → ¬ candP v u s) ∨ (0 ≤ b ∧ b < n ∧ candP v b s ∧ ∀ u, 0 ≤ u → u < n → candP v u s → costS v b s ≤ costS v u s ∧ (costS v u s = costS v b s → b ≤ u))
theorem spU_no {v : VV} {s n b : Int} (h : spU v s n b) (hc : ¬ candP v n s) : spU v s (n + 1) b := by
  rcases h with ⟨h1, h2⟩ | ⟨h1, h2, h3, h4⟩
  · exact Or.inl ⟨h1, fun u u1 u2 => by by_cases e : u = n; rw [e]; exact hc; exact h2 u u1 (by omega)⟩
  · exact Or.inr ⟨h1, by omega, h3, fun u u1 u2 => by by_cases e : u = n; rw [e]; exact fun z => absurd z hc; exact h4 u u1 (by omega)⟩
theorem spU_first {v : VV} {s n : Int} (hn : 0 ≤ n) (h : spU v s n (-1)) (hc : candP v n s) : spU v s (n + 1) n := by
  rcases h with ⟨h1, h2⟩ | ⟨h1, h2, h3, h4⟩
  · exact Or.inr ⟨hn, by omega, hc, fun u u1 u2 => by by_cases e : u = n; rw [e]; exact fun _ => ⟨by omega, by omega⟩; exact fun z => absurd z (h2 u u1 (by omega))⟩
  · omega
theorem spU_keep {v : VV} {s n b : Int} (h : spU v s n b) (hb : b ≠ -1) (hc : costS v b s ≤ costS v n s) : spU v s (n + 1) b := by
  rcases h with ⟨h1, h2⟩ | ⟨h1, h2, h3, h4⟩
  · exact absurd h1 hb
  · exact Or.inr ⟨h1, by omega, h3, fun u u1 u2 => by by_cases e : u = n; rw [e]; exact fun _ => ⟨hc, by omega⟩; exact h4 u u1 (by omega)⟩
theorem spU_new {v : VV} {s n b : Int} (hn : 0 ≤ n) (h : spU v s n b) (hb : b ≠ -1) (hcn : candP v n s) (hc : costS v n s < costS v b s) : spU v s (n + 1) n := by
  rcases h with ⟨h1, h2⟩ | ⟨h1, h2, h3, h4⟩
  · exact absurd h1 hb
  · refine Or.inr ⟨hn, by omega, hcn, fun u u1 u2 => ?_⟩
    by_cases e : u = n
    · rw [e]; exact fun _ => ⟨by omega, by omega⟩
    · intro z
      have := (h4 u u1 (by omega) z).1
      exact ⟨by omega, by omega⟩
theorem spU_one {v : VV} {s n b c : Int} (h : spU v s n b) (h2 : spU v s n c) : b = c := by
  rcases h with ⟨h1, h3⟩ | ⟨h1, h3, h4, h5⟩ <;> rcases h2 with ⟨g1, g3⟩ | ⟨g1, g3, g4, g5⟩
  · omega
  · exact absurd g4 (h3 c g1 g3)
  · exact absurd h4 (g3 b h1 h3)
  · have a := h5 c g1 g3 g4
    have b2 := g5 b h1 h3 h4
    have : costS v b s = costS v c s := by omega
    have e1 := a.2 this.symm
    have e2 := b2.2 this
    omega
set_option maxRecDepth 20000 in
set_option maxHeartbeats 1000000 in
theorem c_X6_spare (l : Launch) (d nu : Nat) (v : VV) (hB : MB nu v) (s : Int) (hs : 0 ≤ s ∧ s < 2 * v 27 34) : Ct l yX6_spare cX6_spare (some .int) 4 (d + 4) 0 0 [ar (some 27), ai s] (SG nu) v (rE (SG nu) (spU v s nu) v) := by
  refine Ct_of_G [some (ar (some 27)), some (ai s), none, none] (by decide) rfl rfl ?_
  have hn := hB.1
  have hgm := hB.2.1
  have hwk := hB.2.2.1
  have loop : ∀ (n : Nat) (b u : Int), 0 ≤ u → u + n = nu → -1 ≤ b ∧ b < nu → spU v s u b → G l (yX6_spare, cX6_spare, (some .int), 4, (d + 4), 0, 0, none) (rE (SG nu) (spU v s nu) v) 0 0 (SG nu) 4 [some (ar (some 27)), some (ai s), some (ai b), some (ai u)] [] v := by
    intro n
    induction n using Nat.strongRecOn with
    | ind n ih =>
    intro b u h0 h1 h2 hq
    refine G_iload_n dX6_spare_4 rfl ?_
    refine G_aload_n dX6_spare_5 rfl ?_
    refine G_getI (jj := 33) dX6_spare_6 flX6_181 rfl rfl rfl ?_
    refine G_icmp_ge 58 dX6_spare_9 (by decide) (fun h9 => ?_) (fun h9 => ?_)
    · obtain rfl : u = nu := by omega
      refine G_iload_n dX6_spare_58 rfl ?_
      exact G_iret dX6_spare_59 rfl rfl rfl ⟨b, rfl, hq, rfl, rfl⟩
    · have hcu := hB.cost (u := u) (s := s) (by omega) hs
      refine G_aload_n dX6_spare_12 rfl ?_
      refine G_iload_n dX6_spare_13 rfl ?_
      refine G_cVi (ci := 6) dX6_spare_14 rfl (by decide) rfl (c_X6_seatOf l (d + 3) nu v u hgm) mcX6_197 rfl rfl (by show _ ≤ d + 4; omega) rfl rfl (Nat.le_refl _) (Nat.le_refl _) ?_
      refine G_iconst (n := (-1)) dX6_spare_17 ⟨by decide, by decide⟩ ?_
      refine G_icmp_ne 52 dX6_spare_18 (by decide) (fun h18 => ?_) (fun h18 => ?_)
      · refine G_iinc dX6_spare_52 rfl (iRm (by omega) (by omega)) rfl rfl ?_
        refine G_goto 4 dX6_spare_55 (by decide) ?_
        exact ih (n - 1) (by omega) _ (u + 1) (by omega) (by omega) (by omega) (spU_no hq (fun z => h18 z.1))
      · refine G_aload_n dX6_spare_21 rfl ?_
        refine G_iload_n dX6_spare_22 rfl ?_
        refine G_iload_n dX6_spare_23 rfl ?_
        refine G_cVi (ci := 6) dX6_spare_24 rfl (by decide) rfl (c_X6_mayHave l (d + 1) nu v hB u s (by omega) hs) mcX6_210 rfl rfl (by show _ ≤ d + 4; omega) rfl rfl (Nat.le_refl _) (Nat.le_refl _) ?_
        refine G_if_eq 52 dX6_spare_27 (by decide) (fun h27 => ?_) (fun h27 => ?_)
        · refine G_iinc dX6_spare_52 rfl (iRm (by omega) (by omega)) rfl rfl ?_
          refine G_goto 4 dX6_spare_55 (by decide) ?_
          exact ih (n - 1) (by omega) _ (u + 1) (by omega) (by omega) (by omega) (spU_no hq (fun z => bP_0.mp h27 z.2))
        · have hm : mayP v u s := bP_1.mp (by rcases bP_01 (mayP v u s) with q | q; exact absurd q h27; exact q)
          refine G_iload_n dX6_spare_30 rfl ?_
          refine G_iconst (n := (-1)) dX6_spare_31 ⟨by decide, by decide⟩ ?_
          refine G_icmp_eq 50 dX6_spare_32 (by decide) (fun h32 => ?_) (fun h32 => ?_)
          · refine G_iload_n dX6_spare_50 rfl ?_
            refine G_istore_n dX6_spare_51 rfl rfl ?_
            refine G_iinc dX6_spare_52 rfl (iRm (by omega) (by omega)) rfl rfl ?_
            refine G_goto 4 dX6_spare_55 (by decide) ?_
            exact ih (n - 1) (by omega) _ (u + 1) (by omega) (by omega) (by omega) (spU_first h0 (h32 ▸ hq) ⟨h18, hm⟩)
          · refine G_aload_n dX6_spare_35 rfl ?_
            refine G_iload_n dX6_spare_36 rfl ?_
            refine G_iload_n dX6_spare_37 rfl ?_
            refine G_cVi (ci := 6) dX6_spare_38 rfl (by decide) rfl (c_X6_costOf l (d + 1) nu v hB u s (by omega) hs) mcX6_214 rfl rfl (by show _ ≤ d + 4; omega) rfl rfl (Nat.le_refl _) (Nat.le_refl _) ?_
            refine G_aload_n dX6_spare_41 rfl ?_
            refine G_iload_n dX6_spare_42 rfl ?_
            refine G_iload_n dX6_spare_43 rfl ?_
            refine G_cVi (ci := 6) dX6_spare_44 rfl (by decide) rfl (c_X6_costOf l (d + 1) nu v hB b s (by omega) hs) mcX6_214 rfl rfl (by show _ ≤ d + 4; omega) rfl rfl (Nat.le_refl _) (Nat.le_refl _) ?_
            refine G_icmp_ge 52 dX6_spare_47 (by decide) (fun h47 => ?_) (fun h47 => ?_)
            · refine G_iinc dX6_spare_52 rfl (iRm (by omega) (by omega)) rfl rfl ?_
              refine G_goto 4 dX6_spare_55 (by decide) ?_
              exact ih (n - 1) (by omega) _ (u + 1) (by omega) (by omega) (by omega) (spU_keep hq h32 h47)
            · refine G_iload_n dX6_spare_50 rfl ?_
              refine G_istore_n dX6_spare_51 rfl rfl ?_
              refine G_iinc dX6_spare_52 rfl (iRm (by omega) (by omega)) rfl rfl ?_
              refine G_goto 4 dX6_spare_55 (by decide) ?_
              exact ih (n - 1) (by omega) _ (u + 1) (by omega) (by omega) (by omega) (spU_new h0 hq h32 ⟨h18, hm⟩ (by omega))
  refine G_iconst (n := (-1)) dX6_spare_0 ⟨by decide, by decide⟩ ?_
  refine G_istore_n dX6_spare_1 rfl rfl ?_
  refine G_iconst (n := 0) dX6_spare_2 ⟨by decide, by decide⟩ ?_
  refine G_istore_n dX6_spare_3 rfl rfl ?_
  exact loop nu (-1) 0 (by omega) (by omega) (by omega) (Or.inl ⟨rfl, fun u u1 u2 => by omega⟩)
