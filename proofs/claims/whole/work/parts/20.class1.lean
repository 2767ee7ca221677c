def cIn (v : VV) (n : Nat) (w : Int) : Int := if 0 ≤ w ∧ w ≤ 99 then v (61 + 3 * n) w else 0
set_option maxRecDepth 20000 in
set_option maxHeartbeats 1000000 in
theorem c_X4_isAway (l : Launch) (d nu : Nat) (v : VV) (n : Nat) (hn : n < nu) (w : Int) (hz : ∀ j, v (60 + 3 * n) j = 0 ∨ v (60 + 3 * n) j = 1) : Ct l yX4_isAway cX4_isAway (some .boolean) 2 (d + 0) 0 0 [ar (some (59 + 3 * n)), ai w] (SG nu) v (rI (SG nu) (if 0 ≤ w ∧ w ≤ 99 then v (60 + 3 * n) w else 0) v) := by
  refine Ct_of_G [some (ar (some (59 + 3 * n))), some (ai w)] (by decide) rfl rfl ?_
  refine G_iload_n dX4_isAway_0 rfl ?_
  refine G_if_lt 23 dX4_isAway_1 (by decide) (fun h1 => ?_) (fun h1 => ?_)
  · refine G_iconst (n := 0) dX4_isAway_23 ⟨by decide, by decide⟩ ?_
    exact G_zret dX4_isAway_24 rfl (by omega) rfl rfl ⟨by have := hz w; first | (rw [if_pos (by omega)]; congr 2; omega) | (rw [if_neg (by omega)]), rfl, rfl⟩
  · refine G_iload_n dX4_isAway_4 rfl ?_
    refine G_bipush (n := 99) dX4_isAway_5 (by decide) ⟨by decide, by decide⟩ ?_
    refine G_icmp_gt 23 dX4_isAway_7 (by decide) (fun h7 => ?_) (fun h7 => ?_)
    · refine G_iconst (n := 0) dX4_isAway_23 ⟨by decide, by decide⟩ ?_
      exact G_zret dX4_isAway_24 rfl (by omega) rfl rfl ⟨by have := hz w; first | (rw [if_pos (by omega)]; congr 2; omega) | (rw [if_neg (by omega)]), rfl, rfl⟩
    · refine G_aload_n dX4_isAway_10 rfl ?_
      refine G_getRv (some (60 + 3 * n)) (jj := 9) dX4_isAway_11 flX4_15 rfl (by rw [sh_ump hn]) rfl (rf_away hn) ?_
      refine G_iload_n dX4_isAway_14 rfl ?_
      refine G_zald dX4_isAway_15 (sh_away hn) (by omega) (by omega) ?_
      refine G_if_eq 23 dX4_isAway_16 (by decide) (fun h16 => ?_) (fun h16 => ?_)
      · refine G_iconst (n := 0) dX4_isAway_23 ⟨by decide, by decide⟩ ?_
        exact G_zret dX4_isAway_24 rfl (by omega) rfl rfl ⟨by have := hz w; first | (rw [if_pos (by omega)]; congr 2; omega) | (rw [if_neg (by omega)]), rfl, rfl⟩
      · refine G_iconst (n := 1) dX4_isAway_19 ⟨by decide, by decide⟩ ?_
        refine G_goto 24 dX4_isAway_20 (by decide) ?_
        exact G_zret dX4_isAway_24 rfl (by omega) rfl rfl ⟨by have := hz w; first | (rw [if_pos (by omega)]; congr 2; omega) | (rw [if_neg (by omega)]), rfl, rfl⟩
set_option maxRecDepth 20000 in
set_option maxHeartbeats 1000000 in
theorem c_X4_setAway (l : Launch) (d nu : Nat) (v : VV) (n : Nat) (hn : n < nu) (w b : Int) (hb : b = 0 ∨ b = 1) : Ct l yX4_setAway cX4_setAway (some .boolean) 3 (d + 0) 0 0 [ar (some (59 + 3 * n)), ai w, ai b] (SG nu) v (rI (SG nu) (if (0 ≤ w ∧ w ≤ 99) ∧ v (60 + 3 * n) w ≠ b then 1 else 0) (if (0 ≤ w ∧ w ≤ 99) ∧ v (60 + 3 * n) w ≠ b then up v (60 + 3 * n) w b else v)) := by
  refine Ct_of_G [some (ar (some (59 + 3 * n))), some (ai w), some (ai b)] (by decide) rfl rfl ?_
  refine G_iload_n dX4_setAway_0 rfl ?_
  refine G_if_lt 20 dX4_setAway_1 (by decide) (fun h1 => ?_) (fun h1 => ?_)
  · refine G_iconst (n := 0) dX4_setAway_20 ⟨by decide, by decide⟩ ?_
    exact G_zret dX4_setAway_21 rfl (by omega) rfl rfl ⟨by rw [if_neg (by omega)], rfl, by rw [if_neg (by omega)]⟩
  · refine G_iload_n dX4_setAway_4 rfl ?_
    refine G_bipush (n := 99) dX4_setAway_5 (by decide) ⟨by decide, by decide⟩ ?_
    refine G_icmp_gt 20 dX4_setAway_7 (by decide) (fun h7 => ?_) (fun h7 => ?_)
    · refine G_iconst (n := 0) dX4_setAway_20 ⟨by decide, by decide⟩ ?_
      exact G_zret dX4_setAway_21 rfl (by omega) rfl rfl ⟨by rw [if_neg (by omega)], rfl, by rw [if_neg (by omega)]⟩
    · refine G_aload_n dX4_setAway_10 rfl ?_
      refine G_getRv (some (60 + 3 * n)) (jj := 9) dX4_setAway_11 flX4_15 rfl (by rw [sh_ump hn]) rfl (rf_away hn) ?_
      refine G_iload_n dX4_setAway_14 rfl ?_
      refine G_zald dX4_setAway_15 (sh_away hn) (by omega) (by omega) ?_
      refine G_iload_n dX4_setAway_16 rfl ?_
      refine G_icmp_ne 22 dX4_setAway_17 (by decide) (fun h17 => ?_) (fun h17 => ?_)
      · refine G_aload_n dX4_setAway_22 rfl ?_
        refine G_getRv (some (60 + 3 * n)) (jj := 9) dX4_setAway_23 flX4_15 rfl (by rw [sh_ump hn]) rfl (rf_away hn) ?_
        refine G_iload_n dX4_setAway_26 rfl ?_
        refine G_iload_n dX4_setAway_27 rfl ?_
        refine G_zast dX4_setAway_28 (sh_away hn) (by omega) (by omega) hb ?_
        refine G_iconst (n := 1) dX4_setAway_29 ⟨by decide, by decide⟩ ?_
        exact G_zret dX4_setAway_30 rfl (by omega) rfl rfl ⟨by rw [if_pos (by omega)], rfl, by rw [if_pos (by omega)]⟩
      · refine G_iconst (n := 0) dX4_setAway_20 ⟨by decide, by decide⟩ ?_
        exact G_zret dX4_setAway_21 rfl (by omega) rfl rfl ⟨by rw [if_neg (by omega)], rfl, by rw [if_neg (by omega)]⟩
set_option maxRecDepth 20000 in
set_option maxHeartbeats 1000000 in
theorem c_X4_clubsIn (l : Launch) (d nu : Nat) (v : VV) (n : Nat) (hn : n < nu) (w : Int) : Ct l yX4_clubsIn cX4_clubsIn (some .int) 2 (d + 0) 0 0 [ar (some (59 + 3 * n)), ai w] (SG nu) v (rI (SG nu) (cIn v n w) v) := by
  refine Ct_of_G [some (ar (some (59 + 3 * n))), some (ai w)] (by decide) rfl rfl ?_
  refine G_iload_n dX4_clubsIn_0 rfl ?_
  refine G_if_lt 19 dX4_clubsIn_1 (by decide) (fun h1 => ?_) (fun h1 => ?_)
  · refine G_iconst (n := 0) dX4_clubsIn_19 ⟨by decide, by decide⟩ ?_
    exact G_iret dX4_clubsIn_20 rfl rfl rfl ⟨by unfold cIn; first | (rw [if_pos (by omega)]) | (rw [if_neg (by omega)]), rfl, rfl⟩
  · refine G_iload_n dX4_clubsIn_4 rfl ?_
    refine G_bipush (n := 99) dX4_clubsIn_5 (by decide) ⟨by decide, by decide⟩ ?_
    refine G_icmp_gt 19 dX4_clubsIn_7 (by decide) (fun h7 => ?_) (fun h7 => ?_)
    · refine G_iconst (n := 0) dX4_clubsIn_19 ⟨by decide, by decide⟩ ?_
      exact G_iret dX4_clubsIn_20 rfl rfl rfl ⟨by unfold cIn; first | (rw [if_pos (by omega)]) | (rw [if_neg (by omega)]), rfl, rfl⟩
    · refine G_aload_n dX4_clubsIn_10 rfl ?_
      refine G_getRv (some (61 + 3 * n)) (jj := 10) dX4_clubsIn_11 flX4_19 rfl (by rw [sh_ump hn]) rfl (rf_clubs hn) ?_
      refine G_iload_n dX4_clubsIn_14 rfl ?_
      refine G_iald dX4_clubsIn_15 (sh_clubs hn) (by omega) (by omega) ?_
      refine G_goto 20 dX4_clubsIn_16 (by decide) ?_
      exact G_iret dX4_clubsIn_20 rfl rfl rfl ⟨by unfold cIn; first | (rw [if_pos (by omega)]) | (rw [if_neg (by omega)]), rfl, rfl⟩
set_option maxRecDepth 20000 in
set_option maxHeartbeats 1000000 in
theorem c_X4_stand (l : Launch) (d nu : Nat) (v : VV) (n : Nat) (hn : n < nu) (w c : Int) (hw : 0 ≤ w ∧ w ≤ 99) (h5 : 0 ≤ v (59 + 3 * n) 5 ∧ v (59 + 3 * n) 5 ≤ 1000) : Ct l yX4_stand cX4_stand none 3 (d + 0) 0 0 [ar (some (59 + 3 * n)), ai w, ai c] (SG nu) v (rV (SG nu) (up (up v (61 + 3 * n) w c) (59 + 3 * n) 5 (v (59 + 3 * n) 5 + 1))) := by
  refine Ct_of_G [some (ar (some (59 + 3 * n))), some (ai w), some (ai c)] (by decide) rfl rfl ?_
  refine G_iload_n dX4_stand_0 rfl ?_
  refine G_if_lt 27 dX4_stand_1 (by decide) (fun h1 => by omega) (fun h1 => ?_)
  refine G_iload_n dX4_stand_4 rfl ?_
  refine G_bipush (n := 99) dX4_stand_5 (by decide) ⟨by decide, by decide⟩ ?_
  refine G_icmp_gt 27 dX4_stand_7 (by decide) (fun h7 => by omega) (fun h7 => ?_)
  refine G_aload_n dX4_stand_10 rfl ?_
  refine G_getRv (some (61 + 3 * n)) (jj := 10) dX4_stand_11 flX4_19 rfl (by rw [sh_ump hn]) rfl (rf_clubs hn) ?_
  refine G_iload_n dX4_stand_14 rfl ?_
  refine G_iload_n dX4_stand_15 rfl ?_
  refine G_iast dX4_stand_16 (sh_clubs hn) (by omega) (by omega) ?_
  refine G_aload_n dX4_stand_17 rfl ?_
  refine G_dup_a dX4_stand_18 ?_
  refine G_getIv (v (59 + 3 * n) 5) (jj := 5) dX4_stand_19 flX4_35 rfl (by rw [sh_ump hn]) rfl (by rw [up_ne (by omega)]) ?_
  refine G_iconst (n := 1) dX4_stand_22 ⟨by decide, by decide⟩ ?_
  refine G_iadd dX4_stand_23 (iRm (by omega) (by omega)) ?_
  refine G_putI (jj := 5) dX4_stand_24 flX4_35 rfl rfl (by rw [sh_ump hn]) rfl ?_
  exact G_vret dX4_stand_27 rfl rfl rfl ⟨rfl, rfl, rfl⟩
set_option maxRecDepth 20000 in
set_option maxHeartbeats 1000000 in
theorem c_X4_addMarks (l : Launch) (d nu : Nat) (v : VV) (n : Nat) (hn : n < nu) (q t : Int) (hq : 0 ≤ q ∧ q ≤ 100) (ht : 0 ≤ t ∧ t ≤ 9) (h6 : 0 ≤ v (59 + 3 * n) 6 ∧ v (59 + 3 * n) 6 ≤ 1000) (h7 : 0 ≤ v (59 + 3 * n) 7 ∧ v (59 + 3 * n) 7 ≤ 9000) (h8 : 0 ≤ v (59 + 3 * n) 8 ∧ v (59 + 3 * n) 8 ≤ 900000) : Ct l yX4_addMarks cX4_addMarks none 3 (d + 0) 0 0 [ar (some (59 + 3 * n)), ai q, ai t] (SG nu) v (rV (SG nu) (up (up (up v (59 + 3 * n) 6 (v (59 + 3 * n) 6 + 1)) (59 + 3 * n) 7 (v (59 + 3 * n) 7 + t)) (59 + 3 * n) 8 (v (59 + 3 * n) 8 + q * t))) := by
  refine Ct_of_G [some (ar (some (59 + 3 * n))), some (ai q), some (ai t)] (by decide) rfl rfl ?_
  have hmu := mul_bd hq ht
  refine G_aload_n dX4_addMarks_0 rfl ?_
  refine G_dup_a dX4_addMarks_1 ?_
  refine G_getI (jj := 6) dX4_addMarks_2 flX4_42 rfl (by rw [sh_ump hn]) rfl ?_
  refine G_iconst (n := 1) dX4_addMarks_5 ⟨by decide, by decide⟩ ?_
  refine G_iadd dX4_addMarks_6 (iRm (by omega) (by omega)) ?_
  refine G_putI (jj := 6) dX4_addMarks_7 flX4_42 rfl rfl (by rw [sh_ump hn]) rfl ?_
  refine G_aload_n dX4_addMarks_10 rfl ?_
  refine G_dup_a dX4_addMarks_11 ?_
  refine G_getIv (v (59 + 3 * n) 7) (jj := 7) dX4_addMarks_12 flX4_45 rfl (by rw [sh_ump hn]) rfl (up_nj (by decide)) ?_
  refine G_iload_n dX4_addMarks_15 rfl ?_
  refine G_iadd dX4_addMarks_16 (iRm (by omega) (by omega)) ?_
  refine G_putI (jj := 7) dX4_addMarks_17 flX4_45 rfl rfl (by rw [sh_ump hn]) rfl ?_
  refine G_aload_n dX4_addMarks_20 rfl ?_
  refine G_dup_a dX4_addMarks_21 ?_
  refine G_getIv (v (59 + 3 * n) 8) (jj := 8) dX4_addMarks_22 flX4_48 rfl (by rw [sh_ump hn]) rfl (by rw [up_nj (by decide), up_nj (by decide)]) ?_
  refine G_iload_n dX4_addMarks_25 rfl ?_
  refine G_iload_n dX4_addMarks_26 rfl ?_
  refine G_imul dX4_addMarks_27 (iRm (by omega) (by omega)) ?_
  refine G_iadd dX4_addMarks_28 (iRm (by omega) (by omega)) ?_
  refine G_putI (jj := 8) dX4_addMarks_29 flX4_48 rfl rfl (by rw [sh_ump hn]) rfl ?_
  exact G_vret dX4_addMarks_32 rfl rfl rfl ⟨rfl, rfl, rfl⟩
set_option maxRecDepth 20000 in
set_option maxHeartbeats 1000000 in
theorem c_X4_giveGrade (l : Launch) (d nu : Nat) (v : VV) (n : Nat) (hn : n < nu) (g : Int) : Ct l yX4_giveGrade cX4_giveGrade none 2 (d + 0) 0 0 [ar (some (59 + 3 * n)), ai g] (SG nu) v (rV (SG nu) (up (up (up (up v (59 + 3 * n) 3 g) (59 + 3 * n) 6 0) (59 + 3 * n) 7 0) (59 + 3 * n) 8 0)) := by
  refine Ct_of_G [some (ar (some (59 + 3 * n))), some (ai g)] (by decide) rfl rfl ?_
  refine G_aload_n dX4_giveGrade_0 rfl ?_
  refine G_iload_n dX4_giveGrade_1 rfl ?_
  refine G_putI (jj := 3) dX4_giveGrade_2 flX4_29 rfl rfl (by rw [sh_ump hn]) rfl ?_
  refine G_aload_n dX4_giveGrade_5 rfl ?_
  refine G_iconst (n := 0) dX4_giveGrade_6 ⟨by decide, by decide⟩ ?_
  refine G_putI (jj := 6) dX4_giveGrade_7 flX4_42 rfl rfl (by rw [sh_ump hn]) rfl ?_
  refine G_aload_n dX4_giveGrade_10 rfl ?_
  refine G_iconst (n := 0) dX4_giveGrade_11 ⟨by decide, by decide⟩ ?_
  refine G_putI (jj := 7) dX4_giveGrade_12 flX4_45 rfl rfl (by rw [sh_ump hn]) rfl ?_
  refine G_aload_n dX4_giveGrade_15 rfl ?_
  refine G_iconst (n := 0) dX4_giveGrade_16 ⟨by decide, by decide⟩ ?_
  refine G_putI (jj := 8) dX4_giveGrade_17 flX4_48 rfl rfl (by rw [sh_ump hn]) rfl ?_
  exact G_vret dX4_giveGrade_20 rfl rfl rfl ⟨rfl, rfl, rfl⟩
set_option maxRecDepth 20000 in
set_option maxHeartbeats 1000000 in
theorem c_X4_stoodInAll (l : Launch) (d nu : Nat) (v : VV) (n : Nat) (hn : n < nu) (w k : Int) (hw : 0 ≤ w ∧ w ≤ 99) (hk : 0 ≤ k ∧ k ≤ 9) : Ct l yX4_stoodInAll cX4_stoodInAll (some .boolean) 4 (d + 1) 0 0 [ar (some (59 + 3 * n)), ai w, ai k] (SG nu) v (rI (SG nu) (bP (k ≤ w ∧ ∀ j, w - k ≤ j → j < w → cIn v n j ≠ 0)) v) := by
  refine Ct_of_G [some (ar (some (59 + 3 * n))), some (ai w), some (ai k), none] (by decide) rfl rfl ?_
  have loop : ∀ (N : Nat) (j : Int), j + N = w → k ≤ w → w - k ≤ j → (∀ i, w - k ≤ i → i < j → cIn v n i ≠ 0) → G l (yX4_stoodInAll, cX4_stoodInAll, (some .boolean), 4, (d + 1), 0, 0, none) (rI (SG nu) (bP (k ≤ w ∧ ∀ j, w - k ≤ j → j < w → cIn v n j ≠ 0)) v) 0 0 (SG nu) 11 [some (ar (some (59 + 3 * n))), some (ai w), some (ai k), some (ai j)] [] v := by
    intro N
    induction N using Nat.strongRecOn with
    | ind N ih =>
    intro j h1 hkw h2 hj
    refine G_iload_n dX4_stoodInAll_11 rfl ?_
    refine G_iload_n dX4_stoodInAll_12 rfl ?_
    refine G_icmp_ge 32 dX4_stoodInAll_13 (by decide) (fun h13 => ?_) (fun h13 => ?_)
    · refine G_iconst (n := 1) dX4_stoodInAll_32 ⟨by decide, by decide⟩ ?_
      exact G_zret dX4_stoodInAll_33 rfl (by omega) rfl rfl ⟨congrArg (fun x => some (ai x)) (bP_t ⟨hkw, fun i i1 i2 => hj i i1 (by omega)⟩).symm, rfl, rfl⟩
    · refine G_aload_n dX4_stoodInAll_16 rfl ?_
      refine G_iload_n dX4_stoodInAll_17 rfl ?_
      refine G_cVi (ci := 4) dX4_stoodInAll_18 (by rw [sh_ump hn]) (by decide) rfl (c_X4_clubsIn l (d + 0) nu v n hn j) mcX4_38 rfl rfl (by show _ ≤ d + 1; omega) rfl rfl (Nat.le_refl _) (Nat.le_refl _) ?_
      refine G_if_ne 26 dX4_stoodInAll_21 (by decide) (fun h21 => ?_) (fun h21 => ?_)
      · refine G_iinc dX4_stoodInAll_26 rfl (iRm (by omega) (by omega)) rfl rfl ?_
        refine G_goto 11 dX4_stoodInAll_29 (by decide) ?_
        exact ih (N - 1) (by omega) (j + 1) (by omega) hkw (by omega) (fun i i1 i2 => by by_cases e : i = j; rw [e]; exact h21; exact hj i i1 (by omega))
      · refine G_iconst (n := 0) dX4_stoodInAll_24 ⟨by decide, by decide⟩ ?_
        exact G_zret dX4_stoodInAll_25 rfl (by omega) rfl rfl ⟨congrArg (fun x => some (ai x)) (bP_f (fun h => h.2 j (by omega) (by omega) h21)).symm, rfl, rfl⟩
  refine G_iload_n dX4_stoodInAll_0 rfl ?_
  refine G_iload_n dX4_stoodInAll_1 rfl ?_
  refine G_icmp_ge 7 dX4_stoodInAll_2 (by decide) (fun h2 => ?_) (fun h2 => ?_)
  · refine G_iload_n dX4_stoodInAll_7 rfl ?_
    refine G_iload_n dX4_stoodInAll_8 rfl ?_
    refine G_isub dX4_stoodInAll_9 (iRm (by omega) (by omega)) ?_
    refine G_istore_n dX4_stoodInAll_10 rfl rfl ?_
    exact loop k.toNat (w - k) (by omega) (by omega) (by omega) (fun j j1 j2 => by omega)
  · refine G_iconst (n := 0) dX4_stoodInAll_5 ⟨by decide, by decide⟩ ?_
    exact G_zret dX4_stoodInAll_6 rfl (by omega) rfl rfl ⟨congrArg (fun x => some (ai x)) (bP_f (fun h => by omega)).symm, rfl, rfl⟩
set_option maxRecDepth 20000 in
set_option maxHeartbeats 1000000 in
theorem c_X4_stoodWith (l : Launch) (d nu : Nat) (v : VV) (n : Nat) (hn : n < nu) (c w k : Int) (hw : 0 ≤ w ∧ w ≤ 99) (hk : 0 ≤ k ∧ k ≤ 9) : Ct l yX4_stoodWith cX4_stoodWith (some .boolean) 5 (d + 1) 0 0 [ar (some (59 + 3 * n)), ai c, ai w, ai k] (SG nu) v (rI (SG nu) (bP (∃ j, w - k ≤ j ∧ j < w ∧ bandI (cIn v n j) c ≠ 0)) v) := by
  refine Ct_of_G [some (ar (some (59 + 3 * n))), some (ai c), some (ai w), some (ai k), none] (by decide) rfl rfl ?_
  have loop : ∀ (N : Nat) (j : Int), j + N = w → w - k ≤ j → (∀ i, w - k ≤ i → i < j → bandI (cIn v n i) c = 0) → G l (yX4_stoodWith, cX4_stoodWith, (some .boolean), 5, (d + 1), 0, 0, none) (rI (SG nu) (bP (∃ j, w - k ≤ j ∧ j < w ∧ bandI (cIn v n j) c ≠ 0)) v) 0 0 (SG nu) 5 [some (ar (some (59 + 3 * n))), some (ai c), some (ai w), some (ai k), some (ai j)] [] v := by
    intro N
    induction N using Nat.strongRecOn with
    | ind N ih =>
    intro j h1 h2 hj
    refine G_iload dX4_stoodWith_5 rfl ?_
    refine G_iload_n dX4_stoodWith_7 rfl ?_
    refine G_icmp_ge 30 dX4_stoodWith_8 (by decide) (fun h8 => ?_) (fun h8 => ?_)
    · refine G_iconst (n := 0) dX4_stoodWith_30 ⟨by decide, by decide⟩ ?_
      exact G_zret dX4_stoodWith_31 rfl (by omega) rfl rfl ⟨congrArg (fun x => some (ai x)) (bP_f (fun ⟨i, i1, i2, i3⟩ => i3 (hj i i1 (by omega)))).symm, rfl, rfl⟩
    · refine G_aload_n dX4_stoodWith_11 rfl ?_
      refine G_iload dX4_stoodWith_12 rfl ?_
      refine G_cVi (ci := 4) dX4_stoodWith_14 (by rw [sh_ump hn]) (by decide) rfl (c_X4_clubsIn l (d + 0) nu v n hn j) mcX4_38 rfl rfl (by show _ ≤ d + 1; omega) rfl rfl (Nat.le_refl _) (Nat.le_refl _) ?_
      refine G_iload_n dX4_stoodWith_17 rfl ?_
      refine G_iand (bandI (cIn v n j) c) dX4_stoodWith_18 rfl ?_
      refine G_if_eq 24 dX4_stoodWith_19 (by decide) (fun h19 => ?_) (fun h19 => ?_)
      · refine G_iinc dX4_stoodWith_24 rfl (iRm (by omega) (by omega)) rfl rfl ?_
        refine G_goto 5 dX4_stoodWith_27 (by decide) ?_
        exact ih (N - 1) (by omega) (j + 1) (by omega) (by omega) (fun i i1 i2 => by by_cases e : i = j; rw [e]; exact h19; exact hj i i1 (by omega))
      · refine G_iconst (n := 1) dX4_stoodWith_22 ⟨by decide, by decide⟩ ?_
        exact G_zret dX4_stoodWith_23 rfl (by omega) rfl rfl ⟨congrArg (fun x => some (ai x)) (bP_t ⟨j, by omega, by omega, h19⟩).symm, rfl, rfl⟩
  refine G_iload_n dX4_stoodWith_0 rfl ?_
  refine G_iload_n dX4_stoodWith_1 rfl ?_
  refine G_isub dX4_stoodWith_2 (iRm (by omega) (by omega)) ?_
  refine G_istore dX4_stoodWith_3 rfl rfl ?_
  exact loop k.toNat (w - k) (by omega) (by omega) (fun j j1 j2 => by omega)
theorem sh_game {nu g : Nat} (h : g < 8) : (SG nu).2.1 (8 + g) = (16, 0) := by
  match g, h with
  | 0, _ => rfl
  | 1, _ => rfl
  | 2, _ => rfl
  | 3, _ => rfl
  | 4, _ => rfl
  | 5, _ => rfl
  | 6, _ => rfl
  | 7, _ => rfl
def absS (a b : Int) : Int := if 0 ≤ a - b then a - b else -(a - b)
theorem absS_less (a b : Int) : absS b a = lessS a b := by unfold absS lessS; split <;> split <;> omega
set_option maxRecDepth 20000 in
set_option maxHeartbeats 1000000 in
theorem c_X0_set (l : Launch) (d nu : Nat) (v : VV) (g : Nat) (hg : g < 8) (x y c e : Int) : Ct l yX0_set cX0_set none 5 (d + 0) 0 0 [ar (some (8 + g)), ai x, ai y, ai c, ai e] (SG nu) v (rV (SG nu) (up (up (up (up v (8 + g) 0 x) (8 + g) 1 y) (8 + g) 2 c) (8 + g) 3 e)) := by
  refine Ct_of_G [some (ar (some (8 + g))), some (ai x), some (ai y), some (ai c), some (ai e)] (by decide) rfl rfl ?_
  refine G_aload_n dX0_set_0 rfl ?_
  refine G_iload_n dX0_set_1 rfl ?_
  refine G_putI (jj := 0) dX0_set_2 flX0_7 rfl rfl (by rw [sh_game hg]) rfl ?_
  refine G_aload_n dX0_set_5 rfl ?_
  refine G_iload_n dX0_set_6 rfl ?_
  refine G_putI (jj := 1) dX0_set_7 flX0_13 rfl rfl (by rw [sh_game hg]) rfl ?_
  refine G_aload_n dX0_set_10 rfl ?_
  refine G_iload_n dX0_set_11 rfl ?_
  refine G_putI (jj := 2) dX0_set_12 flX0_16 rfl rfl (by rw [sh_game hg]) rfl ?_
  refine G_aload_n dX0_set_15 rfl ?_
  refine G_iload dX0_set_16 rfl ?_
  refine G_putI (jj := 3) dX0_set_18 flX0_19 rfl rfl (by rw [sh_game hg]) rfl ?_
  exact G_vret dX0_set_21 rfl rfl rfl ⟨rfl, rfl, rfl⟩
set_option maxRecDepth 20000 in
set_option maxHeartbeats 1000000 in
theorem c_X0_milesTo (l : Launch) (d nu : Nat) (v : VV) (g : Nat) (hg : g < 8) (n : Nat) (hn : n < nu) (h1 : 0 ≤ v (8 + g) 0 ∧ v (8 + g) 0 ≤ 99) (h2 : 0 ≤ v (8 + g) 1 ∧ v (8 + g) 1 ≤ 99) (h3 : 0 ≤ v (59 + 3 * n) 0 ∧ v (59 + 3 * n) 0 ≤ 99) (h4 : 0 ≤ v (59 + 3 * n) 1 ∧ v (59 + 3 * n) 1 ≤ 99) : Ct l yX0_milesTo cX0_milesTo (some .int) 2 (d + 1) 0 0 [ar (some (8 + g)), ar (some (59 + 3 * n))] (SG nu) v (rI (SG nu) (absS (v (8 + g) 0) (v (59 + 3 * n) 0) + absS (v (8 + g) 1) (v (59 + 3 * n) 1)) v) := by
  refine Ct_of_G [some (ar (some (8 + g))), some (ar (some (59 + 3 * n)))] (by decide) rfl rfl ?_
  refine G_aload_n dX0_milesTo_0 rfl ?_
  refine G_getI (jj := 0) dX0_milesTo_1 flX0_7 rfl (by rw [sh_game hg]) rfl ?_
  refine G_aload_n dX0_milesTo_4 rfl ?_
  refine G_getI (jj := 0) dX0_milesTo_5 flX0_22 rfl (by rw [sh_ump hn]) rfl ?_
  refine G_isub dX0_milesTo_8 (iRm (by omega) (by omega)) ?_
  refine G_mabs dX0_milesTo_9 mcX0_25 (by omega) (by show 1 ≤ d + _; omega) rfl rfl rfl ?_
  refine G_aload_n dX0_milesTo_12 rfl ?_
  refine G_getI (jj := 1) dX0_milesTo_13 flX0_13 rfl (by rw [sh_game hg]) rfl ?_
  refine G_aload_n dX0_milesTo_16 rfl ?_
  refine G_getI (jj := 1) dX0_milesTo_17 flX0_31 rfl (by rw [sh_ump hn]) rfl ?_
  refine G_isub dX0_milesTo_20 (iRm (by omega) (by omega)) ?_
  refine G_mabs dX0_milesTo_21 mcX0_25 (by omega) (by show 1 ≤ d + _; omega) rfl rfl rfl ?_
  refine G_iadd dX0_milesTo_24 (iRm (by omega) (by omega)) ?_
  exact G_iret dX0_milesTo_25 rfl rfl rfl ⟨rfl, rfl, rfl⟩
