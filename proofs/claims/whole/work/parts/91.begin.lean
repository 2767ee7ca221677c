theorem ac_long : Cond.arrayClass .long ∈ lw_good := by decide +kernel
set_option maxRecDepth 20000 in
set_option maxHeartbeats 1000000 in
theorem law_start (l : Launch) (hl : l.stackTraces = false) (L : Nat) (xs : Nat → Int32) (hL : L ≤ 3072) (v : VV) : G l (yL_law, cL_law, some .boolean, 7, 13, 601024, 7293034, some (L, xs)) (fun r _ _ => r = some (ai 1)) 0 0 Z0 0 [some (ax 0), none, none, none, none, none, none] [] v := by
  refine G_new (ci := 5) dL_law_0 (by decide) (show Cond.classLink RL 8 (Rof 5) ∈ lw_good by decide +kernel) (show Cond.instantiable (Rof 5) (nf 5) ∈ lw_good by decide +kernel) (show Cond.initialized (Rof 5) ∈ lw_good by decide +kernel) (Nat.le_of_ble_eq_true rfl) (Nat.le_of_ble_eq_true rfl) ?_
  refine G_dup_a dL_law_3 ?_
  refine G_cIq dL_law_4 (c_X5_init l 10 0 (nV v 0) (fun j => rfl)) mcL_15 rfl rfl (by show _ ≤ 13; omega) rfl rfl (Nat.le_of_ble_eq_true rfl) (Nat.le_of_ble_eq_true rfl) (fun r S2 w9 hq9 => ?_)
  obtain ⟨rfl, rfl, hz9, h49, h169⟩ := hq9
  refine G_astore_n dL_law_7 rfl rfl ?_
  refine G_new (ci := 6) dL_law_8 (by decide) (show Cond.classLink RL 16 (Rof 6) ∈ lw_good by decide +kernel) (show Cond.instantiable (Rof 6) (nf 6) ∈ lw_good by decide +kernel) (show Cond.initialized (Rof 6) ∈ lw_good by decide +kernel) (Nat.le_of_ble_eq_true rfl) (Nat.le_of_ble_eq_true rfl) ?_
  refine G_dup_a dL_law_11 ?_
  refine G_cIv dL_law_12 (c_X6_init l 11 0 (nV w9 27)) mcL_18 rfl rfl (by show _ ≤ 13; omega) rfl rfl (Nat.le_of_ble_eq_true rfl) (Nat.le_of_ble_eq_true rfl) ?_
  refine G_astore_n dL_law_15 rfl rfl ?_
  refine G_iconst (n := 1) dL_law_16 ⟨by decide, by decide⟩ ?_
  refine G_newa_long (N := 1) dL_law_17 ac_long rfl (by decide) (Nat.le_of_ble_eq_true rfl) (Nat.le_of_ble_eq_true rfl) ?_
  refine G_astore_n dL_law_19 rfl rfl ?_
  refine G_iconst (n := 0) dL_law_20 ⟨by decide, by decide⟩ ?_
  refine G_istore dL_law_21 rfl rfl ?_
  refine G_eqS (S2 := SG 0) We_1 We_2 We_3 WR_0 ?_
  exact law_loop l hl L xs hL 600 0 0 0 _ _ _ none none (by omega) (by omega) (by omega) (LI_start hz9 h49 h169) (by decide) (by decide)
