theorem oi_im : Cond.instanceMethod Lib.objectInit ∈ lw_good := by decide +kernel
theorem oi_co : Cond.code Lib.objectInit ⟨#[0xb1]⟩ 1 none ∈ lw_good := by decide +kernel
theorem oi_X4 : Cond.methodLink RX4 3 Lib.objectInit ∈ lw_good := by decide +kernel
theorem ac_int : Cond.arrayClass .int ∈ lw_good := by decide +kernel
theorem ac_bool : Cond.arrayClass .boolean ∈ lw_good := by decide +kernel
/-- the world of an Umpire made at k -/
def uS (S : AS) (k : Nat) : AS := upS (nS (upS (nS S 2 100) k 9 (some S.1)) 0 100) k 10 (some (S.1 + 1))
def uV (S : AS) (v : VV) (k : Nat) (x y g b : Int) : VV := up (up (up (up (nV (nV (up v k 4 (-1)) S.1) (S.1 + 1)) k 0 x) k 1 y) k 3 g) k 2 b
set_option maxRecDepth 20000 in
set_option maxHeartbeats 1000000 in
theorem c_X4_init (l : Launch) (d nu : Nat) (v : VV) (S : AS) (k : Nat) (hk : k < S.1) (hs : (S.2.1 k).1 = 16 + 4) (x y g b : Int) : Ct l yX4_init cX4_init none 5 (d + 1) 2 200 [ar (some k), ai x, ai y, ai g, ai b] S v (rV (uS S k) (uV S v k x y g b)) := by
  refine Ct_of_G [some (ar (some k)), some (ai x), some (ai y), some (ai g), some (ai b)] (by decide) rfl rfl ?_
  refine G_aload_n dX4_init_0 rfl ?_
  refine G_objInit dX4_init_1 oi_X4 oi_im oi_co (by show 1 ≤ d + 1; omega) rfl ?_
  refine G_aload_n dX4_init_4 rfl ?_
  refine G_iconst (n := (-1)) dX4_init_5 ⟨by decide, by decide⟩ ?_
  refine G_putI (jj := 4) dX4_init_6 flX4_9 rfl rfl hs rfl ?_
  refine G_aload_n dX4_init_9 rfl ?_
  refine G_bipush (n := 100) dX4_init_10 (by decide) ⟨by decide, by decide⟩ ?_
  refine G_newa_boolean (N := 100) dX4_init_12 ac_bool rfl (by decide) (Nat.le_of_ble_eq_true rfl) (Nat.le_of_ble_eq_true rfl) ?_
  refine G_putRF (jj := 9) dX4_init_14 flX4_15 rfl rfl (by show (if k = S.1 then _ else _ : Nat × Nat).1 = _; rw [if_neg (by omega)]; exact hs) rfl rfl rfl ?_
  refine G_aload_n dX4_init_17 rfl ?_
  refine G_bipush (n := 100) dX4_init_18 (by decide) ⟨by decide, by decide⟩ ?_
  refine G_newa_int (N := 100) dX4_init_20 ac_int rfl (by decide) (Nat.le_of_ble_eq_true rfl) (Nat.le_of_ble_eq_true rfl) ?_
  refine G_putRF (jj := 10) dX4_init_22 flX4_19 rfl rfl (by show (if k = S.1 + 1 then _ else (if k = S.1 then _ else _) : Nat × Nat).1 = _; rw [if_neg (by omega), if_neg (by omega)]; exact hs) rfl rfl rfl ?_
  refine G_aload_n dX4_init_25 rfl ?_
  refine G_iload_n dX4_init_26 rfl ?_
  refine G_putIF (jj := 0) dX4_init_27 flX4_23 rfl rfl (by show (if k = S.1 + 1 then _ else (if k = S.1 then _ else _) : Nat × Nat).1 = _; rw [if_neg (by omega), if_neg (by omega)]; exact hs) rfl rfl rfl ?_
  refine G_aload_n dX4_init_30 rfl ?_
  refine G_iload_n dX4_init_31 rfl ?_
  refine G_putIF (jj := 1) dX4_init_32 flX4_26 rfl rfl (by show (if k = S.1 + 1 then _ else (if k = S.1 then _ else _) : Nat × Nat).1 = _; rw [if_neg (by omega), if_neg (by omega)]; exact hs) rfl rfl rfl ?_
  refine G_aload_n dX4_init_35 rfl ?_
  refine G_iload_n dX4_init_36 rfl ?_
  refine G_putI (jj := 3) dX4_init_37 flX4_29 rfl rfl (by show (if k = S.1 + 1 then _ else (if k = S.1 then _ else _) : Nat × Nat).1 = _; rw [if_neg (by omega), if_neg (by omega)]; exact hs) rfl ?_
  refine G_aload_n dX4_init_40 rfl ?_
  refine G_iload dX4_init_41 rfl ?_
  refine G_putIF (jj := 2) dX4_init_43 flX4_32 rfl rfl (by show (if k = S.1 + 1 then _ else (if k = S.1 then _ else _) : Nat × Nat).1 = _; rw [if_neg (by omega), if_neg (by omega)]; exact hs) rfl rfl rfl ?_
  exact G_vret dX4_init_46 rfl rfl rfl ⟨rfl, rfl, rfl⟩
