def umpB (nu : Nat) (v : VV) (x y g b : Int) : VV := up (uV (nS (SG nu) 20 0) (nV v (59 + 3 * nu)) (59 + 3 * nu) x y g b) 0 6 (nu + 1)
/-- what no umpire has touched yet -/
def FZ (nu : Nat) (z : VV) : Prop := ∀ u : Int, (nu : Int) ≤ u → z 38 u = 0 ∧ z 39 u = 0 ∧ z 40 u = 0 ∧ z 41 u = 0 ∧ ∀ w : Int, 0 ≤ w → w ≤ 99 → z 42 (100 * u + w) = 0 ∧ z 43 (100 * u + w) = 0
theorem ub_u (nu : Nat) (v : VV) (x y g b j : Int) : umpB nu v x y g b (59 + 3 * nu) j = if j = 2 then b else if j = 3 then g else if j = 1 then y else if j = 0 then x else if j = 4 then -1 else 0 := by
  unfold umpB uV
  rw [up_c (by omega), up_get, up_get, up_get, up_get]
  simp only [true_and]
  repeat' (split; rfl)
  rw [show (nS (SG nu) 20 0).1 = 60 + 3 * nu from by show 59 + 3 * nu + 1 = _; omega]
  unfold nV
  rw [if_neg (by omega), if_neg (by omega), up_get]
  simp only [true_and, if_true]
theorem ub_a (nu : Nat) (v : VV) (x y g b j : Int) : umpB nu v x y g b (60 + 3 * nu) j = 0 := by
  unfold umpB uV
  rw [up_c (by omega), up_c (by omega), up_c (by omega), up_c (by omega), up_c (by omega)]
  rw [show (nS (SG nu) 20 0).1 = 60 + 3 * nu from by show 59 + 3 * nu + 1 = _; omega]
  unfold nV
  rw [if_neg (by omega), if_pos rfl]
theorem ub_w (nu : Nat) (v : VV) (x y g b j : Int) : umpB nu v x y g b (61 + 3 * nu) j = 0 := by
  unfold umpB uV
  rw [up_c (by omega), up_c (by omega), up_c (by omega), up_c (by omega), up_c (by omega)]
  rw [show (nS (SG nu) 20 0).1 = 60 + 3 * nu from by show 59 + 3 * nu + 1 = _; omega]
  unfold nV
  rw [if_pos (by omega)]
theorem ub_l (nu : Nat) (v : VV) (x y g b : Int) {k : Nat} (j : Int) (h : k < 59 + 3 * nu) (h0 : k ≠ 0) : umpB nu v x y g b k j = v k j := by
  unfold umpB uV
  rw [up_c h0, up_c (by omega), up_c (by omega), up_c (by omega), up_c (by omega)]
  rw [show (nS (SG nu) 20 0).1 = 60 + 3 * nu from by show 59 + 3 * nu + 1 = _; omega]
  unfold nV
  rw [if_neg (by omega), if_neg (by omega), up_c (by omega)]
  exact if_neg (by omega)
theorem ub_0 (nu : Nat) (v : VV) (x y g b j : Int) : umpB nu v x y g b 0 j = if j = 6 then (nu : Int) + 1 else v 0 j := by
  unfold umpB uV
  rw [up_get]
  simp only [true_and]
  split
  · rfl
  · rw [up_c (by omega), up_c (by omega), up_c (by omega), up_c (by omega)]
    rw [show (nS (SG nu) 20 0).1 = 60 + 3 * nu from by show 59 + 3 * nu + 1 = _; omega]
    unfold nV
    rw [if_neg (by omega), if_neg (by omega), up_c (by omega)]
    exact if_neg (by omega)
theorem uz (z : VV) (x y g b : Int) : (∀ k, k ≠ 34 → k ≠ 35 → k ≠ 36 → k ≠ 37 → k ≠ 27 → umpV z x y g b k = z k) ∧ (∀ j, umpV z x y g b 27 j = if j = 33 then z 27 33 + 1 else z 27 j) ∧ ∀ u, umpV z x y g b 34 u = (if u = z 27 33 then x else z 34 u) ∧ umpV z x y g b 35 u = (if u = z 27 33 then y else z 35 u) ∧ umpV z x y g b 36 u = (if u = z 27 33 then g else z 36 u) ∧ umpV z x y g b 37 u = (if u = z 27 33 then b else z 37 u) := by
  unfold umpV
  refine ⟨fun k a1 a2 a3 a4 a5 => ?_, fun j => ?_, fun u => ⟨?_, ?_, ?_, ?_⟩⟩
  · rw [up_ne a5, up_ne a4, up_ne a3, up_ne a2, up_ne a1]
  · rw [up_get]
    simp only [true_and]
    rw [up_c (by omega), up_c (by omega), up_c (by omega), up_c (by omega)]
  · rw [up_c (by omega), up_c (by omega), up_c (by omega), up_c (by omega), up_get]
    simp only [true_and]
  · rw [up_c (by omega), up_c (by omega), up_c (by omega), up_get]
    simp only [true_and]
    rw [up_c (by omega)]
  · rw [up_c (by omega), up_c (by omega), up_get]
    simp only [true_and]
    rw [up_c (by omega), up_c (by omega)]
  · rw [up_c (by omega), up_get]
    simp only [true_and]
    rw [up_c (by omega), up_c (by omega), up_c (by omega)]
theorem Sim_ump {nu : Nat} {v z : VV} (hS : Sim nu v z) (hF : FZ nu z) (hn : nu < 20) {x y g b : Int} (hx : 0 ≤ x ∧ x ≤ 99) (hy : 0 ≤ y ∧ y ≤ 99) (hg : 1 ≤ g ∧ g ≤ 4) (hb : 0 ≤ b ∧ b ≤ 4095) : Sim (nu + 1) (umpB nu v x y g b) (umpV z x y g b) := by
  obtain ⟨hM, hC, hU, hW, hX, hH, hR, hT, hK⟩ := hS
  obtain ⟨q1, q2, q3⟩ := uz z x y g b
  have h33 : z 27 33 = nu := hM.1.2
  have e35 : umpV z x y g b 27 35 = z 27 35 := q2 35
  have e34 : umpV z x y g b 27 34 = z 27 34 := q2 34
  have e36 : umpV z x y g b 27 36 = z 27 36 := q2 36
  have e13 : umpV z x y g b 27 13 = z 27 13 := q2 13
  have e2 : umpV z x y g b 27 2 = z 27 2 := q2 2
  have r : ∀ k, k = 28 ∨ k = 29 ∨ (38 ≤ k ∧ k ≤ 49) → umpV z x y g b k = z k := fun k h => q1 k (by omega) (by omega) (by omega) (by omega) (by omega)
  have hwk := hM.2.2.1
  have hF0 := hF nu (by omega)
  have hse : ∀ u, seatOfS (umpV z x y g b) u = seatOfS z u := fun u => by unfold seatOfS; rw [r 48 (by omega), e34]
  unfold Sim
  rw [e35]
  refine ⟨⟨⟨by omega, ?_⟩, ?_, ?_, ?_, ?_, ?_, ?_⟩, ?_, ?_, ?_, ?_, ⟨?_, ?_, ?_⟩, ?_, ?_, ?_⟩
  · rw [q2 33, if_pos rfl, h33]; omega
  · rw [e34]; exact hM.2.1
  · rw [e35]; exact hM.2.2.1
  · unfold RB
    rw [r 29 (by omega)]
    exact hM.2.2.2.1
  · intro u u0 u1
    rw [(q3 u).1, (q3 u).2.1, (q3 u).2.2.1, (q3 u).2.2.2, r 41 (by omega), h33]
    by_cases e : u = nu
    · simp only [e, if_true]
      rw [hF0.2.2.2.1]
      exact ⟨hx, hy, hg, hb, by omega⟩
    · simp only [e, if_false]
      exact hM.2.2.2.2.1 u u0 (by omega)
  · intro k k0 k1
    rw [e34] at k1
    rw [r 44 (by omega), r 45 (by omega), r 46 (by omega), r 47 (by omega)]
    exact hM.2.2.2.2.2.1 k k0 k1
  · intro s s0 s1
    rw [e34] at s1
    rw [r 48 (by omega)]
    have := hM.2.2.2.2.2.2 s s0 s1
    omega
  · unfold SC
    rw [e34, e35, ub_0, ub_0, ub_0]
    exact ⟨by rw [if_pos rfl]; omega, hC.2.1, hC.2.2⟩
  · intro n hn2
    rw [(q3 n).1, (q3 n).2.1, (q3 n).2.2.1, (q3 n).2.2.2, r 41 (by omega), r 38 (by omega), r 39 (by omega), r 40 (by omega), h33]
    by_cases e : n = nu
    · subst e
      rw [ub_u, ub_u, ub_u, ub_u, ub_u, ub_u, ub_u, ub_u, hF0.1, hF0.2.1, hF0.2.2.1, hF0.2.2.2.1]
      simp
    · have e3 : ¬ ((n : Int) = nu) := by omega
      simp only [e3, if_false]
      simp only [ub_l nu v x y g b _ (show 59 + 3 * n < 59 + 3 * nu by omega) (by omega)]
      exact hU n (by omega)
  · intro n hn2 w w0 w1
    rw [r 42 (by omega), r 43 (by omega)]
    by_cases e : n = nu
    · subst e
      rw [ub_a, ub_w]
      have := hF0.2.2.2.2 w w0 w1
      exact ⟨this.2.symm, this.1.symm⟩
    · rw [ub_l nu v x y g b _ (by omega) (by omega), ub_l nu v x y g b _ (by omega) (by omega)]
      exact hW n (by omega) w w0 w1
  · intro k k1
    rw [e34] at k1
    have hgm := hM.2.1
    rw [r 44 (by omega), r 45 (by omega), r 46 (by omega), r 47 (by omega)]
    simp only [ub_l nu v x y g b _ (show 8 + k < 59 + 3 * nu by omega) (by omega)]
    exact hX k k1
  · intro s s0 s1
    rw [e34, r 48 (by omega), ub_l nu v x y g b _ (by omega) (by omega)]
    exact hH.1 s s0 s1
  · intro n hn2
    rw [hse]
    by_cases e : n = nu
    · subst e
      rw [ub_u]
      refine Eq.trans (by simp) (seat_no hM.2.1.1 (fun s s0 s1 => ?_)).symm
      have := hM.2.2.2.2.2.2 s s0 s1
      omega
    · rw [ub_l nu v x y g b _ (by omega) (by omega)]
      exact hH.2.1 n (by omega)
  · unfold INJ
    rw [e34, r 48 (by omega)]
    exact hH.2.2
  · intro k k0 k1
    rw [r 29 (by omega), ub_l nu v x y g b _ (by omega) (by omega)]
    exact hR k k0 k1
  · unfold ST
    rw [e13, e2, r 28 (by omega), ub_l nu v x y g b _ (by omega) (by omega), ub_l nu v x y g b _ (by omega) (by omega)]
    refine ⟨hT.1, hT.2.1, hT.2.2.1, hT.2.2.2.1, fun i i0 i1 => ?_⟩
    rw [ub_l nu v x y g b _ (by omega) (by omega)]
    exact hT.2.2.2.2 i i0 i1
  · have hgv : gvN (umpB nu v x y g b) = gvN v := by
      unfold gvN
      rw [ub_0]
      rfl
    unfold SK
    rw [hgv, e34, e36, r 49 (by omega)]
    exact hK
theorem nS_lo {S : AS} {t len a : Nat} (h : a < S.1) : (nS S t len).2.1 a = S.2.1 a := if_neg (by omega)
theorem nS_hi {S : AS} {t len : Nat} : ((nS S t len).2.1 S.1).1 = t := by
  show (if S.1 = S.1 then (t, len) else S.2.1 S.1).1 = t
  rw [if_pos rfl]
theorem uS_sh {S : AS} {k a : Nat} (h : a < S.1) : (uS S k).2.1 a = S.2.1 a := by
  show (if a = S.1 + 1 then (0, 100) else if a = S.1 then (2, 100) else S.2.1 a) = S.2.1 a
  rw [if_neg (by omega), if_neg (by omega)]
set_option maxRecDepth 20000 in
set_option maxHeartbeats 1000000 in
theorem c_X5_umpire (l : Launch) (d nu : Nat) (v : VV) (h06 : v 0 6 = nu) (hnu : nu ≤ 20) (x y g b : Int) : Ct l yX5_umpire cX5_umpire (some .int) 6 (d + 2) 3 211 [ar (some 0), ai x, ai y, ai g, ai b] (SG nu) v (fun r S2 v2 => ((nu ≠ 20 ∧ (0 ≤ x ∧ x ≤ 99) ∧ (0 ≤ y ∧ y ≤ 99) ∧ (1 ≤ g ∧ g ≤ 4) ∧ (0 ≤ b ∧ b ≤ 4095)) ∧ r = some (ai nu) ∧ S2 = SG (nu + 1) ∧ v2 = umpB nu v x y g b) ∨ (¬ (nu ≠ 20 ∧ (0 ≤ x ∧ x ≤ 99) ∧ (0 ≤ y ∧ y ≤ 99) ∧ (1 ≤ g ∧ g ≤ 4) ∧ (0 ≤ b ∧ b ≤ 4095)) ∧ r = some (ai (-1)) ∧ S2 = SG nu ∧ v2 = v)) := by
  refine Ct_of_G [some (ar (some 0)), some (ai x), some (ai y), some (ai g), some (ai b), none] (by decide) rfl rfl ?_
  refine G_aload_n dX5_umpire_0 rfl ?_
  refine G_getIv ((nu : Int)) (jj := 6) dX5_umpire_1 flX5_73 rfl rfl rfl h06 ?_
  refine G_bipush (n := 20) dX5_umpire_4 (by decide) ⟨by decide, by decide⟩ ?_
  refine G_icmp_ge 17 dX5_umpire_6 (by decide) (fun h6 => ?_) (fun h6 => ?_)
  · refine G_iconst (n := (-1)) dX5_umpire_17 ⟨by decide, by decide⟩ ?_
    exact G_iret dX5_umpire_18 rfl rfl rfl (Or.inr ⟨by omega, rfl, rfl, rfl⟩)
  · refine G_iload_n dX5_umpire_9 rfl ?_
    refine G_iload_n dX5_umpire_10 rfl ?_
    refine G_cSi dX5_umpire_11 (c_X5_isPlace l (d + 1) nu v x y) mcX5_77 rfl rfl (by show _ ≤ d + 2; omega) rfl rfl (Nat.le_of_ble_eq_true rfl) (Nat.le_of_ble_eq_true rfl) ?_
    refine G_if_ne 19 dX5_umpire_14 (by decide) (fun h14 => ?_) (fun h14 => ?_)
    · refine G_iload_n dX5_umpire_19 rfl ?_
      refine G_cSi dX5_umpire_20 (c_X5_isGrade l (d + 1) nu v g) mcX5_81 rfl rfl (by show _ ≤ d + 2; omega) rfl rfl (Nat.le_of_ble_eq_true rfl) (Nat.le_of_ble_eq_true rfl) ?_
      refine G_if_eq 39 dX5_umpire_23 (by decide) (fun h23 => ?_) (fun h23 => ?_)
      · refine G_iconst (n := (-1)) dX5_umpire_39 ⟨by decide, by decide⟩ ?_
        exact G_iret dX5_umpire_40 rfl rfl rfl (Or.inr ⟨by omega, rfl, rfl, rfl⟩)
      · refine G_iload dX5_umpire_26 rfl ?_
        refine G_if_lt 39 dX5_umpire_28 (by decide) (fun h28 => ?_) (fun h28 => ?_)
        · refine G_iconst (n := (-1)) dX5_umpire_39 ⟨by decide, by decide⟩ ?_
          exact G_iret dX5_umpire_40 rfl rfl rfl (Or.inr ⟨by omega, rfl, rfl, rfl⟩)
        · refine G_iload dX5_umpire_31 rfl ?_
          refine G_sipush (n := 4096) dX5_umpire_33 (by decide) ⟨by decide, by decide⟩ ?_
          refine G_icmp_lt 41 dX5_umpire_36 (by decide) (fun h36 => ?_) (fun h36 => ?_)
          · have hok : nu ≠ 20 ∧ (0 ≤ x ∧ x ≤ 99) ∧ (0 ≤ y ∧ y ≤ 99) ∧ (1 ≤ g ∧ g ≤ 4) ∧ (0 ≤ b ∧ b ≤ 4095) := by omega
            refine G_aload_n dX5_umpire_41 rfl ?_
            refine G_getIv ((nu : Int)) (jj := 6) dX5_umpire_42 flX5_73 rfl rfl rfl h06 ?_
            refine G_istore dX5_umpire_45 rfl rfl ?_
            refine G_aload_n dX5_umpire_47 rfl ?_
            refine G_getR (jj := 2) dX5_umpire_48 flX5_25 rfl rfl rfl ?_
            refine G_iload dX5_umpire_51 rfl ?_
            refine G_new (ci := 4) dX5_umpire_53 (by decide) (show Cond.classLink RX5 23 (Rof 4) ∈ lw_good by decide +kernel) (show Cond.instantiable (Rof 4) (nf 4) ∈ lw_good by decide +kernel) (show Cond.initialized (Rof 4) ∈ lw_good by decide +kernel) (Nat.le_of_ble_eq_true rfl) (Nat.le_of_ble_eq_true rfl) ?_
            refine G_dup_a dX5_umpire_56 ?_
            refine G_iload_n dX5_umpire_57 rfl ?_
            refine G_iload_n dX5_umpire_58 rfl ?_
            refine G_iload_n dX5_umpire_59 rfl ?_
            refine G_iload dX5_umpire_60 rfl ?_
            refine G_cIv dX5_umpire_62 (c_X4_init l (d + 0) nu _ _ _ (Nat.lt_succ_self _) nS_hi x y g b) mcX5_84 rfl rfl (by show _ ≤ d + 2; omega) rfl rfl (Nat.le_of_ble_eq_true rfl) (Nat.le_of_ble_eq_true rfl) ?_
            refine G_aast_3 (len := 20) dX5_umpire_65 ((uS_sh (by show 6 < 59 + 3 * nu + 1; omega)).trans ((nS_lo (by show 6 < 59 + 3 * nu; omega)).trans (by show shG nu 6 = _; unfold shG; rw [if_pos (by omega)]; rfl))) (by rw [uS_sh (Nat.lt_succ_self _)]; exact nS_hi) (by omega) (by omega) ?_
            rw [show upS (uS (nS (SG nu) (16 + 4) 0) (SG nu).fst) 6 (nu : Int) (some (SG nu).fst) = SG (nu + 1) from SG_succ nu]
            refine G_aload_n dX5_umpire_66 rfl ?_
            refine G_iload dX5_umpire_67 rfl ?_
            refine G_iconst (n := 1) dX5_umpire_69 ⟨by decide, by decide⟩ ?_
            refine G_iadd dX5_umpire_70 (iRm (by omega) (by omega)) ?_
            refine G_putI (jj := 6) dX5_umpire_71 flX5_73 rfl rfl rfl rfl ?_
            refine G_iload dX5_umpire_74 rfl ?_
            exact G_iret dX5_umpire_76 rfl rfl rfl (Or.inl ⟨hok, rfl, rfl, rfl⟩)
          · refine G_iconst (n := (-1)) dX5_umpire_39 ⟨by decide, by decide⟩ ?_
            exact G_iret dX5_umpire_40 rfl rfl rfl (Or.inr ⟨by omega, rfl, rfl, rfl⟩)
    · refine G_iconst (n := (-1)) dX5_umpire_17 ⟨by decide, by decide⟩ ?_
      exact G_iret dX5_umpire_18 rfl rfl rfl (Or.inr ⟨by omega, rfl, rfl, rfl⟩)
