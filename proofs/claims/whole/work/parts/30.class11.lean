/-- alike but for who sits where -/
def A48 (x y : VV) : Prop := ∀ k, k ≠ 48 → x k = y k
theorem st1_agree {x y : VV} {s : Int} (h : A48 x y) (h2 : x 48 s = y 48 s) : A48 (st1 x s) (st1 y s) := by
  intro k hk
  have e42 := h 42 (by decide)
  have e41 := h 41 (by decide)
  have e46 := h 46 (by decide)
  have e27 := h 27 (by decide)
  unfold st1
  rw [h2, e46, e27, e41]
  split
  · exact h k hk
  · funext j
    simp only [up_get]
    rw [h k hk]
theorem st1_48 (x : VV) (s t : Int) : st1 x s 48 t = x 48 t := by
  unfold st1
  split
  · rfl
  · rfl
theorem stL_agree : ∀ (n : Nat) (s : Int) (x y : VV), A48 x y → (∀ t, s ≤ t → x 48 t = y 48 t) → A48 (stL n s x) (stL n s y) := by
  intro n
  induction n with
  | zero => intro s x y h _; exact h
  | succ n ih =>
    intro s x y h h2
    rw [stL, stL]
    exact ih (s + 1) _ _ (st1_agree h (h2 s (by omega))) (fun t ht => by rw [st1_48, st1_48]; exact h2 t (by omega))
theorem rg1_agree {x y : VV} {u : Int} (h : A48 x y) : A48 (rg1 x u) (rg1 y u) := by
  intro k hk
  have e29 := h 29 (by decide)
  have e36 := h 36 (by decide)
  have e38 := h 38 (by decide)
  have e39 := h 39 (by decide)
  have e40 := h 40 (by decide)
  have ek := h k hk
  unfold rg1
  rw [e29, e36, e38, e39, e40]
  split
  · exact ek
  · split
    · funext j
      rw [clr_get, clr_get, up_get, up_get, ek]
    · split
      · funext j
        rw [clr_get, clr_get, up_get, up_get, ek]
      · exact ek
theorem rgL_agree : ∀ (n : Nat) (u : Int) (x y : VV), A48 x y → A48 (rgL n u x) (rgL n u y) := by
  intro n
  induction n with
  | zero => intro u x y h; exact h
  | succ n ih => intro u x y h; rw [rgL, rgL]; exact ih _ _ _ (rg1_agree h)
theorem rg1_keep (z : VV) (u : Int) {k : Nat} (h : k ≠ 36 ∧ k ≠ 38 ∧ k ≠ 39 ∧ k ≠ 40) : rg1 z u k = z k := by
  unfold rg1
  split
  · rfl
  · split
    · funext j; rw [clr_get, up_get, if_neg (by omega), if_neg (by omega)]
    · split
      · funext j; rw [clr_get, up_get, if_neg (by omega), if_neg (by omega)]
      · rfl
theorem RGok_rg1 {nu : Nat} {t : Int} {z : VV} {u : Int} (ht : 0 ≤ t) (h : RGok nu t z) (hu : 0 ≤ u ∧ u < nu) : RGok nu t (rg1 z u) := by
  have a := (h u hu.1 hu.2).1
  unfold rg1
  split
  · exact h
  · split
    · exact RGok_step ht h (by omega)
    · split
      · exact RGok_step ht h (by omega)
      · exact h
theorem Sim_end {nu : Nat} {v z y : VV} (W : Int) (hW9 : 0 ≤ W ∧ W < 99) (h : Simx nu (W + 1) v z) (hc : ∀ s, 0 ≤ s → s < 2 * z 27 34 → z 48 s = -1) (hy : A48 y (up (up (up z 27 34 0) 27 36 0) 27 35 (W + 1))) : Sim nu (up (up (up v 0 7 0) 0 9 0) 0 8 (W + 1)) y := by
  obtain ⟨hM, hC, hU, hW, hX, hH, hR, hT, hK⟩ := h
  have y27 := hy 27 (by decide)
  have e34 : y 27 34 = 0 := by rw [y27]; rfl
  have e35 : y 27 35 = W + 1 := by rw [y27]; rfl
  have e33 : y 27 33 = z 27 33 := by rw [y27]; rfl
  have e36 : y 27 36 = 0 := by rw [y27]; rfl
  have e2 : y 27 2 = z 27 2 := by rw [y27]; rfl
  have e13 : y 27 13 = z 27 13 := by rw [y27]; rfl
  have ek : ∀ k, k ≠ 48 → k ≠ 27 → y k = z k := fun k k1 k2 => by rw [hy k k1, up_ne k2, up_ne k2, up_ne k2]
  have hsn : ∀ n : Int, seatOfS y n = -1 := fun n => by unfold seatOfS; rw [e34]; rfl
  refine ⟨⟨by rw [e33]; exact hM.1, by rw [e34]; omega, by rw [e35]; omega, ?_, ?_, fun g g0 g1 => by rw [e34] at g1; omega, fun s s0 s1 => by rw [e34] at s1; omega⟩, ?_, ?_, ?_, fun g g1 => by rw [e34] at g1; omega, ⟨?_, ?_, fun s t s0 s1 => by rw [e34] at s1; omega⟩, ?_, ?_, ?_⟩
  · unfold RB; rw [ek 29 (by decide) (by decide)]; exact hM.2.2.2.1
  · intro u u0 u1
    rw [ek 34 (by decide) (by decide), ek 35 (by decide) (by decide), ek 36 (by decide) (by decide), ek 37 (by decide) (by decide), ek 41 (by decide) (by decide), e35]
    exact hM.2.2.2.2.1 u u0 u1
  · unfold SC
    rw [e34, e35]
    refine ⟨?_, ?_, ?_⟩
    · rw [up_nj (by decide), up_nj (by decide), up_nj (by decide)]; exact hC.1
    · rw [up_nj (by decide), up_nj (by decide), up_self]
    · rw [up_self]
  · intro k hk
    simp only [up_c (show 59 + 3 * k ≠ 0 by omega)]
    rw [ek 34 (by decide) (by decide), ek 35 (by decide) (by decide), ek 36 (by decide) (by decide), ek 37 (by decide) (by decide), ek 38 (by decide) (by decide), ek 39 (by decide) (by decide), ek 40 (by decide) (by decide), ek 41 (by decide) (by decide)]
    exact hU k hk
  · intro k hk w w0 w1
    simp only [up_c (show 60 + 3 * k ≠ 0 by omega), up_c (show 61 + 3 * k ≠ 0 by omega)]
    rw [ek 42 (by decide) (by decide), ek 43 (by decide) (by decide)]
    exact hW k hk w w0 w1
  · intro t t0 t1
    rw [up_c (by omega), up_c (by omega), up_c (by omega), e34, if_neg (by omega), hH.1 t t0 t1]
    split
    · rename_i q; exact hc t t0 q
    · rfl
  · intro k hk
    rw [up_c (by omega), up_c (by omega), up_c (by omega), hsn, hH.2.1 k hk]
    exact seat_no hM.2.1.1 (fun s s0 s1 => by rw [hc s s0 s1]; omega)
  · intro k k0 k1
    rw [up_c (by omega), up_c (by omega), up_c (by omega), ek 29 (by decide) (by decide)]
    exact hR k k0 k1
  · unfold ST
    simp only [up_c (show 3 ≠ 0 by omega), up_c (show 1 ≠ 0 by omega), up_c (show 2 ≠ 0 by omega)]
    rw [e13, e2, ek 28 (by decide) (by decide)]
    exact hT
  · have hgv : gvN (up (up (up v 0 7 0) 0 9 0) 0 8 (W + 1)) = 0 := by
      unfold gvN
      rw [up_nj (by decide), up_self]
      rfl
    unfold SK
    rw [hgv, e34, e36, bitct_0]
    exact ⟨fun s s0 s1 => by omega, fun i _ => Nat.zero_testBit i, rfl⟩
set_option maxRecDepth 20000 in
set_option maxHeartbeats 1000000 in
theorem c_X5_next (l : Launch) (d nu : Nat) (v : VV) (z : VV) (hS : Sim nu v z) (t : Int) (hcb : CB nu t z) : Ct l yX5_next cX5_next (some .int) 2 (d + 5) 0 0 [ar (some 0)] (SG nu) v (fun r S2 v2 => r = some (ai (if z 27 35 = 99 then -1 else z 27 35 + 1)) ∧ S2 = SG nu ∧ Sim nu v2 (if z 27 35 = 99 then z else nextV z nu) ∧ KM v v2) := by
  refine Ct_of_G [some (ar (some 0)), none] (by decide) rfl rfl ?_
  have hMB : MB nu z := hS.1
  have hnn := hMB.1
  have hgm := hMB.2.1
  have hwk := hMB.2.2.1
  have hc6 := hS.2.1.1
  have hc7 := hS.2.1.2.1
  have hc8 := hS.2.1.2.2
  have hg0 : 0 ≤ v 0 7 ∧ v 0 7 ≤ 8 := by omega
  have hu0 : v 0 6 = nu ∧ nu ≤ 20 := ⟨hc6, hnn.1⟩
  have ht := hcb.1
  have hI := hS.2.2.2.2.2.1.2.2
  have loop2 : ∀ (N : Nat) (u : Int) (x y : VV), 0 ≤ u → u + N = nu → z 27 35 < 99 → Simx nu (z 27 35 + 1) x y → RGok nu t y → y 27 = z 27 → (∀ s, 0 ≤ s → s < 2 * z 27 34 → y 48 s = -1) → A48 (rgL N u y) (rgL nu 0 (stL (2 * z 27 34).toNat 0 z)) → KP v x → G l (yX5_next, cX5_next, (some .int), 2, (d + 5), 0, 0, none) (fun r S2 v2 => r = some (ai (z 27 35 + 1)) ∧ S2 = SG nu ∧ Sim nu v2 (nextV z nu) ∧ KM v v2) 0 0 (SG nu) 36 [some (ar (some 0)), some (ai u)] [] x := by
    intro N
    induction N using Nat.strongRecOn with
    | ind N ih =>
    intro u x y h0 h1 h99 hSx hrg hy27 hy48 hag hkp
    refine G_iload_n dX5_next_36 rfl ?_
    refine G_aload_n dX5_next_37 rfl ?_
    refine G_getIv ((nu : Int)) (jj := 6) dX5_next_38 flX5_73 rfl rfl rfl hSx.2.1.1 ?_
    refine G_icmp_ge 59 dX5_next_41 (by decide) (fun h41 => ?_) (fun h41 => ?_)
    · obtain rfl : N = 0 := by omega
      refine G_aload_n dX5_next_59 rfl ?_
      refine G_iconst (n := 0) dX5_next_60 ⟨by decide, by decide⟩ ?_
      refine G_putI (jj := 7) dX5_next_61 flX5_101 rfl rfl rfl rfl ?_
      refine G_aload_n dX5_next_64 rfl ?_
      refine G_iconst (n := 0) dX5_next_65 ⟨by decide, by decide⟩ ?_
      refine G_putI (jj := 9) dX5_next_66 flX5_118 rfl rfl rfl rfl ?_
      refine G_aload_n dX5_next_69 rfl ?_
      refine G_dup_a dX5_next_70 ?_
      refine G_getIv (z 27 35) (jj := 8) dX5_next_71 flX5_91 rfl rfl rfl (by simp [up_get, hSx.2.1.2.2, hy27]) ?_
      refine G_iconst (n := 1) dX5_next_74 ⟨by decide, by decide⟩ ?_
      refine G_iadd dX5_next_75 (iRm (by omega) (by omega)) ?_
      refine G_putI (jj := 8) dX5_next_76 flX5_91 rfl rfl rfl rfl ?_
      refine G_aload_n dX5_next_79 rfl ?_
      refine G_getIv (z 27 35 + 1) (jj := 8) dX5_next_80 flX5_91 rfl rfl rfl (up_self _ _ _ _) ?_
      exact G_iret dX5_next_83 rfl rfl rfl ⟨rfl, rfl, Sim_end (z 27 35) (by omega) hSx (fun s s0 s1 => hy48 s s0 (by rw [hy27] at s1; exact s1)) (fun k k1 => by unfold nextV; rw [rgL] at hag; by_cases e : k = 27; subst e; funext j; simp only [up_get]; rw [hag 27 (by decide)]; rw [up_ne e, up_ne e, up_ne e, up_ne e, up_ne e, up_ne e]; exact (hag k k1).symm), fun k k1 k2 => by rw [up_ne (by omega), up_ne (by omega), up_ne (by omega)]; exact hkp k k2 (by omega)⟩
    · obtain ⟨N, rfl⟩ : ∃ k, N = k + 1 := ⟨N - 1, by omega⟩
      have hn : u.toNat < nu := by omega
      have hun : ((u.toNat : Nat) : Int) = u := by omega
      refine G_aload_n dX5_next_44 rfl ?_
      refine G_aload_n dX5_next_45 rfl ?_
      refine G_iload_n dX5_next_46 rfl ?_
      refine G_cVa (ci := 5) dX5_next_47 rfl (by decide) rfl ((by have q := c_X5_umpireAt l (d + 4) nu x ⟨hSx.2.1.1, hnn.1⟩ u; rwa [if_pos (show 0 ≤ u ∧ u < nu by omega)] at q)) mcX5_87 rfl rfl (by show _ ≤ d + 5; omega) rfl rfl (Nat.le_refl _) (Nat.le_refl _) ?_
      refine G_cVq (ci := 5) dX5_next_50 rfl (by decide) rfl (c_X5_regrade l (d + 2) nu x (z 27 35 + 1) t y hSx u.toNat hn ht hrg) mcX5_162 rfl rfl (by show _ ≤ d + 5; omega) rfl rfl (Nat.le_refl _) (Nat.le_refl _) (fun r S2 v2 hq9 => ?_)
      obtain ⟨rfl, rfl, hS1, hk1⟩ := hq9
      rw [hun] at hS1
      refine G_iinc dX5_next_53 rfl (iRm (by omega) (by omega)) rfl rfl ?_
      refine G_goto 36 dX5_next_56 (by decide) ?_
      exact ih N (by omega) (u + 1) _ _ (by omega) (by omega) h99 hS1 (RGok_rg1 (by omega) hrg (by omega)) ((rg1_keep y u (by decide)).trans hy27) (fun s s0 s1 => by rw [rg1_keep y u (by decide)]; exact hy48 s s0 s1) hag (hkp.tr hk1)
  have loop1 : ∀ (N : Nat) (s : Int) (x y : VV), 0 ≤ s → s + N = 2 * z 27 34 → z 27 35 < 99 → Simx nu (z 27 35 + 1) x y → (∀ k, k ≠ 41 → k ≠ 42 → k ≠ 48 → y k = z k) → (∀ q, s ≤ q → y 48 q = z 48 q) → (∀ q, 0 ≤ q → q < s → y 48 q = -1) → (∀ u : Int, 0 ≤ u → u < nu → y 41 u ≤ z 27 35 ∨ ∃ q, 0 ≤ q ∧ q < s ∧ z 48 q = u) → A48 (stL N s y) (stL (2 * z 27 34).toNat 0 z) → KP v x → G l (yX5_next, cX5_next, (some .int), 2, (d + 5), 0, 0, none) (fun r S2 v2 => r = some (ai (z 27 35 + 1)) ∧ S2 = SG nu ∧ Sim nu v2 (nextV z nu) ∧ KM v v2) 0 0 (SG nu) 13 [some (ar (some 0)), some (ai s)] [] x := by
    intro N
    induction N using Nat.strongRecOn with
    | ind N ih =>
    intro s x y h0 h1 h99 hSx hoff hge hlt h41 hag hkp
    have y27 := hoff 27 (by decide) (by decide) (by decide)
    have hx7 : x 0 7 = z 27 34 := by rw [hSx.2.1.2.1, y27]
    refine G_iload_n dX5_next_13 rfl ?_
    refine G_iconst (n := 2) dX5_next_14 ⟨by decide, by decide⟩ ?_
    refine G_aload_n dX5_next_15 rfl ?_
    refine G_getIv (z 27 34) (jj := 7) dX5_next_16 flX5_101 rfl rfl rfl hx7 ?_
    refine G_imul dX5_next_19 (iRm (by omega) (by omega)) ?_
    refine G_icmp_ge 34 dX5_next_20 (by decide) (fun h20 => ?_) (fun h20 => ?_)
    · obtain rfl : N = 0 := by omega
      refine G_iconst (n := 0) dX5_next_34 ⟨by decide, by decide⟩ ?_
      refine G_istore_n dX5_next_35 rfl rfl ?_
      exact loop2 nu 0 x y (by omega) (by omega) h99 hSx (fun u u0 u1 => by rw [hoff 36 (by decide) (by decide) (by decide), hoff 38 (by decide) (by decide) (by decide), hoff 39 (by decide) (by decide) (by decide), hoff 40 (by decide) (by decide) (by decide)]; have a := hMB.2.2.2.2.1 u u0 u1; have b := hcb.2.2 u u0 u1; exact ⟨a.2.2.1, b⟩) y27 (fun q q1 q2 => hlt q q1 (by omega)) (rgL_agree nu 0 _ _ hag) hkp
    · obtain ⟨N, rfl⟩ : ∃ k, N = k + 1 := ⟨N - 1, by omega⟩
      have hsy : 0 ≤ s ∧ s < 2 * y 27 34 := by rw [y27]; omega
      have hst : y 48 s ≠ -1 → y 41 (y 48 s) + 1 ≤ z 27 35 + 1 := by
        intro hw
        rw [hge s (by omega)] at hw ⊢
        have b1 := hMB.2.2.2.2.2.2 s h0 (by omega)
        rcases h41 (z 48 s) (by omega) (by omega) with q | ⟨q, q1, q2, q3⟩
        · omega
        · have := hI q s q1 (by omega) h0 (by omega) q3 (by rw [q3]; exact hw)
          omega
      refine G_aload_n dX5_next_23 rfl ?_
      refine G_iload_n dX5_next_24 rfl ?_
      refine G_cVq (ci := 5) dX5_next_25 rfl (by decide) rfl (c_X5_endSeat l (d + 0) nu x (z 27 35 + 1) (by omega) y hSx s hsy hst) mcX5_159 rfl rfl (by show _ ≤ d + 5; omega) rfl rfl (Nat.le_refl _) (Nat.le_refl _) (fun r S2 v2 hq9 => ?_)
      obtain ⟨rfl, rfl, hS1, hk1⟩ := hq9
      refine G_iinc dX5_next_28 rfl (iRm (by omega) (by omega)) rfl rfl ?_
      refine G_goto 13 dX5_next_31 (by decide) ?_
      refine ih N (by omega) (s + 1) _ _ (by omega) (by omega) h99 hS1 (fun k k1 k2 k3 => ?_) (fun q q1 => ?_) (fun q q1 q2 => ?_) (fun u u0 u1 => ?_) ?_ (hkp.tr hk1)
      · unfold es1 st1
        rw [up_ne k3]
        split
        · exact hoff k k1 k2 k3
        · rw [up_ne k1, up_ne k2]; exact hoff k k1 k2 k3
      · unfold es1; rw [up_nj (by omega), st1_48]; exact hge q (by omega)
      · unfold es1
        by_cases e : q = s
        · rw [e, up_self]
        · rw [up_nj e, st1_48]; exact hlt q q1 (by omega)
      · unfold es1 st1
        rw [up_ne (show 41 ≠ 48 by decide)]
        split
        · rcases h41 u u0 u1 with q | ⟨q, q1, q2, q3⟩
          · exact Or.inl q
          · exact Or.inr ⟨q, q1, by omega, q3⟩
        · by_cases e : u = y 48 s
          · exact Or.inr ⟨s, h0, by omega, by rw [e]; exact (hge s (by omega)).symm⟩
          · rw [up_nj e, up_ne (show 41 ≠ 42 by decide)]
            rcases h41 u u0 u1 with q | ⟨q, q1, q2, q3⟩
            · exact Or.inl q
            · exact Or.inr ⟨q, q1, by omega, q3⟩
      · intro k hk
        rw [← hag k hk]
        exact stL_agree N (s + 1) (es1 y s) (st1 y s) (fun j hj => up_ne hj) (fun q q1 => up_nj (by omega)) k hk
  refine G_aload_n dX5_next_0 rfl ?_
  refine G_getIv (z 27 35) (jj := 8) dX5_next_1 flX5_91 rfl rfl rfl hc8 ?_
  refine G_bipush (n := 99) dX5_next_4 (by decide) ⟨by decide, by decide⟩ ?_
  refine G_icmp_lt 11 dX5_next_6 (by decide) (fun h6 => ?_) (fun h6 => ?_)
  · refine G_iconst (n := 0) dX5_next_11 ⟨by decide, by decide⟩ ?_
    refine G_istore_n dX5_next_12 rfl rfl ?_
    rw [if_neg (by omega), if_neg (by omega)]
    exact loop1 (2 * z 27 34).toNat 0 v z (by omega) (by omega) (by omega) (show Simx nu (z 27 35 + 1) v z from ⟨⟨hMB.1, hMB.2.1, hMB.2.2.1, hMB.2.2.2.1, fun u u0 u1 => by have a := hMB.2.2.2.2.1 u u0 u1; exact ⟨a.1, a.2.1, a.2.2.1, a.2.2.2.1, by omega⟩, hMB.2.2.2.2.2.1, hMB.2.2.2.2.2.2⟩, hS.2⟩) (fun _ _ _ _ => rfl) (fun _ _ => rfl) (fun q q1 q2 => by omega) (fun u u0 u1 => Or.inl (hMB.2.2.2.2.1 u u0 u1).2.2.2.2.2) (fun _ _ => rfl) KP.rf
  · refine G_iconst (n := (-1)) dX5_next_9 ⟨by decide, by decide⟩ ?_
    exact G_iret dX5_next_10 rfl rfl rfl ⟨by rw [if_pos (by omega)], rfl, by rw [if_pos (by omega)]; exact hS, KM.rf⟩
