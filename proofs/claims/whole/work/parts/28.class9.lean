theorem clubs_bd : ∀ a : Nat, a < 12 → ∀ b : Nat, b < 12 → 1 ≤ clubsI (a : Int) (b : Int) ∧ clubsI (a : Int) (b : Int) ≤ 4095 := by decide +kernel
theorem clubs_bd2 {a b : Int} (ha : 0 ≤ a ∧ a ≤ 11) (hb : 0 ≤ b ∧ b ≤ 11) : 1 ≤ clubsI a b ∧ clubsI a b ≤ 4095 := by
  have h := clubs_bd a.toNat (by omega) b.toNat (by omega)
  rw [show ((a.toNat : Nat) : Int) = a by omega, show ((b.toNat : Nat) : Int) = b by omega] at h
  exact h
theorem gV48 (z : VV) (x y a b l t : Int) : gameV z x y a b l 48 t = if t = 2 * z 27 34 ∨ t = 2 * z 27 34 + 1 then -1 else z 48 t := by
  unfold gameV gameW
  simp only [gmL, up_get]
  by_cases h1 : t = 2 * z 27 34 + 1
  · simp [h1]
  · by_cases h2 : t = 2 * z 27 34
    · simp [h2]
    · simp [h1, h2]
theorem gV49 (z : VV) (x y a b l t : Int) : gameV z x y a b l 49 t = if t = 2 * z 27 34 ∨ t = 2 * z 27 34 + 1 then 0 else z 49 t := by
  unfold gameV gameW
  simp only [gmL, up_get]
  by_cases h1 : t = 2 * z 27 34 + 1
  · simp [h1]
  · by_cases h2 : t = 2 * z 27 34
    · simp [h2]
    · simp [h1, h2]
theorem gVg (z : VV) (x y a b l t : Int) : (gameV z x y a b l 44 t = if t = z 27 34 then x else z 44 t) ∧ (gameV z x y a b l 45 t = if t = z 27 34 then y else z 45 t) ∧ (gameV z x y a b l 46 t = if t = z 27 34 then clubsI a b else z 46 t) ∧ (gameV z x y a b l 47 t = if t = z 27 34 then l else z 47 t) := by
  unfold gameV gameW
  simp only [gmL, up_get]
  by_cases h : t = z 27 34 <;> simp [h]
theorem INJ_game {z : VV} (hi : INJ z) (x y a b l : Int) : INJ (gameV z x y a b l) := by
  intro s t s0 s1 t0 t1 hab hn
  have s1 : s < 2 * (z 27 34 + 1) := s1
  have t1 : t < 2 * (z 27 34 + 1) := t1
  rw [gV48, gV48] at hab
  rw [gV48] at hn
  by_cases e1 : s = 2 * z 27 34 ∨ s = 2 * z 27 34 + 1
  · rw [if_pos e1] at hn; omega
  · rw [if_neg e1] at hab hn
    by_cases e2 : t = 2 * z 27 34 ∨ t = 2 * z 27 34 + 1
    · rw [if_pos e2] at hab; omega
    · rw [if_neg e2] at hab
      exact hi s t s0 (by omega) t0 (by omega) hab hn
theorem seat_game {z : VV} (hi : INJ z) (hg : 0 ≤ z 27 34) (x y a b l u : Int) (hu : 0 ≤ u) : seatOfS (gameV z x y a b l) u = seatOfS z u := by
  have hg2 : 0 ≤ gameV z x y a b l 27 34 := by show 0 ≤ z 27 34 + 1; omega
  rcases seatOf_spec (v := z) u hg with ⟨h3, h4⟩ | ⟨h3, h4, h5, h6⟩
  · rw [h3]
    refine seat_no hg2 (fun t t0 t1 => ?_)
    have t1 : t < 2 * (z 27 34 + 1) := t1
    rw [gV48]
    by_cases e : t = 2 * z 27 34 ∨ t = 2 * z 27 34 + 1
    · rw [if_pos e]; omega
    · rw [if_neg e]; exact h4 t t0 (by omega)
  · refine seat_at (INJ_game hi x y a b l) hg2 h3 ?_ (by omega) ?_
    · show _ < 2 * (z 27 34 + 1); omega
    · rw [gV48, if_neg (by omega)]; exact h5
theorem Simx_game {nu : Nat} {bb : Int} {v z : VV} (h : Simx nu bb v z) {x y a b l : Int} (h8 : z 27 34 < 8) (hx : 0 ≤ x ∧ x ≤ 99) (hy : 0 ≤ y ∧ y ≤ 99) (ha : 0 ≤ a ∧ a ≤ 11) (hb : 0 ≤ b ∧ b ≤ 11) (hl : 1 ≤ l ∧ l ≤ 4) : Simx nu bb (up (up (up (up (up v (8 + (z 27 34).toNat) 0 x) (8 + (z 27 34).toNat) 1 y) (8 + (z 27 34).toNat) 2 (clubsI a b)) (8 + (z 27 34).toNat) 3 l) 0 7 (z 27 34 + 1)) (gameV z x y a b l) := by
  obtain ⟨hM, hC, hU, hW, hX, hH, hR, hT, hK⟩ := h
  have hg := hM.2.1
  have hcl := clubs_bd2 ha hb
  have e34 : gameV z x y a b l 27 34 = z 27 34 + 1 := rfl
  generalize hgn : (z 27 34).toNat = gn
  have hgI : ((gn : Nat) : Int) = z 27 34 := by omega
  refine ⟨⟨hM.1, ?_, hM.2.2.1, hM.2.2.2.1, hM.2.2.2.2.1, ?_, ?_⟩, ?_, ?_, ?_, ?_, ⟨?_, ?_, INJ_game hH.2.2 x y a b l⟩, ?_, ?_, ?_⟩
  · rw [e34]; omega
  · intro g g0 g1
    rw [e34] at g1
    have q := gVg z x y a b l g
    rw [q.1, q.2.1, q.2.2.1, q.2.2.2]
    by_cases e : g = z 27 34
    · simp only [e, if_true]; exact ⟨hx, hy, hcl, hl⟩
    · simp only [e, if_false]; exact hM.2.2.2.2.2.1 g g0 (by omega)
  · intro s s0 s1
    rw [e34] at s1
    rw [gV48]
    by_cases e : s = 2 * z 27 34 ∨ s = 2 * z 27 34 + 1
    · rw [if_pos e]; omega
    · rw [if_neg e]; exact hM.2.2.2.2.2.2 s s0 (by omega)
  · unfold SC
    rw [up_nj (show (6 : Int) ≠ 7 by decide), up_self, up_nj (show (8 : Int) ≠ 7 by decide)]
    simp only [up_c (show 0 ≠ 8 + gn by omega)]
    exact ⟨hC.1, rfl, hC.2.2⟩
  · intro k hk
    simp only [up_c (show 59 + 3 * k ≠ 0 by omega), up_c (show 59 + 3 * k ≠ 8 + gn by omega)]
    exact hU k hk
  · intro k hk w w0 w1
    simp only [up_c (show 60 + 3 * k ≠ 0 by omega), up_c (show 60 + 3 * k ≠ 8 + gn by omega), up_c (show 61 + 3 * k ≠ 0 by omega), up_c (show 61 + 3 * k ≠ 8 + gn by omega)]
    exact hW k hk w w0 w1
  · intro g g1
    rw [e34] at g1
    have q := gVg z x y a b l g
    rw [q.1, q.2.1, q.2.2.1, q.2.2.2]
    simp only [up_c (show 8 + g ≠ 0 by omega)]
    by_cases e : g = gn
    · subst e
      have e2 : (g : Int) = z 27 34 := hgI
      simp [up_get, e2]
    · have e2 : ¬ ((g : Int) = z 27 34) := by omega
      simp only [up_c (show 8 + g ≠ 8 + gn by omega), e2, if_false]
      exact hX g (by omega)
  · intro t t0 t1
    simp only [up_c (show 16 ≠ 0 by omega), up_c (show 16 ≠ 8 + gn by omega)]
    rw [hH.1 t t0 t1, e34, gV48]
    by_cases e1 : t < 2 * z 27 34
    · rw [if_pos e1, if_pos (by omega), if_neg (by omega)]
    · rw [if_neg e1]
      by_cases e2 : t < 2 * (z 27 34 + 1)
      · rw [if_pos e2, if_pos (by omega)]
      · rw [if_neg e2]
  · intro k hk
    simp only [up_c (show 59 + 3 * k ≠ 0 by omega), up_c (show 59 + 3 * k ≠ 8 + gn by omega)]
    rw [seat_game hH.2.2 hg.1 x y a b l k (by omega)]
    exact hH.2.1 k hk
  · intro k k0 k1
    simp only [up_c (show 4 ≠ 0 by omega), up_c (show 4 ≠ 8 + gn by omega)]
    exact hR k k0 k1
  · unfold ST
    simp only [up_c (show 3 ≠ 0 by omega), up_c (show 3 ≠ 8 + gn by omega), up_c (show 1 ≠ 0 by omega), up_c (show 1 ≠ 8 + gn by omega), up_c (show 2 ≠ 0 by omega), up_c (show 2 ≠ 8 + gn by omega)]
    exact hT
  · have hgv : gvN (up (up (up (up (up v (8 + gn) 0 x) (8 + gn) 1 y) (8 + gn) 2 (clubsI a b)) (8 + gn) 3 l) 0 7 (z 27 34 + 1)) = gvN v := by
      unfold gvN
      rw [up_nj (show (9 : Int) ≠ 7 by decide)]
      simp only [up_c (show 0 ≠ 8 + gn by omega)]
    unfold SK
    rw [hgv, e34]
    refine ⟨fun s s0 s1 => ?_, fun i hi => hK.2.1 i (by omega), hK.2.2⟩
    rw [gV49]
    by_cases e : s = 2 * z 27 34 ∨ s = 2 * z 27 34 + 1
    · rw [if_pos e]
      refine ⟨by omega, fun c c0 c1 => ?_⟩
      rw [hK.2.1 (2 * s + c).toNat (by omega)]
      have h2 : c = 0 ∨ c = 1 := by omega
      rcases h2 with rfl | rfl <;> decide
    · rw [if_neg e]
      exact hK.1 s s0 (by omega)
set_option maxRecDepth 20000 in
set_option maxHeartbeats 1000000 in
theorem c_X5_game (l : Launch) (d nu : Nat) (v : VV) (z : VV) (hS : Sim nu v z) (x y a b g : Int) : Ct l yX5_game cX5_game (some .int) 7 (d + 1) 0 0 [ar (some 0), ai x, ai y, ai a, ai b, ai g] (SG nu) v (fun r S2 v2 => r = some (ai (if z 27 34 ≠ 8 ∧ (0 ≤ x ∧ x ≤ 99) ∧ (0 ≤ y ∧ y ≤ 99) ∧ (0 ≤ a ∧ a ≤ 11) ∧ (0 ≤ b ∧ b ≤ 11) ∧ a ≠ b ∧ (1 ≤ g ∧ g ≤ 4) then z 27 34 else -1)) ∧ S2 = SG nu ∧ Sim nu v2 (if z 27 34 ≠ 8 ∧ (0 ≤ x ∧ x ≤ 99) ∧ (0 ≤ y ∧ y ≤ 99) ∧ (0 ≤ a ∧ a ≤ 11) ∧ (0 ≤ b ∧ b ≤ 11) ∧ a ≠ b ∧ (1 ≤ g ∧ g ≤ 4) then gameV z x y a b g else z) ∧ KM v v2) := by
  refine Ct_of_G [some (ar (some 0)), some (ai x), some (ai y), some (ai a), some (ai b), some (ai g), none] (by decide) rfl rfl ?_
  have hMB : MB nu z := hS.1
  have hnn := hMB.1
  have hgm := hMB.2.1
  have hwk := hMB.2.2.1
  have hc6 := hS.2.1.1
  have hc7 := hS.2.1.2.1
  have hc8 := hS.2.1.2.2
  have hg0 : 0 ≤ v 0 7 ∧ v 0 7 ≤ 8 := by omega
  have hu0 : v 0 6 = nu ∧ nu ≤ 20 := ⟨hc6, hnn.1⟩
  refine G_aload_n dX5_game_0 rfl ?_
  refine G_getIv (z 27 34) (jj := 7) dX5_game_1 flX5_101 rfl rfl rfl hc7 ?_
  refine G_bipush (n := 8) dX5_game_4 (by decide) ⟨by decide, by decide⟩ ?_
  refine G_icmp_ge 25 dX5_game_6 (by decide) (fun h6 => ?_) (fun h6 => ?_)
  · refine G_iconst (n := (-1)) dX5_game_25 ⟨by decide, by decide⟩ ?_
    exact G_iret dX5_game_26 rfl rfl rfl ⟨by rw [if_neg (by omega)], rfl, by rw [if_neg (by omega)]; exact hS, KM.rf⟩
  · refine G_iload_n dX5_game_9 rfl ?_
    refine G_iload_n dX5_game_10 rfl ?_
    refine G_cSi dX5_game_11 (c_X5_isPlace l (d + 0) nu v x y) mcX5_77 rfl rfl (by show _ ≤ d + 1; omega) rfl rfl (Nat.le_refl _) (Nat.le_refl _) ?_
    refine G_if_eq 25 dX5_game_14 (by decide) (fun h14 => ?_) (fun h14 => ?_)
    · refine G_iconst (n := (-1)) dX5_game_25 ⟨by decide, by decide⟩ ?_
      exact G_iret dX5_game_26 rfl rfl rfl ⟨by rw [if_neg (by omega)], rfl, by rw [if_neg (by omega)]; exact hS, KM.rf⟩
    · refine G_iload dX5_game_17 rfl ?_
      refine G_cSi dX5_game_19 (c_X5_isGrade l (d + 0) nu v g) mcX5_81 rfl rfl (by show _ ≤ d + 1; omega) rfl rfl (Nat.le_refl _) (Nat.le_refl _) ?_
      refine G_if_ne 27 dX5_game_22 (by decide) (fun h22 => ?_) (fun h22 => ?_)
      · refine G_iload_n dX5_game_27 rfl ?_
        refine G_cSi dX5_game_28 (c_X5_isClub l (d + 0) nu v a) mcX5_104 rfl rfl (by show _ ≤ d + 1; omega) rfl rfl (Nat.le_refl _) (Nat.le_refl _) ?_
        refine G_if_eq 48 dX5_game_31 (by decide) (fun h31 => ?_) (fun h31 => ?_)
        · refine G_iconst (n := (-1)) dX5_game_48 ⟨by decide, by decide⟩ ?_
          exact G_iret dX5_game_49 rfl rfl rfl ⟨by rw [if_neg (by omega)], rfl, by rw [if_neg (by omega)]; exact hS, KM.rf⟩
        · refine G_iload dX5_game_34 rfl ?_
          refine G_cSi dX5_game_36 (c_X5_isClub l (d + 0) nu v b) mcX5_104 rfl rfl (by show _ ≤ d + 1; omega) rfl rfl (Nat.le_refl _) (Nat.le_refl _) ?_
          refine G_if_eq 48 dX5_game_39 (by decide) (fun h39 => ?_) (fun h39 => ?_)
          · refine G_iconst (n := (-1)) dX5_game_48 ⟨by decide, by decide⟩ ?_
            exact G_iret dX5_game_49 rfl rfl rfl ⟨by rw [if_neg (by omega)], rfl, by rw [if_neg (by omega)]; exact hS, KM.rf⟩
          · refine G_iload_n dX5_game_42 rfl ?_
            refine G_iload dX5_game_43 rfl ?_
            refine G_icmp_ne 50 dX5_game_45 (by decide) (fun h45 => ?_) (fun h45 => ?_)
            · have hok : z 27 34 ≠ 8 ∧ (0 ≤ x ∧ x ≤ 99) ∧ (0 ≤ y ∧ y ≤ 99) ∧ (0 ≤ a ∧ a ≤ 11) ∧ (0 ≤ b ∧ b ≤ 11) ∧ a ≠ b ∧ (1 ≤ g ∧ g ≤ 4) := by omega
              rw [if_pos hok, if_pos hok]
              have hg8 : (z 27 34).toNat < 8 := by omega
              refine G_aload_n dX5_game_50 rfl ?_
              refine G_getIv (z 27 34) (jj := 7) dX5_game_51 flX5_101 rfl rfl rfl hc7 ?_
              refine G_istore dX5_game_54 rfl rfl ?_
              refine G_aload_n dX5_game_56 rfl ?_
              refine G_getR (jj := 3) dX5_game_57 flX5_31 rfl rfl rfl ?_
              refine G_iload dX5_game_60 rfl ?_
              refine G_aaldv (some (8 + (z 27 34).toNat)) dX5_game_62 rfl (by omega) (by omega) (Or.inr ⟨rfl, rfl⟩) (rf_game (by omega) (by omega)) ?_
              refine G_iload_n dX5_game_63 rfl ?_
              refine G_iload_n dX5_game_64 rfl ?_
              refine G_iconst (n := 1) dX5_game_65 ⟨by decide, by decide⟩ ?_
              refine G_iload_n dX5_game_66 rfl ?_
              refine G_ishl (shlI 1 a) dX5_game_67 rfl ?_
              refine G_iconst (n := 1) dX5_game_68 ⟨by decide, by decide⟩ ?_
              refine G_iload dX5_game_69 rfl ?_
              refine G_ishl (shlI 1 b) dX5_game_71 rfl ?_
              refine G_ior (clubsI a b) dX5_game_72 rfl ?_
              refine G_iload dX5_game_73 rfl ?_
              refine G_cVv (ci := 0) dX5_game_75 (by rw [sh_game hg8]) (by decide) rfl (c_X0_set l (d + 0) nu v (z 27 34).toNat hg8 x y (clubsI a b) g) mcX5_107 rfl rfl (by show _ ≤ d + 1; omega) rfl rfl (Nat.le_refl _) (Nat.le_refl _) ?_
              refine G_aload_n dX5_game_78 rfl ?_
              refine G_iload dX5_game_79 rfl ?_
              refine G_iconst (n := 1) dX5_game_81 ⟨by decide, by decide⟩ ?_
              refine G_iadd dX5_game_82 (iRm (by omega) (by omega)) ?_
              refine G_putI (jj := 7) dX5_game_83 flX5_101 rfl rfl rfl rfl ?_
              refine G_iload dX5_game_86 rfl ?_
              exact G_iret dX5_game_88 rfl rfl rfl ⟨rfl, rfl, Simx_game hS (by omega) hok.2.1 hok.2.2.1 hok.2.2.2.1 hok.2.2.2.2.1 hok.2.2.2.2.2.2, fun k k1 k2 => by rw [up_ne (by omega), up_ne (by omega), up_ne (by omega), up_ne (by omega), up_ne (by omega)]⟩
            · refine G_iconst (n := (-1)) dX5_game_48 ⟨by decide, by decide⟩ ?_
              exact G_iret dX5_game_49 rfl rfl rfl ⟨by rw [if_neg (by omega)], rfl, by rw [if_neg (by omega)]; exact hS, KM.rf⟩
      · refine G_iconst (n := (-1)) dX5_game_25 ⟨by decide, by decide⟩ ?_
        exact G_iret dX5_game_26 rfl rfl rfl ⟨by rw [if_neg (by omega)], rfl, by rw [if_neg (by omega)]; exact hS, KM.rf⟩
