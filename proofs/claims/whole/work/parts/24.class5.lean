def KP (v v2 : VV) : Prop := ∀ k, k < 59 → k ≠ 16 → v2 k = v k
theorem KP.tr {a b c : VV} (h : KP a b) (h2 : KP b c) : KP a c := fun k k1 k2 => (h2 k k1 k2).trans (h k k1 k2)
theorem KP.rf {a : VV} : KP a a := fun _ _ _ => rfl
set_option maxRecDepth 20000 in
set_option maxHeartbeats 1000000 in
theorem c_X5_clearSeat (l : Launch) (d nu : Nat) (v : VV) (b : Int) (z : VV) (hS : Simx nu b v z) (s : Int) (hs : 0 ≤ s ∧ s < 2 * z 27 34) : Ct l yX5_clearSeat cX5_clearSeat none 3 (d + 2) 0 0 [ar (some 0), ai s] (SG nu) v (fun r S2 v2 => r = none ∧ S2 = SG nu ∧ Simx nu b v2 (up z 48 s (-1)) ∧ KP v v2) := by
  refine Ct_of_G [some (ar (some 0)), some (ai s), none] (by decide) rfl rfl ?_
  have hMB : MBx nu b z := hS.1
  have hnn := hMB.1
  have hgm := hMB.2.1
  have hwk := hMB.2.2.1
  have hc6 := hS.2.1.1
  have hc7 := hS.2.1.2.1
  have hc8 := hS.2.1.2.2
  have hg0 : 0 ≤ v 0 7 ∧ v 0 7 ≤ 8 := by omega
  have hu0 : v 0 6 = nu ∧ nu ≤ 20 := ⟨hc6, hnn.1⟩
  refine G_aload_n dX5_clearSeat_0 rfl ?_
  refine G_iload_n dX5_clearSeat_1 rfl ?_
  refine G_cVa (ci := 5) dX5_clearSeat_2 rfl (by decide) rfl (c_X5_holderOf l (d + 0) nu v hu0 hg0 s) mcX5_153 rfl rfl (by show _ ≤ d + 2; omega) rfl rfl (Nat.le_refl _) (Nat.le_refl _) ?_
  by_cases hw : z 48 s = -1
  · rw [(hold_none hS hs.1 hs.2 hw).2]
    have e9 : up z 48 s (-1) = z := by rw [← hw]; exact up_id z 48 s
    rw [e9]
    refine G_astore_n dX5_clearSeat_5 rfl rfl ?_
    refine G_aload_n dX5_clearSeat_6 rfl ?_
    refine G_ifnullN 22 dX5_clearSeat_7 (by decide) ?_
    exact G_vret dX5_clearSeat_22 rfl rfl rfl ⟨rfl, rfl, hS, KP.rf⟩
  · obtain ⟨hx1, hx2, hx3⟩ := hold_some hS hs.1 hs.2 hw
    rw [hx3]
    have hn : (z 48 s).toNat < nu := by omega
    refine G_astore_n dX5_clearSeat_5 rfl rfl ?_
    refine G_aload_n dX5_clearSeat_6 rfl ?_
    refine G_ifnullS dX5_clearSeat_7 ?_
    refine G_aload_n dX5_clearSeat_10 rfl ?_
    refine G_iconst (n := (-1)) dX5_clearSeat_11 ⟨by decide, by decide⟩ ?_
    refine G_putI (jj := 4) dX5_clearSeat_12 flX5_94 rfl rfl (by rw [sh_ump hn]) rfl ?_
    refine G_aload_n dX5_clearSeat_15 rfl ?_
    refine G_getR (jj := 4) dX5_clearSeat_16 flX5_36 rfl rfl rfl ?_
    refine G_iload_n dX5_clearSeat_19 rfl ?_
    refine G_iconst (n := (-1)) dX5_clearSeat_20 ⟨by decide, by decide⟩ ?_
    refine G_iast dX5_clearSeat_21 rfl (by omega) (by omega) ?_
    exact G_vret dX5_clearSeat_22 rfl rfl rfl ⟨rfl, rfl, Simx_clear hS hs.1 hs.2 hn (by omega), fun k k1 k2 => by rw [up_ne k2, up_ne (by omega)]⟩
set_option maxRecDepth 20000 in
set_option maxHeartbeats 1000000 in
theorem c_X5_fillSeat (l : Launch) (d nu : Nat) (v : VV) (b : Int) (z : VV) (hS : Simx nu b v z) (s u : Int) (hs : 0 ≤ s ∧ s < 2 * z 27 34) (hw : z 48 s = -1) (hu : u = -1 ∨ ((0 ≤ u ∧ u < nu) ∧ seatOfS z u = -1)) : Ct l yX5_fillSeat cX5_fillSeat none 4 (d + 1) 0 0 [ar (some 0), ai s, ai u] (SG nu) v (fun r S2 v2 => r = none ∧ S2 = SG nu ∧ Simx nu b v2 (up z 48 s u) ∧ KP v v2) := by
  refine Ct_of_G [some (ar (some 0)), some (ai s), some (ai u), none] (by decide) rfl rfl ?_
  have hMB : MBx nu b z := hS.1
  have hnn := hMB.1
  have hgm := hMB.2.1
  have hwk := hMB.2.2.1
  have hc6 := hS.2.1.1
  have hc7 := hS.2.1.2.1
  have hc8 := hS.2.1.2.2
  have hg0 : 0 ≤ v 0 7 ∧ v 0 7 ≤ 8 := by omega
  have hu0 : v 0 6 = nu ∧ nu ≤ 20 := ⟨hc6, hnn.1⟩
  refine G_aload_n dX5_fillSeat_0 rfl ?_
  refine G_iload_n dX5_fillSeat_1 rfl ?_
  refine G_cVa (ci := 5) dX5_fillSeat_2 rfl (by decide) rfl (c_X5_umpireAt l (d + 0) nu v hu0 u) mcX5_87 rfl rfl (by show _ ≤ d + 1; omega) rfl rfl (Nat.le_refl _) (Nat.le_refl _) ?_
  by_cases hu1 : u = -1
  · rw [if_neg (by omega)]
    have e9 : up z 48 s u = z := by rw [hu1, ← hw]; exact up_id z 48 s
    rw [e9]
    refine G_astore_n dX5_fillSeat_5 rfl rfl ?_
    refine G_aload_n dX5_fillSeat_6 rfl ?_
    refine G_ifnullN 30 dX5_fillSeat_7 (by decide) ?_
    exact G_vret dX5_fillSeat_30 rfl rfl rfl ⟨rfl, rfl, hS, KP.rf⟩
  · rw [if_pos (by omega)]
    have hn : u.toNat < nu := by omega
    have hu2 : ((u.toNat : Nat) : Int) = u := by omega
    have hu3 : seatOfS z u = -1 := by rcases hu with q | q; exact absurd q hu1; exact q.2
    refine G_astore_n dX5_fillSeat_5 rfl rfl ?_
    refine G_aload_n dX5_fillSeat_6 rfl ?_
    refine G_ifnullS dX5_fillSeat_7 ?_
    refine G_aload_n dX5_fillSeat_10 rfl ?_
    refine G_iload_n dX5_fillSeat_11 rfl ?_
    refine G_cVi (ci := 5) dX5_fillSeat_12 rfl (by decide) rfl (c_X5_isSeat l (d + 0) nu v hg0 s) mcX5_150 rfl rfl (by show _ ≤ d + 1; omega) rfl rfl (Nat.le_refl _) (Nat.le_refl _) ?_
    refine G_if_eq 30 dX5_fillSeat_15 (by decide) (fun h15 => by omega) (fun h15 => ?_)
    refine G_aload_n dX5_fillSeat_18 rfl ?_
    refine G_iload_n dX5_fillSeat_19 rfl ?_
    refine G_putI (jj := 4) dX5_fillSeat_20 flX5_94 rfl rfl (by rw [sh_ump hn]) rfl ?_
    refine G_aload_n dX5_fillSeat_23 rfl ?_
    refine G_getR (jj := 4) dX5_fillSeat_24 flX5_36 rfl rfl rfl ?_
    refine G_iload_n dX5_fillSeat_27 rfl ?_
    refine G_iload_n dX5_fillSeat_28 rfl ?_
    refine G_iast dX5_fillSeat_29 rfl (by omega) (by omega) ?_
    exact G_vret dX5_fillSeat_30 rfl rfl rfl ⟨rfl, rfl, by have q := Simx_fill hS hs.1 hs.2 hn hw (by rw [hu2]; exact hu3); rw [hu2] at q; exact q, fun k k1 k2 => by rw [up_ne k2, up_ne (by omega)]⟩
set_option maxRecDepth 20000 in
set_option maxHeartbeats 1000000 in
theorem c_X5_cheapestFree (l : Launch) (d nu : Nat) (v : VV) (z : VV) (hS : Sim nu v z) (s : Int) (hs : 0 ≤ s ∧ s < 2 * z 27 34) : Ct l yX5_cheapestFree cX5_cheapestFree (some .int) 7 (d + 4) 0 0 [ar (some 0), ai s] (SG nu) v (rE (SG nu) (spU z s nu) v) := by
  refine Ct_of_G [some (ar (some 0)), some (ai s), none, none, none, none, none] (by decide) rfl rfl ?_
  have hMB : MB nu z := hS.1
  have hnn := hMB.1
  have hgm := hMB.2.1
  have hwk := hMB.2.2.1
  have hc6 := hS.2.1.1
  have hc7 := hS.2.1.2.1
  have hc8 := hS.2.1.2.2
  have hg0 : 0 ≤ v 0 7 ∧ v 0 7 ≤ 8 := by omega
  have hu0 : v 0 6 = nu ∧ nu ≤ 20 := ⟨hc6, hnn.1⟩
  have loop : ∀ (N : Nat) (b c u : Int) (Z5 Z6 : Option AV), 0 ≤ u → u + N = nu → -1 ≤ b ∧ b < nu → spU z s u b → (b ≠ -1 → c = costS z b s) → G l (yX5_cheapestFree, cX5_cheapestFree, (some .int), 7, (d + 4), 0, 0, none) (rE (SG nu) (spU z s nu) v) 0 0 (SG nu) 7 [some (ar (some 0)), some (ai s), some (ai b), some (ai c), some (ai u), Z5, Z6] [] v := by
    intro N
    induction N using Nat.strongRecOn with
    | ind N ih =>
    intro b c u Z5 Z6 h0 h1 h2 hq hl
    refine G_iload dX5_cheapestFree_7 rfl ?_
    refine G_aload_n dX5_cheapestFree_9 rfl ?_
    refine G_getI (jj := 6) dX5_cheapestFree_10 flX5_73 rfl rfl rfl ?_
    refine G_icmp_ge 80 dX5_cheapestFree_13 (by decide) (fun h13 => ?_) (fun h13 => ?_)
    · obtain rfl : u = nu := by omega
      refine G_iload_n dX5_cheapestFree_80 rfl ?_
      exact G_iret dX5_cheapestFree_81 rfl rfl rfl ⟨b, rfl, hq, rfl, rfl⟩
    · have hn : u.toNat < nu := by omega
      have hun : ((u.toNat : Nat) : Int) = u := by omega
      have hpl := hS.2.2.2.2.2.1.2.1 u.toNat hn
      rw [hun] at hpl
      refine G_aload_n dX5_cheapestFree_16 rfl ?_
      refine G_iload dX5_cheapestFree_17 rfl ?_
      refine G_cVa (ci := 5) dX5_cheapestFree_19 rfl (by decide) rfl ((by have q := c_X5_umpireAt l (d + 3) nu v hu0 u; rwa [if_pos (show 0 ≤ u ∧ u < nu by omega)] at q)) mcX5_87 rfl rfl (by show _ ≤ d + 4; omega) rfl rfl (Nat.le_refl _) (Nat.le_refl _) ?_
      refine G_astore dX5_cheapestFree_22 rfl rfl ?_
      refine G_aload dX5_cheapestFree_24 rfl ?_
      refine G_ifnullS dX5_cheapestFree_26 ?_
      refine G_aload dX5_cheapestFree_29 rfl ?_
      refine G_getIv (seatOfS z u) (jj := 4) dX5_cheapestFree_31 flX5_94 rfl (by rw [sh_ump hn]) rfl hpl ?_
      refine G_iconst (n := (-1)) dX5_cheapestFree_34 ⟨by decide, by decide⟩ ?_
      refine G_icmp_ne 74 dX5_cheapestFree_35 (by decide) (fun h35 => ?_) (fun h35 => ?_)
      · refine G_iinc dX5_cheapestFree_74 rfl (iRm (by omega) (by omega)) rfl rfl ?_
        refine G_goto 7 dX5_cheapestFree_77 (by decide) ?_
        exact ih (N - 1) (by omega) _ _ (u + 1) _ _ (by omega) (by omega) (by omega) (spU_no hq (fun y => h35 y.1)) hl
      · refine G_aload_n dX5_cheapestFree_38 rfl ?_
        refine G_aload dX5_cheapestFree_39 rfl ?_
        refine G_iload_n dX5_cheapestFree_41 rfl ?_
        refine G_cVi (ci := 5) dX5_cheapestFree_42 rfl (by decide) rfl (c_X5_fits l (d + 0) nu v z hS u.toNat hn s hs) mcX5_110 rfl rfl (by show _ ≤ d + 4; omega) rfl rfl (Nat.le_refl _) (Nat.le_refl _) ?_
        refine G_if_eq 74 dX5_cheapestFree_45 (by decide) (fun h45 => ?_) (fun h45 => ?_)
        · refine G_iinc dX5_cheapestFree_74 rfl (iRm (by omega) (by omega)) rfl rfl ?_
          refine G_goto 7 dX5_cheapestFree_77 (by decide) ?_
          exact ih (N - 1) (by omega) _ _ (u + 1) _ _ (by omega) (by omega) (by omega) (spU_no hq (fun y => bP_0.mp h45 (hun ▸ y.2))) hl
        · have hm : mayP z u s := by rw [← hun]; exact bP_1.mp (by rcases bP_01 (mayP z u.toNat s) with q | q; exact absurd q h45; exact q)
          refine G_aload_n dX5_cheapestFree_48 rfl ?_
          refine G_aload dX5_cheapestFree_49 rfl ?_
          refine G_iload_n dX5_cheapestFree_51 rfl ?_
          refine G_cVi (ci := 5) dX5_cheapestFree_52 rfl (by decide) rfl (c_X5_price l (d + 0) nu v z hS u.toNat hn s hs) mcX5_114 rfl rfl (by show _ ≤ d + 4; omega) rfl rfl (Nat.le_refl _) (Nat.le_refl _) ?_
          rw [hun]
          refine G_istore dX5_cheapestFree_55 rfl rfl ?_
          refine G_iload_n dX5_cheapestFree_57 rfl ?_
          refine G_iconst (n := (-1)) dX5_cheapestFree_58 ⟨by decide, by decide⟩ ?_
          refine G_icmp_eq 68 dX5_cheapestFree_59 (by decide) (fun h59 => ?_) (fun h59 => ?_)
          · refine G_iload dX5_cheapestFree_68 rfl ?_
            refine G_istore_n dX5_cheapestFree_70 rfl rfl ?_
            refine G_iload dX5_cheapestFree_71 rfl ?_
            refine G_istore_n dX5_cheapestFree_73 rfl rfl ?_
            refine G_iinc dX5_cheapestFree_74 rfl (iRm (by omega) (by omega)) rfl rfl ?_
            refine G_goto 7 dX5_cheapestFree_77 (by decide) ?_
            exact ih (N - 1) (by omega) _ _ (u + 1) _ _ (by omega) (by omega) (by omega) (spU_first h0 (h59 ▸ hq) ⟨h35, hm⟩) (fun _ => rfl)
          · refine G_iload dX5_cheapestFree_62 rfl ?_
            refine G_iload_n dX5_cheapestFree_64 rfl ?_
            refine G_icmp_ge 74 dX5_cheapestFree_65 (by decide) (fun h65 => ?_) (fun h65 => ?_)
            · refine G_iinc dX5_cheapestFree_74 rfl (iRm (by omega) (by omega)) rfl rfl ?_
              refine G_goto 7 dX5_cheapestFree_77 (by decide) ?_
              exact ih (N - 1) (by omega) _ _ (u + 1) _ _ (by omega) (by omega) (by omega) (spU_keep hq h59 (by rw [hl h59] at h65; exact h65)) hl
            · refine G_iload dX5_cheapestFree_68 rfl ?_
              refine G_istore_n dX5_cheapestFree_70 rfl rfl ?_
              refine G_iload dX5_cheapestFree_71 rfl ?_
              refine G_istore_n dX5_cheapestFree_73 rfl rfl ?_
              refine G_iinc dX5_cheapestFree_74 rfl (iRm (by omega) (by omega)) rfl rfl ?_
              refine G_goto 7 dX5_cheapestFree_77 (by decide) ?_
              exact ih (N - 1) (by omega) _ _ (u + 1) _ _ (by omega) (by omega) (by omega) (spU_new h0 hq h59 ⟨h35, hm⟩ (by rw [hl h59] at h65; omega)) (fun _ => rfl)
  refine G_iconst (n := (-1)) dX5_cheapestFree_0 ⟨by decide, by decide⟩ ?_
  refine G_istore_n dX5_cheapestFree_1 rfl rfl ?_
  refine G_iconst (n := 0) dX5_cheapestFree_2 ⟨by decide, by decide⟩ ?_
  refine G_istore_n dX5_cheapestFree_3 rfl rfl ?_
  refine G_iconst (n := 0) dX5_cheapestFree_4 ⟨by decide, by decide⟩ ?_
  refine G_istore dX5_cheapestFree_5 rfl rfl ?_
  exact loop nu (-1) 0 0 none none (by omega) (by omega) (by omega) (Or.inl ⟨rfl, fun u u1 u2 => by omega⟩) (fun q => absurd rfl q)
