theorem up3 (z : VV) (k : Nat) (t s a b x : Int) : up (up (up z k t a) k s b) k t x = up (up z k s b) k t x := by
  funext c j
  simp only [up_get]
  by_cases h1 : c = k ∧ j = t
  · simp [h1]
  · by_cases h2 : c = k ∧ j = s
    · simp [h1, h2]
    · simp [h1, h2]
set_option maxRecDepth 20000 in
set_option maxHeartbeats 1000000 in
theorem c_X5_fillByMove (l : Launch) (d nu : Nat) (v : VV) (z : VV) (hS : Sim nu v z) (s : Int) (hs : 0 ≤ s ∧ s < 2 * z 27 34) (hws : z 48 s = -1) : Ct l yX5_fillByMove cX5_fillByMove (some .boolean) 9 (d + 6) 0 0 [ar (some 0), ai s] (SG nu) v (fun r S2 v2 => ∃ x, r = some (ai x) ∧ S2 = SG nu ∧ ∃ C t, mvU nu z s (2 * z 27 34) C t ∧ ((t = -1 ∧ x = 0 ∧ v2 = v) ∨ (t ≠ -1 ∧ x = 1 ∧ ∃ y, y ≠ -1 ∧ spU z t nu y ∧ Sim nu v2 (up (up z 48 s (z 48 t)) 48 t y) ∧ KP v v2))) := by
  refine Ct_of_G [some (ar (some 0)), some (ai s), none, none, none, none, none, none, none] (by decide) rfl rfl ?_
  have hMB : MB nu z := hS.1
  have hnn := hMB.1
  have hgm := hMB.2.1
  have hwk := hMB.2.2.1
  have hc6 := hS.2.1.1
  have hc7 := hS.2.1.2.1
  have hc8 := hS.2.1.2.2
  have hg0 : 0 ≤ v 0 7 ∧ v 0 7 ≤ 8 := by omega
  have hu0 : v 0 6 = nu ∧ nu ≤ 20 := ⟨hc6, hnn.1⟩
  have loop : ∀ (N : Nat) (C t x0 c0 q : Int) (Z6 Z7 Z8 : Option AV), 0 ≤ q → q + N = 2 * z 27 34 → mvU nu z s q C t → (-20000 ≤ C ∧ C ≤ 100000000) → (-20000 ≤ c0 ∧ c0 ≤ 100000000) → (t ≠ -1 → c0 = C ∧ spU z t nu x0) → G l (yX5_fillByMove, cX5_fillByMove, (some .boolean), 9, (d + 6), 0, 0, none) (fun r S2 v2 => ∃ x, r = some (ai x) ∧ S2 = SG nu ∧ ∃ C t, mvU nu z s (2 * z 27 34) C t ∧ ((t = -1 ∧ x = 0 ∧ v2 = v) ∨ (t ≠ -1 ∧ x = 1 ∧ ∃ y, y ≠ -1 ∧ spU z t nu y ∧ Sim nu v2 (up (up z 48 s (z 48 t)) 48 t y) ∧ KP v v2))) 0 0 (SG nu) 10 [some (ar (some 0)), some (ai s), some (ai t), some (ai x0), some (ai c0), some (ai q), Z6, Z7, Z8] [] v := by
    intro N
    induction N using Nat.strongRecOn with
    | ind N ih =>
    intro C t x0 c0 q Z6 Z7 Z8 h0 h1 hq hC hc0 hl
    refine G_iload dX5_fillByMove_10 rfl ?_
    refine G_iconst (n := 2) dX5_fillByMove_12 ⟨by decide, by decide⟩ ?_
    refine G_aload_n dX5_fillByMove_13 rfl ?_
    refine G_getI (jj := 7) dX5_fillByMove_14 flX5_101 rfl rfl rfl ?_
    refine G_imul dX5_fillByMove_17 (iRm (by omega) (by omega)) ?_
    refine G_icmp_ge 122 dX5_fillByMove_18 (by decide) (fun h18 => ?_) (fun h18 => ?_)
    · obtain rfl : q = 2 * z 27 34 := by omega
      refine G_aload_n dX5_fillByMove_122 rfl ?_
      refine G_iload_n dX5_fillByMove_123 rfl ?_
      refine G_cVi (ci := 5) dX5_fillByMove_124 rfl (by decide) rfl (c_X5_isSeat l (d + 5) nu v hg0 t) mcX5_150 rfl rfl (by show _ ≤ d + 6; omega) rfl rfl (Nat.le_refl _) (Nat.le_refl _) ?_
      refine G_if_ne 132 dX5_fillByMove_127 (by decide) (fun h127 => ?_) (fun h127 => ?_)
      · have ht2 : 0 ≤ t ∧ t < 2 * z 27 34 := by omega
        have htn : t ≠ -1 := by omega
        obtain ⟨hl1, hl2⟩ := hl htn
        have hwt : z 48 t ≠ -1 := by rcases hq with ⟨e, -⟩ | ⟨-, -, e, -⟩; exact absurd e htn; exact e.1
        obtain ⟨hm9, hx2, -⟩ := hold_some hS ht2.1 ht2.2 hwt
        have hx0 : x0 ≠ -1 := by
          rcases hq with ⟨e, -⟩ | ⟨-, -, ⟨-, -, y, y1, y2, -⟩, -⟩
          · exact absurd e htn
          · rw [spU_one hl2 y2]; exact y1
        have hxr : (0 ≤ x0 ∧ x0 < nu) ∧ candP z x0 t := by rcases hl2 with ⟨e, -⟩ | ⟨e1, e2, e3, -⟩; exact absurd e hx0; exact ⟨⟨e1, e2⟩, e3⟩
        have hst : s ≠ t := fun e => hwt (by rw [← e]; exact hws)
        have hI := hS.2.2.2.2.2.1.2.2
        have hsm : seatOfS z (z 48 t) = t := seat_at hI hgm.1 ht2.1 ht2.2 hwt rfl
        have hxm : z 48 t ≠ x0 := fun e => by have q9 := hxr.2.1; rw [← e, hsm] at q9; omega
        refine G_aload_n dX5_fillByMove_132 rfl ?_
        refine G_getR (jj := 4) dX5_fillByMove_133 flX5_36 rfl rfl rfl ?_
        refine G_iload_n dX5_fillByMove_136 rfl ?_
        refine G_ialdv (z 48 t) dX5_fillByMove_137 rfl (by omega) (by omega) hx2 ?_
        refine G_istore dX5_fillByMove_138 rfl rfl ?_
        refine G_aload_n dX5_fillByMove_140 rfl ?_
        refine G_iload_n dX5_fillByMove_141 rfl ?_
        refine G_cVq (ci := 5) dX5_fillByMove_142 rfl (by decide) rfl (c_X5_clearSeat l (d + 3) nu v (z 27 35) z hS t ht2) mcX5_125 rfl rfl (by show _ ≤ d + 6; omega) rfl rfl (Nat.le_refl _) (Nat.le_refl _) (fun r S2 v2 hq9 => ?_)
        obtain ⟨rfl, rfl, hS1, hk1⟩ := hq9
        have e1 : seatOfS (up z 48 t (-1)) (z 48 t) = -1 := by rw [seat_clear hI hgm.1 ht2.1 ht2.2 _ hm9.1, if_pos rfl]
        have e2 : (up z 48 t (-1)) 48 s = -1 := by rw [up_nj hst]; exact hws
        refine G_aload_n dX5_fillByMove_145 rfl ?_
        refine G_iload_n dX5_fillByMove_146 rfl ?_
        refine G_iload dX5_fillByMove_147 rfl ?_
        refine G_cVq (ci := 5) dX5_fillByMove_149 rfl (by decide) rfl (c_X5_fillSeat l (d + 4) nu v2 (z 27 35) _ hS1 s (z 48 t) hs e2 (Or.inr ⟨hm9, e1⟩)) mcX5_138 rfl rfl (by show _ ≤ d + 6; omega) rfl rfl (Nat.le_refl _) (Nat.le_refl _) (fun r S2 v3 hq9 => ?_)
        obtain ⟨rfl, rfl, hS2, hk2⟩ := hq9
        have e3 : seatOfS (up (up z 48 t (-1)) 48 s (z 48 t)) x0 = -1 := by
          rw [seat_fill (INJ_clear hI t) hgm.1 hs.1 hs.2 e2 hm9.1 ?_ x0 hxr.1.1, if_neg (fun e => hxm e.symm), seat_clear hI hgm.1 ht2.1 ht2.2 x0 hxr.1.1, if_neg hxm]
          · exact hxr.2.1
          · intro y y0 y1
            rcases seatOf_spec (v := up z 48 t (-1)) (z 48 t) hgm.1 with ⟨-, g4⟩ | ⟨g3, -⟩
            · exact g4 y y0 y1
            · rw [e1] at g3; omega
        have e4 : (up (up z 48 t (-1)) 48 s (z 48 t)) 48 t = -1 := by rw [up_nj (fun e => hst e.symm), up_self]
        refine G_aload_n dX5_fillByMove_152 rfl ?_
        refine G_iload_n dX5_fillByMove_153 rfl ?_
        refine G_iload_n dX5_fillByMove_154 rfl ?_
        refine G_cVq (ci := 5) dX5_fillByMove_155 rfl (by decide) rfl (c_X5_fillSeat l (d + 4) nu v3 (z 27 35) _ hS2 t x0 ht2 e4 (Or.inr ⟨hxr.1, e3⟩)) mcX5_138 rfl rfl (by show _ ≤ d + 6; omega) rfl rfl (Nat.le_refl _) (Nat.le_refl _) (fun r S2 v4 hq9 => ?_)
        obtain ⟨rfl, rfl, hS3, hk3⟩ := hq9
        rw [up3] at hS3
        refine G_iconst (n := 1) dX5_fillByMove_158 ⟨by decide, by decide⟩ ?_
        exact G_zret dX5_fillByMove_159 rfl (by omega) rfl rfl ⟨1, rfl, rfl, C, t, hq, Or.inr ⟨htn, rfl, x0, hx0, hl2, hS3, (hk1.tr hk2).tr hk3⟩⟩
      · refine G_iconst (n := 0) dX5_fillByMove_130 ⟨by decide, by decide⟩ ?_
        exact G_zret dX5_fillByMove_131 rfl (by omega) rfl rfl ⟨0, rfl, rfl, C, t, hq, Or.inl ⟨by rcases hq with ⟨e, -⟩ | ⟨e1, e2, -⟩; exact e; omega, rfl, rfl⟩⟩
    · have hqg : q < 2 * z 27 34 := by omega
      refine G_aload_n dX5_fillByMove_21 rfl ?_
      refine G_iload dX5_fillByMove_22 rfl ?_
      refine G_cVa (ci := 5) dX5_fillByMove_24 rfl (by decide) rfl (c_X5_holderOf l (d + 4) nu v hu0 hg0 q) mcX5_153 rfl rfl (by show _ ≤ d + 6; omega) rfl rfl (Nat.le_refl _) (Nat.le_refl _) ?_
      by_cases hw : z 48 q = -1
      · rw [(hold_none hS h0 hqg hw).2]
        refine G_astore dX5_fillByMove_27 rfl rfl ?_
        refine G_iload dX5_fillByMove_29 rfl ?_
        refine G_iload_n dX5_fillByMove_31 rfl ?_
        refine G_icmp_eq 54 dX5_fillByMove_32 (by decide) (fun h32 => ?_) (fun h32 => ?_)
        · refine G_iconst (n := (-1)) dX5_fillByMove_54 ⟨by decide, by decide⟩ ?_
          refine G_istore dX5_fillByMove_55 rfl rfl ?_
          refine G_iload dX5_fillByMove_57 rfl ?_
          refine G_iconst (n := (-1)) dX5_fillByMove_59 ⟨by decide, by decide⟩ ?_
          refine G_icmp_eq 116 dX5_fillByMove_60 (by decide) (fun h60 => ?_) (fun h60 => by omega)
          refine G_iinc dX5_fillByMove_116 rfl (iRm (by omega) (by omega)) rfl rfl ?_
          refine G_goto 10 dX5_fillByMove_119 (by decide) ?_
          exact ih (N - 1) (by omega) _ _ _ _ (q + 1) _ _ _ (by omega) (by omega) (mvU_no hq (fun c y => y.1 hw)) (by omega) (by omega) hl
        · refine G_aload_n dX5_fillByMove_35 rfl ?_
          refine G_aload dX5_fillByMove_36 rfl ?_
          refine G_iload_n dX5_fillByMove_38 rfl ?_
          refine G_cVi (ci := 5) dX5_fillByMove_39 rfl (by decide) rfl (c_X5_fitsN l (d + 2) nu v z hS s) mcX5_110 rfl rfl (by show _ ≤ d + 6; omega) rfl rfl (Nat.le_refl _) (Nat.le_refl _) ?_
          refine G_if_eq 54 dX5_fillByMove_42 (by decide) (fun h42 => ?_) (fun h42 => by omega)
          refine G_iconst (n := (-1)) dX5_fillByMove_54 ⟨by decide, by decide⟩ ?_
          refine G_istore dX5_fillByMove_55 rfl rfl ?_
          refine G_iload dX5_fillByMove_57 rfl ?_
          refine G_iconst (n := (-1)) dX5_fillByMove_59 ⟨by decide, by decide⟩ ?_
          refine G_icmp_eq 116 dX5_fillByMove_60 (by decide) (fun h60 => ?_) (fun h60 => by omega)
          refine G_iinc dX5_fillByMove_116 rfl (iRm (by omega) (by omega)) rfl rfl ?_
          refine G_goto 10 dX5_fillByMove_119 (by decide) ?_
          exact ih (N - 1) (by omega) _ _ _ _ (q + 1) _ _ _ (by omega) (by omega) (mvU_no hq (fun c y => y.1 hw)) (by omega) (by omega) hl
      · obtain ⟨hm9, hx2, hx3⟩ := hold_some hS h0 hqg hw
        rw [hx3]
        have hn : (z 48 q).toNat < nu := by omega
        have hmn : (((z 48 q).toNat : Nat) : Int) = z 48 q := by omega
        refine G_astore dX5_fillByMove_27 rfl rfl ?_
        refine G_iload dX5_fillByMove_29 rfl ?_
        refine G_iload_n dX5_fillByMove_31 rfl ?_
        refine G_icmp_eq 54 dX5_fillByMove_32 (by decide) (fun h32 => absurd hws (h32 ▸ hw)) (fun h32 => ?_)
        refine G_aload_n dX5_fillByMove_35 rfl ?_
        refine G_aload dX5_fillByMove_36 rfl ?_
        refine G_iload_n dX5_fillByMove_38 rfl ?_
        refine G_cVi (ci := 5) dX5_fillByMove_39 rfl (by decide) rfl (c_X5_fits l (d + 2) nu v z hS (z 48 q).toNat hn s hs) mcX5_110 rfl rfl (by show _ ≤ d + 6; omega) rfl rfl (Nat.le_refl _) (Nat.le_refl _) ?_
        refine G_if_eq 54 dX5_fillByMove_42 (by decide) (fun h42 => ?_) (fun h42 => ?_)
        · refine G_iconst (n := (-1)) dX5_fillByMove_54 ⟨by decide, by decide⟩ ?_
          refine G_istore dX5_fillByMove_55 rfl rfl ?_
          refine G_iload dX5_fillByMove_57 rfl ?_
          refine G_iconst (n := (-1)) dX5_fillByMove_59 ⟨by decide, by decide⟩ ?_
          refine G_icmp_eq 116 dX5_fillByMove_60 (by decide) (fun h60 => ?_) (fun h60 => by omega)
          refine G_iinc dX5_fillByMove_116 rfl (iRm (by omega) (by omega)) rfl rfl ?_
          refine G_goto 10 dX5_fillByMove_119 (by decide) ?_
          exact ih (N - 1) (by omega) _ _ _ _ (q + 1) _ _ _ (by omega) (by omega) (mvU_no hq (fun c y => bP_0.mp h42 (hmn ▸ y.2.1))) (by omega) (by omega) hl
        · have hmt : mayP z (z 48 q) s := by rw [← hmn]; exact bP_1.mp (by rcases bP_01 (mayP z (z 48 q).toNat s) with e | e; exact absurd e h42; exact e)
          refine G_aload_n dX5_fillByMove_45 rfl ?_
          refine G_iload dX5_fillByMove_46 rfl ?_
          refine G_cVq (ci := 5) dX5_fillByMove_48 rfl (by decide) rfl (c_X5_cheapestFree l (d + 1) nu v z hS q ⟨h0, hqg⟩) mcX5_144 rfl rfl (by show _ ≤ d + 6; omega) rfl rfl (Nat.le_refl _) (Nat.le_refl _) (fun r S2 v2 hq9 => ?_)
          obtain ⟨x, rfl, hx, rfl, rfl⟩ := hq9
          refine G_goto 55 dX5_fillByMove_51 (by decide) ?_
          refine G_istore dX5_fillByMove_55 rfl rfl ?_
          refine G_iload dX5_fillByMove_57 rfl ?_
          refine G_iconst (n := (-1)) dX5_fillByMove_59 ⟨by decide, by decide⟩ ?_
          refine G_icmp_eq 116 dX5_fillByMove_60 (by decide) (fun h60 => ?_) (fun h60 => ?_)
          · refine G_iinc dX5_fillByMove_116 rfl (iRm (by omega) (by omega)) rfl rfl ?_
            refine G_goto 10 dX5_fillByMove_119 (by decide) ?_
            exact ih (N - 1) (by omega) _ _ _ _ (q + 1) _ _ _ (by omega) (by omega) (mvU_no hq (fun c y => by obtain ⟨-, -, y2, y3, y4, -⟩ := y; exact y3 ((spU_one y4 hx).trans h60))) (by omega) (by omega) hl
          · have hxx : 0 ≤ x ∧ x < nu := by rcases hx with ⟨e, -⟩ | ⟨e1, e2, -⟩; exact absurd e h60; exact ⟨e1, e2⟩
            have hc1 := MB.cost (u := z 48 q) hMB hm9 hs
            have hc2 := MB.cost (u := x) (s := q) hMB hxx ⟨h0, hqg⟩
            have hc3 := MB.cost (u := z 48 q) (s := q) hMB hm9 ⟨h0, hqg⟩
            have hxt : ((x.toNat : Nat) : Int) = x := by omega
            refine G_aload_n dX5_fillByMove_63 rfl ?_
            refine G_aload dX5_fillByMove_64 rfl ?_
            refine G_iload_n dX5_fillByMove_66 rfl ?_
            refine G_cVi (ci := 5) dX5_fillByMove_67 rfl (by decide) rfl (c_X5_price l (d + 2) nu v2 z hS (z 48 q).toNat hn s hs) mcX5_114 rfl rfl (by show _ ≤ d + 6; omega) rfl rfl (Nat.le_refl _) (Nat.le_refl _) ?_
            rw [hmn]
            refine G_aload_n dX5_fillByMove_70 rfl ?_
            refine G_aload dX5_fillByMove_71 rfl ?_
            refine G_iload dX5_fillByMove_73 rfl ?_
            refine G_cVi (ci := 5) dX5_fillByMove_75 rfl (by decide) rfl (c_X5_price l (d + 2) nu v2 z hS (z 48 q).toNat hn q ⟨h0, hqg⟩) mcX5_114 rfl rfl (by show _ ≤ d + 6; omega) rfl rfl (Nat.le_refl _) (Nat.le_refl _) ?_
            rw [hmn]
            refine G_isub dX5_fillByMove_78 (iRm (by omega) (by omega)) ?_
            refine G_aload_n dX5_fillByMove_79 rfl ?_
            refine G_aload_n dX5_fillByMove_80 rfl ?_
            refine G_iload dX5_fillByMove_81 rfl ?_
            refine G_cVa (ci := 5) dX5_fillByMove_83 rfl (by decide) rfl ((by have q := c_X5_umpireAt l (d + 5) nu v2 hu0 x; rwa [if_pos (show 0 ≤ x ∧ x < nu by omega)] at q)) mcX5_87 rfl rfl (by show _ ≤ d + 6; omega) rfl rfl (Nat.le_refl _) (Nat.le_refl _) ?_
            refine G_iload dX5_fillByMove_86 rfl ?_
            refine G_cVi (ci := 5) dX5_fillByMove_88 rfl (by decide) rfl (c_X5_price l (d + 2) nu v2 z hS x.toNat (by omega) q ⟨h0, hqg⟩) mcX5_114 rfl rfl (by show _ ≤ d + 6; omega) rfl rfl (Nat.le_refl _) (Nat.le_refl _) ?_
            rw [hxt]
            refine G_iadd dX5_fillByMove_91 (iRm (by omega) (by omega)) ?_
            refine G_istore dX5_fillByMove_92 rfl rfl ?_
            have hmv : mval nu z s q (costS z (z 48 q) s - costS z (z 48 q) q + costS z x q) := ⟨hw, hmt, x, h60, hx, by omega⟩
            refine G_iload_n dX5_fillByMove_94 rfl ?_
            refine G_iconst (n := (-1)) dX5_fillByMove_95 ⟨by decide, by decide⟩ ?_
            refine G_icmp_eq 106 dX5_fillByMove_96 (by decide) (fun h96 => ?_) (fun h96 => ?_)
            · refine G_iload dX5_fillByMove_106 rfl ?_
              refine G_istore_n dX5_fillByMove_108 rfl rfl ?_
              refine G_iload dX5_fillByMove_109 rfl ?_
              refine G_istore_n dX5_fillByMove_111 rfl rfl ?_
              refine G_iload dX5_fillByMove_112 rfl ?_
              refine G_istore dX5_fillByMove_114 rfl rfl ?_
              refine G_iinc dX5_fillByMove_116 rfl (iRm (by omega) (by omega)) rfl rfl ?_
              refine G_goto 10 dX5_fillByMove_119 (by decide) ?_
              exact ih (N - 1) (by omega) _ _ _ _ (q + 1) _ _ _ (by omega) (by omega) (mvU_new h0 hq hmv (by rcases hq with ⟨q1, q2, -⟩ | ⟨q1, -⟩ <;> omega)) (by omega) (by omega) (fun _ => ⟨by omega, hx⟩)
            · refine G_iload dX5_fillByMove_99 rfl ?_
              refine G_iload dX5_fillByMove_101 rfl ?_
              refine G_icmp_ge 116 dX5_fillByMove_103 (by decide) (fun h103 => ?_) (fun h103 => ?_)
              · refine G_iinc dX5_fillByMove_116 rfl (iRm (by omega) (by omega)) rfl rfl ?_
                refine G_goto 10 dX5_fillByMove_119 (by decide) ?_
                exact ih (N - 1) (by omega) _ _ _ _ (q + 1) _ _ _ (by omega) (by omega) (mvU_keep hq hmv (by rw [← (hl h96).1]; omega) (by omega)) (by omega) (by omega) hl
              · refine G_iload dX5_fillByMove_106 rfl ?_
                refine G_istore_n dX5_fillByMove_108 rfl rfl ?_
                refine G_iload dX5_fillByMove_109 rfl ?_
                refine G_istore_n dX5_fillByMove_111 rfl rfl ?_
                refine G_iload dX5_fillByMove_112 rfl ?_
                refine G_istore dX5_fillByMove_114 rfl rfl ?_
                refine G_iinc dX5_fillByMove_116 rfl (iRm (by omega) (by omega)) rfl rfl ?_
                refine G_goto 10 dX5_fillByMove_119 (by decide) ?_
                exact ih (N - 1) (by omega) _ _ _ _ (q + 1) _ _ _ (by omega) (by omega) (mvU_new h0 hq hmv (by rw [← (hl h96).1]; omega)) (by omega) (by omega) (fun _ => ⟨by omega, hx⟩)
  refine G_iconst (n := (-1)) dX5_fillByMove_0 ⟨by decide, by decide⟩ ?_
  refine G_istore_n dX5_fillByMove_1 rfl rfl ?_
  refine G_iconst (n := (-1)) dX5_fillByMove_2 ⟨by decide, by decide⟩ ?_
  refine G_istore_n dX5_fillByMove_3 rfl rfl ?_
  refine G_iconst (n := 0) dX5_fillByMove_4 ⟨by decide, by decide⟩ ?_
  refine G_istore dX5_fillByMove_5 rfl rfl ?_
  refine G_iconst (n := 0) dX5_fillByMove_7 ⟨by decide, by decide⟩ ?_
  refine G_istore dX5_fillByMove_8 rfl rfl ?_
  exact loop (2 * z 27 34).toNat 100000000 (-1) (-1) 0 0 none none none (by omega) (by omega) (Or.inl ⟨rfl, rfl, fun q c q1 q2 => by omega⟩) (by omega) (by omega) (fun q => absurd rfl q)
