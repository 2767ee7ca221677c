theorem RV_z {nu : Nat} {v : VV} (h : RV (SG nu) v) {n : Nat} (hn : n < nu) (j : Int) : v (60 + 3 * n) j = 0 ∨ v (60 + 3 * n) j = 1 := by
  have a := h (60 + 3 * n) (by show _ < 59 + 3 * nu; omega) j
  unfold skd at a
  rw [sh_away hn] at a
  exact a
theorem hold_some {nu : Nat} {b : Int} {v z : VV} (h : Simx nu b v z) {s : Int} (h0 : 0 ≤ s) (h1 : s < 2 * z 27 34) (hw : z 48 s ≠ -1) : (0 ≤ z 48 s ∧ z 48 s < nu) ∧ v 16 s = z 48 s ∧ hold v nu s = some (59 + 3 * (z 48 s).toNat) := by
  have a := h.1.2.2.2.2.2.2 s h0 h1
  have b9 := h.2.1
  have c := h.2.2.2.2.2.1.1 s h0 (by have := h.1.2.1; omega)
  rw [if_pos h1] at c
  refine ⟨by omega, c, ?_⟩
  unfold hold
  rw [c, if_pos ⟨⟨h0, by have := b9.2.1; omega⟩, by omega, by omega⟩]
theorem hold_none {nu : Nat} {b : Int} {v z : VV} (h : Simx nu b v z) {s : Int} (h0 : 0 ≤ s) (h1 : s < 2 * z 27 34) (hw : z 48 s = -1) : v 16 s = -1 ∧ hold v nu s = none := by
  have c := h.2.2.2.2.2.1.1 s h0 (by have := h.1.2.1; omega)
  rw [if_pos h1] at c
  refine ⟨by omega, ?_⟩
  unfold hold
  rw [c, if_neg (by omega)]
theorem hold_out {nu : Nat} {b : Int} {v z : VV} (h : Simx nu b v z) {s : Int} (h1 : ¬ (0 ≤ s ∧ s < 2 * z 27 34)) : hold v nu s = none := by
  unfold hold
  have b9 := h.2.1.2.1
  rw [if_neg (by omega)]
theorem miles_z {nu : Nat} {v z : VV} (h : Sim nu v z) {n : Nat} (hn : n < nu) {s : Int} (hs : 0 ≤ s ∧ s < 2 * z 27 34) : absS (v (8 + (s / 2).toNat) 0) (v (59 + 3 * n) 0) + absS (v (8 + (s / 2).toNat) 1) (v (59 + 3 * n) 1) = milesS z n s := by
  have a := h.2.2.1 n hn
  have b := h.2.2.2.2.1 (s / 2).toNat (by omega)
  have e : (((s / 2).toNat : Nat) : Int) = s / 2 := by omega
  rw [e] at b
  rw [a.1, a.2.1, b.1, b.2.1, absS_less, absS_less]
  rfl
set_option maxRecDepth 20000 in
set_option maxHeartbeats 1000000 in
theorem c_X5_fits (l : Launch) (d nu : Nat) (v : VV) (z : VV) (hS : Sim nu v z) (n : Nat) (hn : n < nu) (s : Int) (hs : 0 ≤ s ∧ s < 2 * z 27 34) : Ct l yX5_fits cX5_fits (some .boolean) 4 (d + 3) 0 0 [ar (some 0), ar (some (59 + 3 * n)), ai s] (SG nu) v (rI (SG nu) (bP (mayP z n s)) v) := by
  refine Ct_of_G [some (ar (some 0)), some (ar (some (59 + 3 * n))), some (ai s), none] (by decide) rfl rfl ?_
  have hMB : MB nu z := hS.1
  have hnn := hMB.1
  have hgm := hMB.2.1
  have hwk := hMB.2.2.1
  have hc := hS.2.1
  have hc6 := hc.1
  have hc7 := hc.2.1
  have hc8 := hc.2.2
  have hg0 : 0 ≤ v 0 7 ∧ v 0 7 ≤ 8 := by omega
  have hu0 : v 0 6 = nu ∧ nu ≤ 20 := ⟨hc6, hnn.1⟩
  have hU := hS.2.2.1 n hn
  have hUB := hMB.2.2.2.2.1 n (by omega) (by omega)
  have hG := hS.2.2.2.2.1 (s / 2).toNat (by omega)
  have hgt : (((s / 2).toNat : Nat) : Int) = s / 2 := by omega
  rw [hgt] at hG
  have hGB := hMB.2.2.2.2.2.1 (s / 2) (by omega) (by omega)
  have hg8 : (s / 2).toNat < 8 := by omega
  have hR := hS.2.2.2.2.2.2.1
  have hRB := hMB.2.2.2.1
  have hr0 := hRB.1
  have hr1 := hRB.2.1
  have hr2 := hRB.2.2.1
  have hr3 := hRB.2.2.2.1
  have e40 := hR 0 (by omega) (by omega)
  have e41 := hR 1 (by omega) (by omega)
  have e42 := hR 2 (by omega) (by omega)
  have e43 := hR 3 (by omega) (by omega)
  refine G_fact (fun _ hRV _ _ => ?_)
  have hA : v (60 + 3 * n) (v 0 8) = z 43 (100 * n + z 27 35) := by rw [hc8]; exact (hS.2.2.2.1 n hn (z 27 35) (by omega) (by omega)).1
  refine G_aload_n dX5_fits_0 rfl ?_
  refine G_iload_n dX5_fits_1 rfl ?_
  refine G_cVa (ci := 5) dX5_fits_2 rfl (by decide) rfl ((by have q := c_X5_gameOf l (d + 1) nu v hg0 s; rwa [if_pos (show 0 ≤ s ∧ s < 2 * v 0 7 by omega)] at q)) mcX5_198 rfl rfl (by show _ ≤ d + 3; omega) rfl rfl (Nat.le_refl _) (Nat.le_refl _) ?_
  refine G_astore_n dX5_fits_5 rfl rfl ?_
  refine G_aload_n dX5_fits_6 rfl ?_
  refine G_ifnullS dX5_fits_7 ?_
  refine G_aload_n dX5_fits_10 rfl ?_
  refine G_ifnonnullS 16 dX5_fits_11 (by decide) ?_
  refine G_aload_n dX5_fits_16 rfl ?_
  refine G_aload_n dX5_fits_17 rfl ?_
  refine G_getI (jj := 8) dX5_fits_18 flX5_91 rfl rfl rfl ?_
  refine G_cVi (ci := 4) dX5_fits_21 (by rw [sh_ump hn]) (by decide) rfl (c_X4_isAway l (d + 2) nu v n hn (v 0 8) (RV_z hRV hn)) mcX5_202 rfl rfl (by show _ ≤ d + 3; omega) rfl rfl (Nat.le_refl _) (Nat.le_refl _) ?_
  rw [if_pos (show 0 ≤ v 0 8 ∧ v 0 8 ≤ 99 by omega), hA]
  refine G_if_ne 116 dX5_fits_24 (by decide) (fun h24 => ?_) (fun h24 => ?_)
  · have k1 : ¬ mayP z n s := fun h => h24 h.1
    refine G_iconst (n := 0) dX5_fits_116 ⟨by decide, by decide⟩ ?_
    exact G_zret dX5_fits_117 rfl (by omega) rfl rfl ⟨congrArg (fun x => some (ai x)) (by first | exact (bP_t k2).symm | exact (bP_f k1).symm), rfl, rfl⟩
  · refine G_aload_n dX5_fits_27 rfl ?_
    refine G_getIv (z 37 n) (jj := 2) dX5_fits_28 flX5_205 rfl (by rw [sh_ump hn]) rfl hU.2.2.1 ?_
    refine G_aload_n dX5_fits_31 rfl ?_
    refine G_getNI (jj := 2) dX5_fits_32 flX5_208 rfl (by rw [sh_game hg8]) rfl ?_
    rw [hG.2.2.1]
    refine G_iand (bandI (z 37 n) (z 46 (s / 2))) dX5_fits_35 rfl ?_
    refine G_if_ne 116 dX5_fits_36 (by decide) (fun h36 => ?_) (fun h36 => ?_)
    · have k1 : ¬ mayP z n s := fun h => h36 h.2.1
      refine G_iconst (n := 0) dX5_fits_116 ⟨by decide, by decide⟩ ?_
      exact G_zret dX5_fits_117 rfl (by omega) rfl rfl ⟨congrArg (fun x => some (ai x)) (by first | exact (bP_t k2).symm | exact (bP_f k1).symm), rfl, rfl⟩
    · refine G_aload_n dX5_fits_39 rfl ?_
      refine G_getIv (z 36 n) (jj := 3) dX5_fits_40 flX5_173 rfl (by rw [sh_ump hn]) rfl hU.2.2.2.1 ?_
      refine G_aload_n dX5_fits_43 rfl ?_
      refine G_getNI (jj := 3) dX5_fits_44 flX5_211 rfl (by rw [sh_game hg8]) rfl ?_
      rw [hG.2.2.2]
      refine G_iload_n dX5_fits_47 rfl ?_
      refine G_iconst (n := 2) dX5_fits_48 ⟨by decide, by decide⟩ ?_
      refine G_irem dX5_fits_49 (by omega) (by omega) ?_
      refine G_iadd dX5_fits_50 (iRm (by omega) (by omega)) ?_
      refine G_icmp_gt 116 dX5_fits_51 (by decide) (fun h51 => ?_) (fun h51 => ?_)
      · have k1 : ¬ mayP z n s := fun h => by have := h.2.2.1; omega
        refine G_iconst (n := 0) dX5_fits_116 ⟨by decide, by decide⟩ ?_
        exact G_zret dX5_fits_117 rfl (by omega) rfl rfl ⟨congrArg (fun x => some (ai x)) (by first | exact (bP_t k2).symm | exact (bP_f k1).symm), rfl, rfl⟩
      · refine G_aload_n dX5_fits_54 rfl ?_
        refine G_aload_n dX5_fits_55 rfl ?_
        refine G_cVi (ci := 0) dX5_fits_56 (by rw [sh_game hg8]) (by decide) rfl (c_X0_milesTo l (d + 1) nu v (s / 2).toNat hg8 n hn (by omega) (by omega) (by omega) (by omega)) mcX5_214 rfl rfl (by show _ ≤ d + 3; omega) rfl rfl (Nat.le_refl _) (Nat.le_refl _) ?_
        rw [miles_z hS hn hs]
        refine G_aload_n dX5_fits_59 rfl ?_
        refine G_getR (jj := 1) dX5_fits_60 flX5_19 rfl rfl rfl ?_
        refine G_iconst (n := 2) dX5_fits_63 ⟨by decide, by decide⟩ ?_
        refine G_cVi (ci := 1) dX5_fits_64 rfl (by decide) rfl (c_X1_value l (d + 2) nu v 2) mcX5_69 rfl rfl (by show _ ≤ d + 3; omega) rfl rfl (Nat.le_refl _) (Nat.le_refl _) ?_
        rw [if_pos (by decide)]
        rw [e42]
        refine G_icmp_gt 116 dX5_fits_67 (by decide) (fun h67 => ?_) (fun h67 => ?_)
        · have k1 : ¬ mayP z n s := fun h => by have := h.2.2.2.1; omega
          refine G_iconst (n := 0) dX5_fits_116 ⟨by decide, by decide⟩ ?_
          exact G_zret dX5_fits_117 rfl (by omega) rfl rfl ⟨congrArg (fun x => some (ai x)) (by first | exact (bP_t k2).symm | exact (bP_f k1).symm), rfl, rfl⟩
        · refine G_aload_n dX5_fits_70 rfl ?_
          refine G_aload_n dX5_fits_71 rfl ?_
          refine G_getIv (z 27 35) (jj := 8) dX5_fits_72 flX5_91 rfl rfl rfl hc8 ?_
          refine G_aload_n dX5_fits_75 rfl ?_
          refine G_getR (jj := 1) dX5_fits_76 flX5_19 rfl rfl rfl ?_
          refine G_iconst (n := 0) dX5_fits_79 ⟨by decide, by decide⟩ ?_
          refine G_cVi (ci := 1) dX5_fits_80 rfl (by decide) rfl (c_X1_value l (d + 2) nu v 0) mcX5_69 rfl rfl (by show _ ≤ d + 3; omega) rfl rfl (Nat.le_refl _) (Nat.le_refl _) ?_
          rw [if_pos (by decide)]
          rw [e40]
          refine G_cVi (ci := 4) dX5_fits_83 (by rw [sh_ump hn]) (by decide) rfl (c_X4_stoodInAll l (d + 1) nu v n hn (z 27 35) (z 29 0) (by omega) (by omega)) mcX5_218 rfl rfl (by show _ ≤ d + 3; omega) rfl rfl (Nat.le_refl _) (Nat.le_refl _) ?_
          rw [bP_congr (row_iff hS hn)]
          refine G_if_ne 116 dX5_fits_86 (by decide) (fun h86 => ?_) (fun h86 => ?_)
          · have k1 : ¬ mayP z n s := fun h => h86 (bP_f h.2.2.2.2.1)
            refine G_iconst (n := 0) dX5_fits_116 ⟨by decide, by decide⟩ ?_
            exact G_zret dX5_fits_117 rfl (by omega) rfl rfl ⟨congrArg (fun x => some (ai x)) (by first | exact (bP_t k2).symm | exact (bP_f k1).symm), rfl, rfl⟩
          · refine G_aload_n dX5_fits_89 rfl ?_
            refine G_aload_n dX5_fits_90 rfl ?_
            refine G_getNI (jj := 2) dX5_fits_91 flX5_208 rfl (by rw [sh_game hg8]) rfl ?_
            rw [hG.2.2.1]
            refine G_aload_n dX5_fits_94 rfl ?_
            refine G_getIv (z 27 35) (jj := 8) dX5_fits_95 flX5_91 rfl rfl rfl hc8 ?_
            refine G_aload_n dX5_fits_98 rfl ?_
            refine G_getR (jj := 1) dX5_fits_99 flX5_19 rfl rfl rfl ?_
            refine G_iconst (n := 1) dX5_fits_102 ⟨by decide, by decide⟩ ?_
            refine G_cVi (ci := 1) dX5_fits_103 rfl (by decide) rfl (c_X1_value l (d + 2) nu v 1) mcX5_69 rfl rfl (by show _ ≤ d + 3; omega) rfl rfl (Nat.le_refl _) (Nat.le_refl _) ?_
            rw [if_pos (by decide)]
            rw [e41]
            refine G_cVi (ci := 4) dX5_fits_106 (by rw [sh_ump hn]) (by decide) rfl (c_X4_stoodWith l (d + 1) nu v n hn (z 46 (s / 2)) (z 27 35) (z 29 1) (by omega) (by omega)) mcX5_221 rfl rfl (by show _ ≤ d + 3; omega) rfl rfl (Nat.le_refl _) (Nat.le_refl _) ?_
            rw [bP_congr (again_iff hS hn)]
            refine G_if_ne 116 dX5_fits_109 (by decide) (fun h109 => ?_) (fun h109 => ?_)
            · have k1 : ¬ mayP z n s := fun h => h109 (bP_f h.2.2.2.2.2)
              refine G_iconst (n := 0) dX5_fits_116 ⟨by decide, by decide⟩ ?_
              exact G_zret dX5_fits_117 rfl (by omega) rfl rfl ⟨congrArg (fun x => some (ai x)) (by first | exact (bP_t k2).symm | exact (bP_f k1).symm), rfl, rfl⟩
            · have k2 : mayP z n s := ⟨h24, h36, by omega, by omega, bP_0.mp h86, bP_0.mp h109⟩
              refine G_iconst (n := 1) dX5_fits_112 ⟨by decide, by decide⟩ ?_
              refine G_goto 117 dX5_fits_113 (by decide) ?_
              exact G_zret dX5_fits_117 rfl (by omega) rfl rfl ⟨congrArg (fun x => some (ai x)) (by first | exact (bP_t k2).symm | exact (bP_f k1).symm), rfl, rfl⟩
set_option maxRecDepth 20000 in
set_option maxHeartbeats 1000000 in
theorem c_X5_fitsO (l : Launch) (d nu : Nat) (v : VV) (z : VV) (hS : Sim nu v z) (n : Nat) (hn : n < nu) (s : Int) (hs : ¬ (0 ≤ s ∧ s < 2 * z 27 34)) : Ct l yX5_fits cX5_fits (some .boolean) 4 (d + 3) 0 0 [ar (some 0), ar (some (59 + 3 * n)), ai s] (SG nu) v (rI (SG nu) (0) v) := by
  refine Ct_of_G [some (ar (some 0)), some (ar (some (59 + 3 * n))), some (ai s), none] (by decide) rfl rfl ?_
  have hMB : MB nu z := hS.1
  have hnn := hMB.1
  have hgm := hMB.2.1
  have hwk := hMB.2.2.1
  have hc := hS.2.1
  have hc6 := hc.1
  have hc7 := hc.2.1
  have hc8 := hc.2.2
  have hg0 : 0 ≤ v 0 7 ∧ v 0 7 ≤ 8 := by omega
  have hu0 : v 0 6 = nu ∧ nu ≤ 20 := ⟨hc6, hnn.1⟩
  refine G_aload_n dX5_fits_0 rfl ?_
  refine G_iload_n dX5_fits_1 rfl ?_
  refine G_cVa (ci := 5) dX5_fits_2 rfl (by decide) rfl ((by have q := c_X5_gameOf l (d + 1) nu v hg0 s; rwa [if_neg (show ¬ (0 ≤ s ∧ s < 2 * v 0 7) by omega)] at q)) mcX5_198 rfl rfl (by show _ ≤ d + 3; omega) rfl rfl (Nat.le_refl _) (Nat.le_refl _) ?_
  refine G_astore_n dX5_fits_5 rfl rfl ?_
  refine G_aload_n dX5_fits_6 rfl ?_
  refine G_ifnullS dX5_fits_7 ?_
  refine G_aload_n dX5_fits_10 rfl ?_
  refine G_ifnonnullN dX5_fits_11 ?_
  refine G_iconst (n := 0) dX5_fits_14 ⟨by decide, by decide⟩ ?_
  exact G_zret dX5_fits_15 rfl (by omega) rfl rfl ⟨rfl, rfl, rfl⟩
set_option maxRecDepth 20000 in
set_option maxHeartbeats 1000000 in
theorem c_X5_fitsN (l : Launch) (d nu : Nat) (v : VV) (z : VV) (hS : Sim nu v z) (s : Int) : Ct l yX5_fits cX5_fits (some .boolean) 4 (d + 3) 0 0 [ar (some 0), ar none, ai s] (SG nu) v (rI (SG nu) (0) v) := by
  refine Ct_of_G [some (ar (some 0)), some (ar none), some (ai s), none] (by decide) rfl rfl ?_
  have hMB : MB nu z := hS.1
  have hnn := hMB.1
  have hgm := hMB.2.1
  have hwk := hMB.2.2.1
  have hc := hS.2.1
  have hc6 := hc.1
  have hc7 := hc.2.1
  have hc8 := hc.2.2
  have hg0 : 0 ≤ v 0 7 ∧ v 0 7 ≤ 8 := by omega
  have hu0 : v 0 6 = nu ∧ nu ≤ 20 := ⟨hc6, hnn.1⟩
  refine G_aload_n dX5_fits_0 rfl ?_
  refine G_iload_n dX5_fits_1 rfl ?_
  refine G_cVa (ci := 5) dX5_fits_2 rfl (by decide) rfl (c_X5_gameOf l (d + 1) nu v hg0 s) mcX5_198 rfl rfl (by show _ ≤ d + 3; omega) rfl rfl (Nat.le_refl _) (Nat.le_refl _) ?_
  refine G_astore_n dX5_fits_5 rfl rfl ?_
  refine G_aload_n dX5_fits_6 rfl ?_
  refine G_ifnullN 14 dX5_fits_7 (by decide) ?_
  refine G_iconst (n := 0) dX5_fits_14 ⟨by decide, by decide⟩ ?_
  exact G_zret dX5_fits_15 rfl (by omega) rfl rfl ⟨rfl, rfl, rfl⟩
set_option maxRecDepth 20000 in
set_option maxHeartbeats 1000000 in
theorem c_X5_price (l : Launch) (d nu : Nat) (v : VV) (z : VV) (hS : Sim nu v z) (n : Nat) (hn : n < nu) (s : Int) (hs : 0 ≤ s ∧ s < 2 * z 27 34) : Ct l yX5_price cX5_price (some .int) 4 (d + 3) 0 0 [ar (some 0), ar (some (59 + 3 * n)), ai s] (SG nu) v (rI (SG nu) (costS z n s) v) := by
  refine Ct_of_G [some (ar (some 0)), some (ar (some (59 + 3 * n))), some (ai s), none] (by decide) rfl rfl ?_
  have hMB : MB nu z := hS.1
  have hnn := hMB.1
  have hgm := hMB.2.1
  have hwk := hMB.2.2.1
  have hc := hS.2.1
  have hc6 := hc.1
  have hc7 := hc.2.1
  have hc8 := hc.2.2
  have hg0 : 0 ≤ v 0 7 ∧ v 0 7 ≤ 8 := by omega
  have hu0 : v 0 6 = nu ∧ nu ≤ 20 := ⟨hc6, hnn.1⟩
  have hU := hS.2.2.1 n hn
  have hUB := hMB.2.2.2.2.1 n (by omega) (by omega)
  have hG := hS.2.2.2.2.1 (s / 2).toNat (by omega)
  have hgt : (((s / 2).toNat : Nat) : Int) = s / 2 := by omega
  rw [hgt] at hG
  have hGB := hMB.2.2.2.2.2.1 (s / 2) (by omega) (by omega)
  have hg8 : (s / 2).toNat < 8 := by omega
  have hR := hS.2.2.2.2.2.2.1
  have hRB := hMB.2.2.2.1
  have hr0 := hRB.1
  have hr1 := hRB.2.1
  have hr2 := hRB.2.2.1
  have hr3 := hRB.2.2.2.1
  have e40 := hR 0 (by omega) (by omega)
  have e41 := hR 1 (by omega) (by omega)
  have e42 := hR 2 (by omega) (by omega)
  have e43 := hR 3 (by omega) (by omega)
  have hmu := mul_bd hr3 (show 0 ≤ z 41 n ∧ z 41 n ≤ 99 by omega)
  have hml := hMB.miles (u := n) (by omega) hs
  refine G_aload_n dX5_price_0 rfl ?_
  refine G_iload_n dX5_price_1 rfl ?_
  refine G_cVa (ci := 5) dX5_price_2 rfl (by decide) rfl ((by have q := c_X5_gameOf l (d + 1) nu v hg0 s; rwa [if_pos (show 0 ≤ s ∧ s < 2 * v 0 7 by omega)] at q)) mcX5_198 rfl rfl (by show _ ≤ d + 3; omega) rfl rfl (Nat.le_refl _) (Nat.le_refl _) ?_
  refine G_astore_n dX5_price_5 rfl rfl ?_
  refine G_aload_n dX5_price_6 rfl ?_
  refine G_ifnullS dX5_price_7 ?_
  refine G_aload_n dX5_price_10 rfl ?_
  refine G_ifnonnullS 16 dX5_price_11 (by decide) ?_
  refine G_aload_n dX5_price_16 rfl ?_
  refine G_aload_n dX5_price_17 rfl ?_
  refine G_cVi (ci := 0) dX5_price_18 (by rw [sh_game hg8]) (by decide) rfl (c_X0_milesTo l (d + 1) nu v (s / 2).toNat hg8 n hn (by omega) (by omega) (by omega) (by omega)) mcX5_214 rfl rfl (by show _ ≤ d + 3; omega) rfl rfl (Nat.le_refl _) (Nat.le_refl _) ?_
  rw [miles_z hS hn hs]
  refine G_aload_n dX5_price_21 rfl ?_
  refine G_getR (jj := 1) dX5_price_22 flX5_19 rfl rfl rfl ?_
  refine G_iconst (n := 3) dX5_price_25 ⟨by decide, by decide⟩ ?_
  refine G_cVi (ci := 1) dX5_price_26 rfl (by decide) rfl (c_X1_value l (d + 2) nu v 3) mcX5_69 rfl rfl (by show _ ≤ d + 3; omega) rfl rfl (Nat.le_refl _) (Nat.le_refl _) ?_
  rw [if_pos (by decide)]
  rw [e43]
  refine G_aload_n dX5_price_29 rfl ?_
  refine G_getIv (z 41 n) (jj := 5) dX5_price_30 flX5_176 rfl (by rw [sh_ump hn]) rfl hU.2.2.2.2.1 ?_
  refine G_imul dX5_price_33 (iRm (by omega) (by omega)) ?_
  refine G_iadd dX5_price_34 (iRm (by omega) (by omega)) ?_
  exact G_iret dX5_price_35 rfl rfl rfl ⟨rfl, rfl, rfl⟩
set_option maxRecDepth 20000 in
set_option maxHeartbeats 1000000 in
theorem c_X5_priceO (l : Launch) (d nu : Nat) (v : VV) (z : VV) (hS : Sim nu v z) (n : Nat) (hn : n < nu) (s : Int) (hs : ¬ (0 ≤ s ∧ s < 2 * z 27 34)) : Ct l yX5_price cX5_price (some .int) 4 (d + 3) 0 0 [ar (some 0), ar (some (59 + 3 * n)), ai s] (SG nu) v (rI (SG nu) (-1) v) := by
  refine Ct_of_G [some (ar (some 0)), some (ar (some (59 + 3 * n))), some (ai s), none] (by decide) rfl rfl ?_
  have hMB : MB nu z := hS.1
  have hnn := hMB.1
  have hgm := hMB.2.1
  have hwk := hMB.2.2.1
  have hc := hS.2.1
  have hc6 := hc.1
  have hc7 := hc.2.1
  have hc8 := hc.2.2
  have hg0 : 0 ≤ v 0 7 ∧ v 0 7 ≤ 8 := by omega
  have hu0 : v 0 6 = nu ∧ nu ≤ 20 := ⟨hc6, hnn.1⟩
  refine G_aload_n dX5_price_0 rfl ?_
  refine G_iload_n dX5_price_1 rfl ?_
  refine G_cVa (ci := 5) dX5_price_2 rfl (by decide) rfl ((by have q := c_X5_gameOf l (d + 1) nu v hg0 s; rwa [if_neg (show ¬ (0 ≤ s ∧ s < 2 * v 0 7) by omega)] at q)) mcX5_198 rfl rfl (by show _ ≤ d + 3; omega) rfl rfl (Nat.le_refl _) (Nat.le_refl _) ?_
  refine G_astore_n dX5_price_5 rfl rfl ?_
  refine G_aload_n dX5_price_6 rfl ?_
  refine G_ifnullS dX5_price_7 ?_
  refine G_aload_n dX5_price_10 rfl ?_
  refine G_ifnonnullN dX5_price_11 ?_
  refine G_iconst (n := (-1)) dX5_price_14 ⟨by decide, by decide⟩ ?_
  exact G_iret dX5_price_15 rfl rfl rfl ⟨rfl, rfl, rfl⟩
set_option maxRecDepth 20000 in
set_option maxHeartbeats 1000000 in
theorem c_X5_priceN (l : Launch) (d nu : Nat) (v : VV) (z : VV) (hS : Sim nu v z) (s : Int) : Ct l yX5_price cX5_price (some .int) 4 (d + 3) 0 0 [ar (some 0), ar none, ai s] (SG nu) v (rI (SG nu) (-1) v) := by
  refine Ct_of_G [some (ar (some 0)), some (ar none), some (ai s), none] (by decide) rfl rfl ?_
  have hMB : MB nu z := hS.1
  have hnn := hMB.1
  have hgm := hMB.2.1
  have hwk := hMB.2.2.1
  have hc := hS.2.1
  have hc6 := hc.1
  have hc7 := hc.2.1
  have hc8 := hc.2.2
  have hg0 : 0 ≤ v 0 7 ∧ v 0 7 ≤ 8 := by omega
  have hu0 : v 0 6 = nu ∧ nu ≤ 20 := ⟨hc6, hnn.1⟩
  refine G_aload_n dX5_price_0 rfl ?_
  refine G_iload_n dX5_price_1 rfl ?_
  refine G_cVa (ci := 5) dX5_price_2 rfl (by decide) rfl (c_X5_gameOf l (d + 1) nu v hg0 s) mcX5_198 rfl rfl (by show _ ≤ d + 3; omega) rfl rfl (Nat.le_refl _) (Nat.le_refl _) ?_
  refine G_astore_n dX5_price_5 rfl rfl ?_
  refine G_aload_n dX5_price_6 rfl ?_
  refine G_ifnullN 14 dX5_price_7 (by decide) ?_
  refine G_iconst (n := (-1)) dX5_price_14 ⟨by decide, by decide⟩ ?_
  exact G_iret dX5_price_15 rfl rfl rfl ⟨rfl, rfl, rfl⟩
