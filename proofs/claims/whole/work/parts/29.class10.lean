theorem Simx_stand {nu : Nat} {b : Int} {v z : VV} (h : Simx nu b v z) {n : Nat} {c : Int} (hn : n < nu) (hb : z 41 n + 1 ≤ b) : Simx nu b (up (up v (61 + 3 * n) (z 27 35) c) (59 + 3 * n) 5 (v (59 + 3 * n) 5 + 1)) (up (up z 42 (100 * n + z 27 35) c) 41 n (z 41 n + 1)) := by
  obtain ⟨hM, hC, hU, hW, hX, hH, hR, hT, hK⟩ := h
  have hwk := hM.2.2.1
  refine ⟨⟨hM.1, hM.2.1, hM.2.2.1, hM.2.2.2.1, ?_, hM.2.2.2.2.2.1, hM.2.2.2.2.2.2⟩, ?_, ?_, ?_, ?_, ⟨?_, ?_, hH.2.2⟩, ?_, ?_, ?_⟩
  · intro u u0 u1
    have a := hM.2.2.2.2.1 u u0 u1
    refine ⟨a.1, a.2.1, a.2.2.1, a.2.2.2.1, ?_⟩
    rw [up_get]
    by_cases e : u = n
    · subst e; rw [if_pos ⟨rfl, rfl⟩]; omega
    · rw [if_neg (fun q => e q.2)]; exact a.2.2.2.2
  · unfold SC; simp only [up_c (show 0 ≠ 59 + 3 * n by omega), up_c (show 0 ≠ 61 + 3 * n by omega)]; exact hC
  · intro k hk
    have a := hU k hk
    have e1 : ∀ j : Int, up (up v (61 + 3 * n) (z 27 35) c) (59 + 3 * n) 5 (v (59 + 3 * n) 5 + 1) (59 + 3 * k) j = if k = n ∧ j = 5 then v (59 + 3 * n) 5 + 1 else v (59 + 3 * k) j := by
      intro j
      rw [up_get]
      by_cases e : k = n ∧ j = 5
      · rw [if_pos (by omega), if_pos e]
      · rw [if_neg (by omega), if_neg e, up_c (by omega)]
    have e2 : up (up z 42 (100 * n + z 27 35) c) 41 n (z 41 n + 1) 41 k = if k = n then z 41 n + 1 else z 41 k := by
      rw [up_get]
      by_cases e : k = n
      · rw [if_pos (by omega), if_pos e]
      · rw [if_neg (by omega), if_neg e]; rfl
    rw [e1, e1, e1, e1, e1, e1, e1, e1, e2]
    by_cases e : k = n
    · subst e; simp; exact ⟨a.1, a.2.1, a.2.2.1, a.2.2.2.1, a.2.2.2.2.1, a.2.2.2.2.2⟩
    · simp [e]; exact a
  · intro k hk w w0 w1
    have a := hW k hk w w0 w1
    rw [up_c (show 60 + 3 * k ≠ 59 + 3 * n by omega), up_c (show 60 + 3 * k ≠ 61 + 3 * n by omega), up_c (show 61 + 3 * k ≠ 59 + 3 * n by omega)]
    show _ ∧ _ = up z 42 (100 * n + z 27 35) c 42 (100 * k + w)
    refine ⟨a.1, ?_⟩
    rw [up_get, up_get]
    by_cases e : k = n ∧ w = z 27 35
    · obtain ⟨e1, e2⟩ := e; subst e1; rw [if_pos ⟨rfl, e2⟩, if_pos ⟨rfl, by omega⟩]
    · rw [if_neg (by omega), if_neg (by omega)]; exact a.2
  · intro g hg
    have g8 : (g : Int) < 8 := by have := hM.2.1; have hg : (g : Int) < z 27 34 := hg; omega
    simp only [up_c (show 8 + g ≠ 59 + 3 * n by omega), up_c (show 8 + g ≠ 61 + 3 * n by omega)]
    exact hX g hg
  · intro t t0 t1; simp only [up_c (show 16 ≠ 59 + 3 * n by omega), up_c (show 16 ≠ 61 + 3 * n by omega)]; exact hH.1 t t0 t1
  · intro k hk; rw [up_nj (show (4 : Int) ≠ 5 by decide), up_c (by omega)]; exact hH.2.1 k hk
  · intro k k0 k1; simp only [up_c (show 4 ≠ 59 + 3 * n by omega), up_c (show 4 ≠ 61 + 3 * n by omega)]; exact hR k k0 k1
  · unfold ST; simp only [up_c (show 3 ≠ 59 + 3 * n by omega), up_c (show 3 ≠ 61 + 3 * n by omega), up_c (show 1 ≠ 59 + 3 * n by omega), up_c (show 1 ≠ 61 + 3 * n by omega), up_c (show 2 ≠ 59 + 3 * n by omega), up_c (show 2 ≠ 61 + 3 * n by omega)]; exact hT
  · unfold SK gvN; simp only [up_c (show 0 ≠ 59 + 3 * n by omega), up_c (show 0 ≠ 61 + 3 * n by omega)]; exact hK
theorem Simx_grade {nu : Nat} {b : Int} {v z : VV} (h : Simx nu b v z) {n : Nat} {g : Int} (hn : n < nu) (hg4 : 1 ≤ g ∧ g ≤ 4) : Simx nu b (up (up (up (up v (59 + 3 * n) 3 g) (59 + 3 * n) 6 0) (59 + 3 * n) 7 0) (59 + 3 * n) 8 0) (clr (up z 36 n g) n) := by
  obtain ⟨hM, hC, hU, hW, hX, hH, hR, hT, hK⟩ := h
  refine ⟨⟨hM.1, hM.2.1, hM.2.2.1, hM.2.2.2.1, ?_, hM.2.2.2.2.2.1, hM.2.2.2.2.2.2⟩, ?_, ?_, ?_, ?_, ⟨?_, ?_, hH.2.2⟩, ?_, ?_, ?_⟩
  · intro u u0 u1
    have a := hM.2.2.2.2.1 u u0 u1
    refine ⟨a.1, a.2.1, ?_, a.2.2.2.1, a.2.2.2.2⟩
    show 1 ≤ up z 36 n g 36 u ∧ up z 36 n g 36 u ≤ 4
    rw [up_get]; split <;> omega
  · unfold SC; simp only [up_c (show 0 ≠ 59 + 3 * n by omega)]; exact hC
  · intro k hk
    have a := hU k hk
    have e1 : ∀ j : Int, up (up (up (up v (59 + 3 * n) 3 g) (59 + 3 * n) 6 0) (59 + 3 * n) 7 0) (59 + 3 * n) 8 0 (59 + 3 * k) j = if k = n then (if j = 8 ∨ j = 7 ∨ j = 6 then 0 else if j = 3 then g else v (59 + 3 * k) j) else v (59 + 3 * k) j := by
      intro j
      by_cases e : k = n
      · subst e
        simp only [up_get]
        by_cases h8 : j = 8
        · simp [h8]
        · by_cases h7 : j = 7
          · simp [h7]
          · by_cases h6 : j = 6
            · simp [h6]
            · simp [h8, h7, h6]
      · simp only [up_c (show 59 + 3 * k ≠ 59 + 3 * n by omega), e, if_false]
    have e2 : ∀ q : Nat, clr (up z 36 n g) n q k = if k = n then (if q = 38 ∨ q = 39 ∨ q = 40 then 0 else if q = 36 then g else z q k) else z q k := by
      intro q
      rw [clr_get, up_get]
      by_cases e : k = n
      · subst e; simp
      · have e3 : ¬ ((k : Int) = (n : Int)) := by omega
        simp [e, e3]
    rw [e1, e1, e1, e1, e1, e1, e1, e1, e2, e2, e2, e2, e2, e2, e2, e2]
    by_cases e : k = n
    · simp [e]; subst e; exact ⟨a.1, a.2.1, a.2.2.1, a.2.2.2.2.1⟩
    · simp [e]; exact a
  · intro k hk w w0 w1
    simp only [up_c (show 60 + 3 * k ≠ 59 + 3 * n by omega), up_c (show 61 + 3 * k ≠ 59 + 3 * n by omega)]
    exact hW k hk w w0 w1
  · intro q hq
    have g8 : (q : Int) < 8 := by have := hM.2.1; have hg : (q : Int) < z 27 34 := hq; omega
    simp only [up_c (show 8 + q ≠ 59 + 3 * n by omega)]
    exact hX q hq
  · intro t t0 t1; simp only [up_c (show 16 ≠ 59 + 3 * n by omega)]; exact hH.1 t t0 t1
  · intro k hk
    rw [up_nj (show (4 : Int) ≠ 8 by decide), up_nj (show (4 : Int) ≠ 7 by decide), up_nj (show (4 : Int) ≠ 6 by decide), up_nj (show (4 : Int) ≠ 3 by decide)]
    exact hH.2.1 k hk
  · intro k k0 k1; simp only [up_c (show 4 ≠ 59 + 3 * n by omega)]; exact hR k k0 k1
  · unfold ST; simp only [up_c (show 3 ≠ 59 + 3 * n by omega), up_c (show 1 ≠ 59 + 3 * n by omega), up_c (show 2 ≠ 59 + 3 * n by omega)]; exact hT
  · unfold SK gvN; simp only [up_c (show 0 ≠ 59 + 3 * n by omega)]; exact hK
/-- a SEAT's end: who has it stands, and leaves it -/
def es1 (z : VV) (s : Int) : VV := up (st1 z s) 48 s (-1)
def esL : Nat → Int → VV → VV
  | 0, _, z => z
  | k + 1, s, z => esL k (s + 1) (es1 z s)
set_option maxRecDepth 20000 in
set_option maxHeartbeats 1000000 in
theorem c_X5_endSeat (l : Launch) (d nu : Nat) (v : VV) (b : Int) (hbb : b ≤ 200) (z : VV) (hS : Simx nu b v z) (s : Int) (hs : 0 ≤ s ∧ s < 2 * z 27 34) (hst : z 48 s ≠ -1 → z 41 (z 48 s) + 1 ≤ b) : Ct l yX5_endSeat cX5_endSeat none 4 (d + 4) 0 0 [ar (some 0), ai s] (SG nu) v (fun r S2 v2 => r = none ∧ S2 = SG nu ∧ Simx nu b v2 (es1 z s) ∧ KP v v2) := by
  refine Ct_of_G [some (ar (some 0)), some (ai s), none, none] (by decide) rfl rfl ?_
  have hMB : MBx nu b z := hS.1
  have hnn := hMB.1
  have hgm := hMB.2.1
  have hwk := hMB.2.2.1
  have hc6 := hS.2.1.1
  have hc7 := hS.2.1.2.1
  have hc8 := hS.2.1.2.2
  have hg0 : 0 ≤ v 0 7 ∧ v 0 7 ≤ 8 := by omega
  have hu0 : v 0 6 = nu ∧ nu ≤ 20 := ⟨hc6, hnn.1⟩
  refine G_aload_n dX5_endSeat_0 rfl ?_
  refine G_iload_n dX5_endSeat_1 rfl ?_
  refine G_cVa (ci := 5) dX5_endSeat_2 rfl (by decide) rfl (c_X5_holderOf l (d + 2) nu v hu0 hg0 s) mcX5_153 rfl rfl (by show _ ≤ d + 4; omega) rfl rfl (Nat.le_refl _) (Nat.le_refl _) ?_
  by_cases hw : z 48 s = -1
  · rw [(hold_none hS hs.1 hs.2 hw).2]
    have e9 : es1 z s = up z 48 s (-1) := by unfold es1 st1; rw [if_pos hw]
    rw [e9]
    refine G_astore_n dX5_endSeat_5 rfl rfl ?_
    refine G_aload_n dX5_endSeat_6 rfl ?_
    refine G_iload_n dX5_endSeat_7 rfl ?_
    refine G_cVa (ci := 5) dX5_endSeat_8 rfl (by decide) rfl ((by have q := c_X5_gameOf l (d + 2) nu v hg0 s; rwa [if_pos (show 0 ≤ s ∧ s < 2 * v 0 7 by omega)] at q)) mcX5_198 rfl rfl (by show _ ≤ d + 4; omega) rfl rfl (Nat.le_refl _) (Nat.le_refl _) ?_
    refine G_astore_n dX5_endSeat_11 rfl rfl ?_
    refine G_aload_n dX5_endSeat_12 rfl ?_
    refine G_ifnullN 32 dX5_endSeat_13 (by decide) ?_
    refine G_aload_n dX5_endSeat_32 rfl ?_
    refine G_iload_n dX5_endSeat_33 rfl ?_
    refine G_cVq (ci := 5) dX5_endSeat_34 rfl (by decide) rfl (c_X5_clearSeat l (d + 1) nu v b z hS s hs) mcX5_125 rfl rfl (by show _ ≤ d + 4; omega) rfl rfl (Nat.le_refl _) (Nat.le_refl _) (fun r S2 v2 hq9 => ?_)
    obtain ⟨rfl, rfl, hS1, hk1⟩ := hq9
    exact G_vret dX5_endSeat_37 rfl rfl rfl ⟨rfl, rfl, hS1, hk1⟩
  · obtain ⟨hx1, hx2, hx3⟩ := hold_some hS hs.1 hs.2 hw
    rw [hx3]
    have hn : (z 48 s).toNat < nu := by omega
    have hzn : (((z 48 s).toNat : Nat) : Int) = z 48 s := by omega
    have hG := hS.2.2.2.2.1 (s / 2).toNat (by omega)
    have hgt : (((s / 2).toNat : Nat) : Int) = s / 2 := by omega
    rw [hgt] at hG
    have hg8 : (s / 2).toNat < 8 := by omega
    have hU := hS.2.2.1 (z 48 s).toNat hn
    rw [hzn] at hU
    have hUB := hMB.2.2.2.2.1 (z 48 s) hx1.1 hx1.2
    have hst2 := hst hw
    refine G_astore_n dX5_endSeat_5 rfl rfl ?_
    refine G_aload_n dX5_endSeat_6 rfl ?_
    refine G_iload_n dX5_endSeat_7 rfl ?_
    refine G_cVa (ci := 5) dX5_endSeat_8 rfl (by decide) rfl ((by have q := c_X5_gameOf l (d + 2) nu v hg0 s; rwa [if_pos (show 0 ≤ s ∧ s < 2 * v 0 7 by omega)] at q)) mcX5_198 rfl rfl (by show _ ≤ d + 4; omega) rfl rfl (Nat.le_refl _) (Nat.le_refl _) ?_
    refine G_astore_n dX5_endSeat_11 rfl rfl ?_
    refine G_aload_n dX5_endSeat_12 rfl ?_
    refine G_ifnullS dX5_endSeat_13 ?_
    refine G_aload_n dX5_endSeat_16 rfl ?_
    refine G_ifnullS dX5_endSeat_17 ?_
    refine G_aload_n dX5_endSeat_20 rfl ?_
    refine G_aload_n dX5_endSeat_21 rfl ?_
    refine G_getIv (z 27 35) (jj := 8) dX5_endSeat_22 flX5_91 rfl rfl rfl hc8 ?_
    refine G_aload_n dX5_endSeat_25 rfl ?_
    refine G_getNI (jj := 2) dX5_endSeat_26 flX5_208 rfl (by rw [sh_game hg8]) rfl ?_
    rw [hG.2.2.1]
    refine G_cVv (ci := 4) dX5_endSeat_29 (by rw [sh_ump hn]) (by decide) rfl (c_X4_stand l (d + 3) nu v (z 48 s).toNat hn (z 27 35) (z 46 (s / 2)) (by omega) (by omega)) mcX5_225 rfl rfl (by show _ ≤ d + 4; omega) rfl rfl (Nat.le_refl _) (Nat.le_refl _) ?_
    have hS1 := Simx_stand (c := z 46 (s / 2)) hS hn (by rw [hzn]; exact hst2)
    rw [hzn] at hS1
    have e9 : es1 z s = up (up (up z 42 (100 * z 48 s + z 27 35) (z 46 (s / 2))) 41 (z 48 s) (z 41 (z 48 s) + 1)) 48 s (-1) := by unfold es1 st1; rw [if_neg hw]
    rw [e9]
    refine G_aload_n dX5_endSeat_32 rfl ?_
    refine G_iload_n dX5_endSeat_33 rfl ?_
    refine G_cVq (ci := 5) dX5_endSeat_34 rfl (by decide) rfl (c_X5_clearSeat l (d + 1) nu _ b _ hS1 s hs) mcX5_125 rfl rfl (by show _ ≤ d + 4; omega) rfl rfl (Nat.le_refl _) (Nat.le_refl _) (fun r S2 v2 hq9 => ?_)
    obtain ⟨rfl, rfl, hS2, hk1⟩ := hq9
    exact G_vret dX5_endSeat_37 rfl rfl rfl ⟨rfl, rfl, hS2, fun k k1 k2 => (hk1 k k1 k2).trans (by rw [up_ne (by omega), up_ne (by omega)])⟩
set_option maxRecDepth 20000 in
set_option maxHeartbeats 1000000 in
theorem c_X5_regrade (l : Launch) (d nu : Nat) (v : VV) (b t : Int) (z : VV) (hS : Simx nu b v z) (n : Nat) (hn : n < nu) (ht : 0 ≤ t ∧ t ≤ 1000) (hrg : RGok nu t z) : Ct l yX5_regrade cX5_regrade none 4 (d + 2) 0 0 [ar (some 0), ar (some (59 + 3 * n))] (SG nu) v (fun r S2 v2 => r = none ∧ S2 = SG nu ∧ Simx nu b v2 (rg1 z n) ∧ KP v v2) := by
  refine Ct_of_G [some (ar (some 0)), some (ar (some (59 + 3 * n))), none, none] (by decide) rfl rfl ?_
  have hMB : MBx nu b z := hS.1
  have hnn := hMB.1
  have hgm := hMB.2.1
  have hwk := hMB.2.2.1
  have hc6 := hS.2.1.1
  have hc7 := hS.2.1.2.1
  have hc8 := hS.2.1.2.2
  have hg0 : 0 ≤ v 0 7 ∧ v 0 7 ≤ 8 := by omega
  have hu0 : v 0 6 = nu ∧ nu ≤ 20 := ⟨hc6, hnn.1⟩
  have hU := hS.2.2.1 n hn
  have hR := hS.2.2.2.2.2.2.1
  have hrb := hMB.2.2.2.1
  have hr6 := hrb.2.2.2.2.2.2.1
  have hr7 := hrb.2.2.2.2.2.2.2.1
  have hb9 := hrg n (by omega) (by omega)
  have hm6 := mul_bd (show 0 ≤ z 29 6 ∧ z 29 6 ≤ 101 by omega) hb9.2.2.1
  have hm7 := mul_bd hr7 hb9.2.2.1
  have K2 : ∀ hi lo : Int, (hi = 0 ∨ hi = 1) → (hi = 1 ↔ z 29 6 * z 39 n ≤ z 40 n) → (lo = 0 ∨ lo = 1) → (lo = 1 ↔ z 40 n ≤ z 29 7 * z 39 n) → ¬ (z 38 n < z 29 8 ∨ z 39 n = 0) → G l (yX5_regrade, cX5_regrade, none, 4, (d + 2), 0, 0, none) (fun r S2 v2 => r = none ∧ S2 = SG nu ∧ Simx nu b v2 (rg1 z n) ∧ KP v v2) 0 0 (SG nu) 81 [some (ar (some 0)), some (ar (some (59 + 3 * n))), some (ai hi), none] [ai lo] v := by
    intro hi lo h1 h2 h3 h4 hsk
    refine G_istore_n dX5_regrade_81 rfl rfl ?_
    refine G_iload_n dX5_regrade_82 rfl ?_
    refine G_if_eq 107 dX5_regrade_83 (by decide) (fun h83 => ?_) (fun h83 => ?_)
    · refine G_iload_n dX5_regrade_107 rfl ?_
      refine G_if_eq 129 dX5_regrade_108 (by decide) (fun h108 => ?_) (fun h108 => ?_)
      · exact G_vret dX5_regrade_129 rfl rfl rfl (by first | exact ⟨rfl, rfl, by rw [show rg1 z n = clr (up z 36 n (z 36 n - 1)) n from by unfold rg1; rw [if_neg hsk, if_pos (by omega)]]; exact hS2, fun k k1 k2 => by rw [up_ne (by omega), up_ne (by omega), up_ne (by omega), up_ne (by omega)]⟩ | exact ⟨rfl, rfl, by rw [show rg1 z n = clr (up z 36 n (z 36 n + 1)) n from by unfold rg1; rw [if_neg hsk, if_neg (by omega), if_pos (by omega)]]; exact hS2, fun k k1 k2 => by rw [up_ne (by omega), up_ne (by omega), up_ne (by omega), up_ne (by omega)]⟩ | exact ⟨rfl, rfl, by rw [show rg1 z n = z by unfold rg1; rw [if_neg hsk, if_neg (by omega), if_neg (by omega)]]; exact hS, KP.rf⟩)
      · refine G_aload_n dX5_regrade_111 rfl ?_
        refine G_getIv (z 36 n) (jj := 3) dX5_regrade_112 flX5_173 rfl (by rw [sh_ump hn]) rfl hU.2.2.2.1 ?_
        refine G_iconst (n := 4) dX5_regrade_115 ⟨by decide, by decide⟩ ?_
        refine G_icmp_ge 129 dX5_regrade_116 (by decide) (fun h116 => ?_) (fun h116 => ?_)
        · exact G_vret dX5_regrade_129 rfl rfl rfl (by first | exact ⟨rfl, rfl, by rw [show rg1 z n = clr (up z 36 n (z 36 n - 1)) n from by unfold rg1; rw [if_neg hsk, if_pos (by omega)]]; exact hS2, fun k k1 k2 => by rw [up_ne (by omega), up_ne (by omega), up_ne (by omega), up_ne (by omega)]⟩ | exact ⟨rfl, rfl, by rw [show rg1 z n = clr (up z 36 n (z 36 n + 1)) n from by unfold rg1; rw [if_neg hsk, if_neg (by omega), if_pos (by omega)]]; exact hS2, fun k k1 k2 => by rw [up_ne (by omega), up_ne (by omega), up_ne (by omega), up_ne (by omega)]⟩ | exact ⟨rfl, rfl, by rw [show rg1 z n = z by unfold rg1; rw [if_neg hsk, if_neg (by omega), if_neg (by omega)]]; exact hS, KP.rf⟩)
        · refine G_aload_n dX5_regrade_119 rfl ?_
          refine G_aload_n dX5_regrade_120 rfl ?_
          refine G_getIv (z 36 n) (jj := 3) dX5_regrade_121 flX5_173 rfl (by rw [sh_ump hn]) rfl hU.2.2.2.1 ?_
          refine G_iconst (n := 1) dX5_regrade_124 ⟨by decide, by decide⟩ ?_
          refine G_iadd dX5_regrade_125 (iRm (by omega) (by omega)) ?_
          refine G_cVv (ci := 4) dX5_regrade_126 (by rw [sh_ump hn]) (by decide) rfl (c_X4_giveGrade l (d + 1) nu v n hn (z 36 n + 1)) mcX5_228 rfl rfl (by show _ ≤ d + 2; omega) rfl rfl (Nat.le_refl _) (Nat.le_refl _) ?_
          have hS2 := Simx_grade (g := z 36 n + 1) hS hn (by omega)
          exact G_vret dX5_regrade_129 rfl rfl rfl (by first | exact ⟨rfl, rfl, by rw [show rg1 z n = clr (up z 36 n (z 36 n - 1)) n from by unfold rg1; rw [if_neg hsk, if_pos (by omega)]]; exact hS2, fun k k1 k2 => by rw [up_ne (by omega), up_ne (by omega), up_ne (by omega), up_ne (by omega)]⟩ | exact ⟨rfl, rfl, by rw [show rg1 z n = clr (up z 36 n (z 36 n + 1)) n from by unfold rg1; rw [if_neg hsk, if_neg (by omega), if_pos (by omega)]]; exact hS2, fun k k1 k2 => by rw [up_ne (by omega), up_ne (by omega), up_ne (by omega), up_ne (by omega)]⟩ | exact ⟨rfl, rfl, by rw [show rg1 z n = z by unfold rg1; rw [if_neg hsk, if_neg (by omega), if_neg (by omega)]]; exact hS, KP.rf⟩)
    · refine G_aload_n dX5_regrade_86 rfl ?_
      refine G_getIv (z 36 n) (jj := 3) dX5_regrade_87 flX5_173 rfl (by rw [sh_ump hn]) rfl hU.2.2.2.1 ?_
      refine G_iconst (n := 1) dX5_regrade_90 ⟨by decide, by decide⟩ ?_
      refine G_icmp_le 107 dX5_regrade_91 (by decide) (fun h91 => ?_) (fun h91 => ?_)
      · refine G_iload_n dX5_regrade_107 rfl ?_
        refine G_if_eq 129 dX5_regrade_108 (by decide) (fun h108 => ?_) (fun h108 => ?_)
        · exact G_vret dX5_regrade_129 rfl rfl rfl (by first | exact ⟨rfl, rfl, by rw [show rg1 z n = clr (up z 36 n (z 36 n - 1)) n from by unfold rg1; rw [if_neg hsk, if_pos (by omega)]]; exact hS2, fun k k1 k2 => by rw [up_ne (by omega), up_ne (by omega), up_ne (by omega), up_ne (by omega)]⟩ | exact ⟨rfl, rfl, by rw [show rg1 z n = clr (up z 36 n (z 36 n + 1)) n from by unfold rg1; rw [if_neg hsk, if_neg (by omega), if_pos (by omega)]]; exact hS2, fun k k1 k2 => by rw [up_ne (by omega), up_ne (by omega), up_ne (by omega), up_ne (by omega)]⟩ | exact ⟨rfl, rfl, by rw [show rg1 z n = z by unfold rg1; rw [if_neg hsk, if_neg (by omega), if_neg (by omega)]]; exact hS, KP.rf⟩)
        · refine G_aload_n dX5_regrade_111 rfl ?_
          refine G_getIv (z 36 n) (jj := 3) dX5_regrade_112 flX5_173 rfl (by rw [sh_ump hn]) rfl hU.2.2.2.1 ?_
          refine G_iconst (n := 4) dX5_regrade_115 ⟨by decide, by decide⟩ ?_
          refine G_icmp_ge 129 dX5_regrade_116 (by decide) (fun h116 => ?_) (fun h116 => ?_)
          · exact G_vret dX5_regrade_129 rfl rfl rfl (by first | exact ⟨rfl, rfl, by rw [show rg1 z n = clr (up z 36 n (z 36 n - 1)) n from by unfold rg1; rw [if_neg hsk, if_pos (by omega)]]; exact hS2, fun k k1 k2 => by rw [up_ne (by omega), up_ne (by omega), up_ne (by omega), up_ne (by omega)]⟩ | exact ⟨rfl, rfl, by rw [show rg1 z n = clr (up z 36 n (z 36 n + 1)) n from by unfold rg1; rw [if_neg hsk, if_neg (by omega), if_pos (by omega)]]; exact hS2, fun k k1 k2 => by rw [up_ne (by omega), up_ne (by omega), up_ne (by omega), up_ne (by omega)]⟩ | exact ⟨rfl, rfl, by rw [show rg1 z n = z by unfold rg1; rw [if_neg hsk, if_neg (by omega), if_neg (by omega)]]; exact hS, KP.rf⟩)
          · refine G_aload_n dX5_regrade_119 rfl ?_
            refine G_aload_n dX5_regrade_120 rfl ?_
            refine G_getIv (z 36 n) (jj := 3) dX5_regrade_121 flX5_173 rfl (by rw [sh_ump hn]) rfl hU.2.2.2.1 ?_
            refine G_iconst (n := 1) dX5_regrade_124 ⟨by decide, by decide⟩ ?_
            refine G_iadd dX5_regrade_125 (iRm (by omega) (by omega)) ?_
            refine G_cVv (ci := 4) dX5_regrade_126 (by rw [sh_ump hn]) (by decide) rfl (c_X4_giveGrade l (d + 1) nu v n hn (z 36 n + 1)) mcX5_228 rfl rfl (by show _ ≤ d + 2; omega) rfl rfl (Nat.le_refl _) (Nat.le_refl _) ?_
            have hS2 := Simx_grade (g := z 36 n + 1) hS hn (by omega)
            exact G_vret dX5_regrade_129 rfl rfl rfl (by first | exact ⟨rfl, rfl, by rw [show rg1 z n = clr (up z 36 n (z 36 n - 1)) n from by unfold rg1; rw [if_neg hsk, if_pos (by omega)]]; exact hS2, fun k k1 k2 => by rw [up_ne (by omega), up_ne (by omega), up_ne (by omega), up_ne (by omega)]⟩ | exact ⟨rfl, rfl, by rw [show rg1 z n = clr (up z 36 n (z 36 n + 1)) n from by unfold rg1; rw [if_neg hsk, if_neg (by omega), if_pos (by omega)]]; exact hS2, fun k k1 k2 => by rw [up_ne (by omega), up_ne (by omega), up_ne (by omega), up_ne (by omega)]⟩ | exact ⟨rfl, rfl, by rw [show rg1 z n = z by unfold rg1; rw [if_neg hsk, if_neg (by omega), if_neg (by omega)]]; exact hS, KP.rf⟩)
      · refine G_aload_n dX5_regrade_94 rfl ?_
        refine G_aload_n dX5_regrade_95 rfl ?_
        refine G_getIv (z 36 n) (jj := 3) dX5_regrade_96 flX5_173 rfl (by rw [sh_ump hn]) rfl hU.2.2.2.1 ?_
        refine G_iconst (n := 1) dX5_regrade_99 ⟨by decide, by decide⟩ ?_
        refine G_isub dX5_regrade_100 (iRm (by omega) (by omega)) ?_
        refine G_cVv (ci := 4) dX5_regrade_101 (by rw [sh_ump hn]) (by decide) rfl (c_X4_giveGrade l (d + 1) nu v n hn (z 36 n - 1)) mcX5_228 rfl rfl (by show _ ≤ d + 2; omega) rfl rfl (Nat.le_refl _) (Nat.le_refl _) ?_
        have hS2 := Simx_grade (g := z 36 n - 1) hS hn (by omega)
        refine G_goto 129 dX5_regrade_104 (by decide) ?_
        exact G_vret dX5_regrade_129 rfl rfl rfl (by first | exact ⟨rfl, rfl, by rw [show rg1 z n = clr (up z 36 n (z 36 n - 1)) n from by unfold rg1; rw [if_neg hsk, if_pos (by omega)]]; exact hS2, fun k k1 k2 => by rw [up_ne (by omega), up_ne (by omega), up_ne (by omega), up_ne (by omega)]⟩ | exact ⟨rfl, rfl, by rw [show rg1 z n = clr (up z 36 n (z 36 n + 1)) n from by unfold rg1; rw [if_neg hsk, if_neg (by omega), if_pos (by omega)]]; exact hS2, fun k k1 k2 => by rw [up_ne (by omega), up_ne (by omega), up_ne (by omega), up_ne (by omega)]⟩ | exact ⟨rfl, rfl, by rw [show rg1 z n = z by unfold rg1; rw [if_neg hsk, if_neg (by omega), if_neg (by omega)]]; exact hS, KP.rf⟩)
  have K1 : ∀ hi : Int, (hi = 0 ∨ hi = 1) → (hi = 1 ↔ z 29 6 * z 39 n ≤ z 40 n) → ¬ (z 38 n < z 29 8 ∨ z 39 n = 0) → G l (yX5_regrade, cX5_regrade, none, 4, (d + 2), 0, 0, none) (fun r S2 v2 => r = none ∧ S2 = SG nu ∧ Simx nu b v2 (rg1 z n) ∧ KP v v2) 0 0 (SG nu) 54 [some (ar (some 0)), some (ar (some (59 + 3 * n))), none, none] [ai hi] v := by
    intro hi h1 h2 hsk
    refine G_istore_n dX5_regrade_54 rfl rfl ?_
    refine G_aload_n dX5_regrade_55 rfl ?_
    refine G_getIv (z 40 n) (jj := 8) dX5_regrade_56 flX5_185 rfl (by rw [sh_ump hn]) rfl hU.2.2.2.2.2.2.2 ?_
    refine G_aload_n dX5_regrade_59 rfl ?_
    refine G_getR (jj := 1) dX5_regrade_60 flX5_19 rfl rfl rfl ?_
    refine G_bipush (n := 7) dX5_regrade_63 (by decide) ⟨by decide, by decide⟩ ?_
    refine G_cVi (ci := 1) dX5_regrade_65 rfl (by decide) rfl (c_X1_value l (d + 1) nu v 7) mcX5_69 rfl rfl (by show _ ≤ d + 2; omega) rfl rfl (Nat.le_refl _) (Nat.le_refl _) ?_
    rw [if_pos (show (0:Int) ≤ 7 ∧ (7:Int) < 9 by decide), hR 7 (by omega) (by omega)]
    refine G_aload_n dX5_regrade_68 rfl ?_
    refine G_getIv (z 39 n) (jj := 7) dX5_regrade_69 flX5_182 rfl (by rw [sh_ump hn]) rfl hU.2.2.2.2.2.2.1 ?_
    refine G_imul dX5_regrade_72 (iRm (by omega) (by omega)) ?_
    refine G_icmp_gt 80 dX5_regrade_73 (by decide) (fun h73 => ?_) (fun h73 => ?_)
    · refine G_iconst (n := 0) dX5_regrade_80 ⟨by decide, by decide⟩ ?_
      exact K2 hi _ h1 h2 (by omega) (by omega) hsk
    · refine G_iconst (n := 1) dX5_regrade_76 ⟨by decide, by decide⟩ ?_
      refine G_goto 81 dX5_regrade_77 (by decide) ?_
      exact K2 hi _ h1 h2 (by omega) (by omega) hsk
  refine G_aload_n dX5_regrade_0 rfl ?_
  refine G_ifnullS dX5_regrade_1 ?_
  refine G_aload_n dX5_regrade_4 rfl ?_
  refine G_getIv (z 38 n) (jj := 6) dX5_regrade_5 flX5_179 rfl (by rw [sh_ump hn]) rfl hU.2.2.2.2.2.1 ?_
  refine G_aload_n dX5_regrade_8 rfl ?_
  refine G_getR (jj := 1) dX5_regrade_9 flX5_19 rfl rfl rfl ?_
  refine G_bipush (n := 8) dX5_regrade_12 (by decide) ⟨by decide, by decide⟩ ?_
  refine G_cVi (ci := 1) dX5_regrade_14 rfl (by decide) rfl (c_X1_value l (d + 1) nu v 8) mcX5_69 rfl rfl (by show _ ≤ d + 2; omega) rfl rfl (Nat.le_refl _) (Nat.le_refl _) ?_
  rw [if_pos (show (0:Int) ≤ 8 ∧ (8:Int) < 9 by decide), hR 8 (by omega) (by omega)]
  refine G_icmp_lt 27 dX5_regrade_17 (by decide) (fun h17 => ?_) (fun h17 => ?_)
  · exact G_vret dX5_regrade_27 rfl rfl rfl ⟨rfl, rfl, by rw [show rg1 z n = z by unfold rg1; rw [if_pos (by omega)]]; exact hS, KP.rf⟩
  · refine G_aload_n dX5_regrade_20 rfl ?_
    refine G_getIv (z 39 n) (jj := 7) dX5_regrade_21 flX5_182 rfl (by rw [sh_ump hn]) rfl hU.2.2.2.2.2.2.1 ?_
    refine G_if_ne 28 dX5_regrade_24 (by decide) (fun h24 => ?_) (fun h24 => ?_)
    · refine G_aload_n dX5_regrade_28 rfl ?_
      refine G_getIv (z 40 n) (jj := 8) dX5_regrade_29 flX5_185 rfl (by rw [sh_ump hn]) rfl hU.2.2.2.2.2.2.2 ?_
      refine G_aload_n dX5_regrade_32 rfl ?_
      refine G_getR (jj := 1) dX5_regrade_33 flX5_19 rfl rfl rfl ?_
      refine G_bipush (n := 6) dX5_regrade_36 (by decide) ⟨by decide, by decide⟩ ?_
      refine G_cVi (ci := 1) dX5_regrade_38 rfl (by decide) rfl (c_X1_value l (d + 1) nu v 6) mcX5_69 rfl rfl (by show _ ≤ d + 2; omega) rfl rfl (Nat.le_refl _) (Nat.le_refl _) ?_
      rw [if_pos (show (0:Int) ≤ 6 ∧ (6:Int) < 9 by decide), hR 6 (by omega) (by omega)]
      refine G_aload_n dX5_regrade_41 rfl ?_
      refine G_getIv (z 39 n) (jj := 7) dX5_regrade_42 flX5_182 rfl (by rw [sh_ump hn]) rfl hU.2.2.2.2.2.2.1 ?_
      refine G_imul dX5_regrade_45 (iRm (by omega) (by omega)) ?_
      refine G_icmp_lt 53 dX5_regrade_46 (by decide) (fun h46 => ?_) (fun h46 => ?_)
      · refine G_iconst (n := 0) dX5_regrade_53 ⟨by decide, by decide⟩ ?_
        exact K1 _ (by omega) (by omega) (by omega)
      · refine G_iconst (n := 1) dX5_regrade_49 ⟨by decide, by decide⟩ ?_
        refine G_goto 54 dX5_regrade_50 (by decide) ?_
        exact K1 _ (by omega) (by omega) (by omega)
    · exact G_vret dX5_regrade_27 rfl rfl rfl ⟨rfl, rfl, by rw [show rg1 z n = z by unfold rg1; rw [if_pos (by omega)]]; exact hS, KP.rf⟩
