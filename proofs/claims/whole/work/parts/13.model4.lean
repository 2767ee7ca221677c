def shlI (x y : Int) : Int := (Int32.ofInt x <<< (Int32.ofInt y &&& 31)).toInt
def shrI (x y : Int) : Int := (Int32.ofInt x >>> (Int32.ofInt y &&& 31)).toInt
def borI (x y : Int) : Int := (Int32.ofInt x ||| Int32.ofInt y).toInt
def ushrI (x y : Int) : Int := ((Int32.ofInt x).toUInt32 >>> ((Int32.ofInt y).toUInt32 &&& Int32.toUInt32 31)).toInt32.toInt
def btI (x k : Int) : Int := bandI (ushrI x k) 255
def comeL (x : Int) : Nat → Int → VV → VV
  | 0, _, v => v
  | n + 1, k, v => comeL x n (k - 8) (up (up v 28 (v 27 2) (btI x k)) 27 2 (v 27 2 + 1))
def comeV (v : VV) (x : Int) : VV := comeL x 4 24 v
theorem comeV_len (v : VV) (x : Int) : comeV v x 27 2 = v 27 2 + 4 := by
  show v 27 2 + 1 + 1 + 1 + 1 = _
  omega
def feedV (w : VV) (a b c d e : Int) : VV := comeV (comeV (comeV (comeV (comeV w a) b) c) d) e
set_option maxRecDepth 20000 in
set_option maxHeartbeats 1000000 in
theorem c_X6_come (l : Launch) (d nu : Nat) (v : VV) (x : Int) (hx : iR x) (ht : 0 ≤ v 27 2 ∧ v 27 2 ≤ 176) : Ct l yX6_come cX6_come none 3 (d + 0) 0 0 [ar (some 27), ai x] (SG nu) v (rV (SG nu) (comeV v x)) := by
  refine Ct_of_G [some (ar (some 27)), some (ai x), none] (by decide) rfl rfl ?_
  have loop : ∀ (n : Nat) (k : Int) (z : VV), k = 8 * n - 8 → 0 ≤ z 27 2 → z 27 2 + n ≤ 180 → G l (yX6_come, cX6_come, none, 3, (d + 0), 0, 0, none) (rV (SG nu) (comeL x n k z)) 0 0 (SG nu) 3 [some (ar (some 27)), some (ai x), some (ai k)] [] z := by
    intro n
    induction n with
    | zero =>
      intro k z h0 h1 h2
      refine G_iload_n dX6_come_3 rfl ?_
      refine G_if_lt 39 dX6_come_4 (by decide) (fun h4 => ?_) (fun h4 => by omega)
      exact G_vret dX6_come_39 rfl rfl rfl ⟨rfl, rfl, rfl⟩
    | succ n ih =>
    intro k z h0 h1 h2
    refine G_iload_n dX6_come_3 rfl ?_
    refine G_if_lt 39 dX6_come_4 (by decide) (fun h4 => by omega) (fun h4 => ?_)
    refine G_aload_n dX6_come_7 rfl ?_
    refine G_getR (jj := 1) dX6_come_8 flX6_7 rfl rfl rfl ?_
    refine G_aload_n dX6_come_11 rfl ?_
    refine G_getI (jj := 2) dX6_come_12 flX6_105 rfl rfl rfl ?_
    refine G_iload_n dX6_come_15 rfl ?_
    refine G_iload_n dX6_come_16 rfl ?_
    refine G_iushr (ushrI x k) dX6_come_17 rfl ?_
    refine G_sipush (n := 255) dX6_come_18 (by decide) ⟨by decide, by decide⟩ ?_
    refine G_iand (btI x k) dX6_come_21 rfl ?_
    refine G_iast dX6_come_22 rfl (by omega) (by omega) ?_
    refine G_aload_n dX6_come_23 rfl ?_
    refine G_dup_a dX6_come_24 ?_
    refine G_getIv (z 27 2) (jj := 2) dX6_come_25 flX6_105 rfl rfl rfl rfl ?_
    refine G_iconst (n := 1) dX6_come_28 ⟨by decide, by decide⟩ ?_
    refine G_iadd dX6_come_29 (iRm (by omega) (by omega)) ?_
    refine G_putI (jj := 2) dX6_come_30 flX6_105 rfl rfl rfl rfl ?_
    refine G_iinc dX6_come_33 rfl (iRm (by omega) (by omega)) rfl rfl ?_
    refine G_goto 3 dX6_come_36 (by decide) ?_
    exact ih (k + -8) (up (up z 28 (z 27 2) (btI x k)) 27 2 (z 27 2 + 1)) (by omega) (by simp [up_get]; omega) (by simp [up_get]; omega)
  refine G_bipush (n := 24) dX6_come_0 (by decide) ⟨by decide, by decide⟩ ?_
  refine G_istore_n dX6_come_2 rfl rfl ?_
  exact loop 4 24 v (by omega) (by omega) (by omega)
set_option maxRecDepth 20000 in
set_option maxHeartbeats 1000000 in
theorem c_X6_feed (l : Launch) (d nu : Nat) (v : VV) (w : VV) (hw : up v 27 0 0 = w) (a b c q e : Int) (ha : iR a) (hb : iR b) (hc : iR c) (hq : iR q) (he : iR e) (ht : 0 ≤ w 27 2 ∧ w 27 2 ≤ 180) : Ct l yX6_feed cX6_feed (some .int) 6 (d + 1) 0 0 [ar (some 27), ai a, ai b, ai c, ai q, ai e] (SG nu) v (rI (SG nu) (if w 27 2 + 20 ≤ 180 then w 27 2 + 20 else -1) (if w 27 2 + 20 ≤ 180 then feedV w a b c q e else w)) := by
  refine Ct_of_G [some (ar (some 27)), some (ai a), some (ai b), some (ai c), some (ai q), some (ai e)] (by decide) rfl rfl ?_
  refine G_aload_n dX6_feed_0 rfl ?_
  refine G_iconst (n := 0) dX6_feed_1 ⟨by decide, by decide⟩ ?_
  refine G_putI (jj := 0) dX6_feed_2 flX6_101 rfl rfl rfl rfl ?_
  rw [hw]
  refine G_aload_n dX6_feed_5 rfl ?_
  refine G_getI (jj := 2) dX6_feed_6 flX6_105 rfl rfl rfl ?_
  refine G_bipush (n := 20) dX6_feed_9 (by decide) ⟨by decide, by decide⟩ ?_
  refine G_iadd dX6_feed_11 (iRm (by omega) (by omega)) ?_
  refine G_sipush (n := 180) dX6_feed_12 (by decide) ⟨by decide, by decide⟩ ?_
  refine G_icmp_le 20 dX6_feed_15 (by decide) (fun h15 => ?_) (fun h15 => ?_)
  · refine G_aload_n dX6_feed_20 rfl ?_
    refine G_iload_n dX6_feed_21 rfl ?_
    refine G_cVv (ci := 6) dX6_feed_22 rfl (by decide) rfl (c_X6_come l (d + 0) nu (w) a ha (by first | omega | (simp only [comeV_len]; omega))) mcX6_108 rfl rfl (by show _ ≤ d + 1; omega) rfl rfl (Nat.le_refl _) (Nat.le_refl _) ?_
    refine G_aload_n dX6_feed_25 rfl ?_
    refine G_iload_n dX6_feed_26 rfl ?_
    refine G_cVv (ci := 6) dX6_feed_27 rfl (by decide) rfl (c_X6_come l (d + 0) nu (comeV (w) a) b hb (by first | omega | (simp only [comeV_len]; omega))) mcX6_108 rfl rfl (by show _ ≤ d + 1; omega) rfl rfl (Nat.le_refl _) (Nat.le_refl _) ?_
    refine G_aload_n dX6_feed_30 rfl ?_
    refine G_iload_n dX6_feed_31 rfl ?_
    refine G_cVv (ci := 6) dX6_feed_32 rfl (by decide) rfl (c_X6_come l (d + 0) nu (comeV (comeV (w) a) b) c hc (by first | omega | (simp only [comeV_len]; omega))) mcX6_108 rfl rfl (by show _ ≤ d + 1; omega) rfl rfl (Nat.le_refl _) (Nat.le_refl _) ?_
    refine G_aload_n dX6_feed_35 rfl ?_
    refine G_iload dX6_feed_36 rfl ?_
    refine G_cVv (ci := 6) dX6_feed_38 rfl (by decide) rfl (c_X6_come l (d + 0) nu (comeV (comeV (comeV (w) a) b) c) q hq (by first | omega | (simp only [comeV_len]; omega))) mcX6_108 rfl rfl (by show _ ≤ d + 1; omega) rfl rfl (Nat.le_refl _) (Nat.le_refl _) ?_
    refine G_aload_n dX6_feed_41 rfl ?_
    refine G_iload dX6_feed_42 rfl ?_
    refine G_cVv (ci := 6) dX6_feed_44 rfl (by decide) rfl (c_X6_come l (d + 0) nu (comeV (comeV (comeV (comeV (w) a) b) c) q) e he (by first | omega | (simp only [comeV_len]; omega))) mcX6_108 rfl rfl (by show _ ≤ d + 1; omega) rfl rfl (Nat.le_refl _) (Nat.le_refl _) ?_
    refine G_aload_n dX6_feed_47 rfl ?_
    refine G_getI (jj := 2) dX6_feed_48 flX6_105 rfl rfl rfl ?_
    exact G_iret dX6_feed_51 rfl rfl rfl ⟨by rw [if_pos (by omega)]; congr 2; simp only [comeV_len]; omega, rfl, by rw [if_pos (by omega)]; rfl⟩
  · refine G_iconst (n := (-1)) dX6_feed_18 ⟨by decide, by decide⟩ ?_
    exact G_iret dX6_feed_19 rfl rfl rfl ⟨by rw [if_neg (by omega)], rfl, by rw [if_neg (by omega)]⟩
set_option maxRecDepth 20000 in
set_option maxHeartbeats 1000000 in
theorem c_X6_away (l : Launch) (d nu : Nat) (v : VV) (w : VV) (hw : up v 27 0 0 = w) (hB : MB nu w) (u x b : Int) (hb : b = 0 ∨ b = 1) : Ct l yX6_away cX6_away (some .boolean) 4 (d + 1) 0 0 [ar (some 27), ai u, ai x, ai b] (SG nu) v (rI (SG nu) (if (0 ≤ u ∧ u < nu) ∧ (w 27 35 ≤ x ∧ x ≤ 99) ∧ ¬ (x = w 27 35 ∧ seatOfS w u ≠ -1) ∧ w 43 (100 * u + x) ≠ b then 1 else 0) (if (0 ≤ u ∧ u < nu) ∧ (w 27 35 ≤ x ∧ x ≤ 99) ∧ ¬ (x = w 27 35 ∧ seatOfS w u ≠ -1) ∧ w 43 (100 * u + x) ≠ b then up w 43 (100 * u + x) b else w)) := by
  refine Ct_of_G [some (ar (some 27)), some (ai u), some (ai x), some (ai b)] (by decide) rfl rfl ?_
  have hn := hB.1
  have hgm := hB.2.1
  have hwk := hB.2.2.1
  refine G_aload_n dX6_away_0 rfl ?_
  refine G_iconst (n := 0) dX6_away_1 ⟨by decide, by decide⟩ ?_
  refine G_putI (jj := 0) dX6_away_2 flX6_101 rfl rfl rfl rfl ?_
  rw [hw]
  refine G_aload_n dX6_away_5 rfl ?_
  refine G_iload_n dX6_away_6 rfl ?_
  refine G_cVi (ci := 6) dX6_away_7 rfl (by decide) rfl (c_X6_isUmpire l (d + 0) nu w u) mcX6_191 rfl rfl (by show _ ≤ d + 1; omega) rfl rfl (Nat.le_refl _) (Nat.le_refl _) ?_
  refine G_if_eq 58 dX6_away_10 (by decide) (fun h10 => ?_) (fun h10 => ?_)
  · refine G_iconst (n := 0) dX6_away_58 ⟨by decide, by decide⟩ ?_
    exact G_zret dX6_away_59 rfl (by omega) rfl rfl ⟨by rw [if_neg (by omega)], rfl, by rw [if_neg (by omega)]⟩
  · refine G_iload_n dX6_away_13 rfl ?_
    refine G_aload_n dX6_away_14 rfl ?_
    refine G_getI (jj := 35) dX6_away_15 flX6_194 rfl rfl rfl ?_
    refine G_bipush (n := 99) dX6_away_18 (by decide) ⟨by decide, by decide⟩ ?_
    refine G_cSi dX6_away_20 (c_X6_isIn l (d + 0) nu w x (w 27 35) 99) mcX6_187 rfl rfl (by show _ ≤ d + 1; omega) rfl rfl (Nat.le_refl _) (Nat.le_refl _) ?_
    refine G_if_eq 58 dX6_away_23 (by decide) (fun h23 => ?_) (fun h23 => ?_)
    · refine G_iconst (n := 0) dX6_away_58 ⟨by decide, by decide⟩ ?_
      exact G_zret dX6_away_59 rfl (by omega) rfl rfl ⟨by rw [if_neg (by omega)], rfl, by rw [if_neg (by omega)]⟩
    · refine G_iload_n dX6_away_26 rfl ?_
      refine G_aload_n dX6_away_27 rfl ?_
      refine G_getI (jj := 35) dX6_away_28 flX6_194 rfl rfl rfl ?_
      refine G_icmp_ne 43 dX6_away_31 (by decide) (fun h31 => ?_) (fun h31 => ?_)
      · refine G_aload_n dX6_away_43 rfl ?_
        refine G_getR (jj := 26) dX6_away_44 flX6_55 rfl rfl rfl ?_
        refine G_bipush (n := 100) dX6_away_47 (by decide) ⟨by decide, by decide⟩ ?_
        refine G_iload_n dX6_away_49 rfl ?_
        refine G_imul dX6_away_50 (iRm (by omega) (by omega)) ?_
        refine G_iload_n dX6_away_51 rfl ?_
        refine G_iadd dX6_away_52 (iRm (by omega) (by omega)) ?_
        refine G_zald dX6_away_53 rfl (by omega) (by omega) ?_
        refine G_iload_n dX6_away_54 rfl ?_
        refine G_icmp_ne 60 dX6_away_55 (by decide) (fun h55 => ?_) (fun h55 => ?_)
        · refine G_aload_n dX6_away_60 rfl ?_
          refine G_getR (jj := 26) dX6_away_61 flX6_55 rfl rfl rfl ?_
          refine G_bipush (n := 100) dX6_away_64 (by decide) ⟨by decide, by decide⟩ ?_
          refine G_iload_n dX6_away_66 rfl ?_
          refine G_imul dX6_away_67 (iRm (by omega) (by omega)) ?_
          refine G_iload_n dX6_away_68 rfl ?_
          refine G_iadd dX6_away_69 (iRm (by omega) (by omega)) ?_
          refine G_iload_n dX6_away_70 rfl ?_
          refine G_zast dX6_away_71 rfl (by omega) (by omega) hb ?_
          refine G_iconst (n := 1) dX6_away_72 ⟨by decide, by decide⟩ ?_
          exact G_zret dX6_away_73 rfl (by omega) rfl rfl ⟨by rw [if_pos (by omega)], rfl, by rw [if_pos (by omega)]⟩
        · refine G_iconst (n := 0) dX6_away_58 ⟨by decide, by decide⟩ ?_
          exact G_zret dX6_away_59 rfl (by omega) rfl rfl ⟨by rw [if_neg (by omega)], rfl, by rw [if_neg (by omega)]⟩
      · refine G_aload_n dX6_away_34 rfl ?_
        refine G_iload_n dX6_away_35 rfl ?_
        refine G_cVi (ci := 6) dX6_away_36 rfl (by decide) rfl (c_X6_seatOf l (d + 0) nu w u hgm) mcX6_197 rfl rfl (by show _ ≤ d + 1; omega) rfl rfl (Nat.le_refl _) (Nat.le_refl _) ?_
        refine G_iconst (n := (-1)) dX6_away_39 ⟨by decide, by decide⟩ ?_
        refine G_icmp_ne 58 dX6_away_40 (by decide) (fun h40 => ?_) (fun h40 => ?_)
        · refine G_iconst (n := 0) dX6_away_58 ⟨by decide, by decide⟩ ?_
          exact G_zret dX6_away_59 rfl (by omega) rfl rfl ⟨by rw [if_neg (by omega)], rfl, by rw [if_neg (by omega)]⟩
        · refine G_aload_n dX6_away_43 rfl ?_
          refine G_getR (jj := 26) dX6_away_44 flX6_55 rfl rfl rfl ?_
          refine G_bipush (n := 100) dX6_away_47 (by decide) ⟨by decide, by decide⟩ ?_
          refine G_iload_n dX6_away_49 rfl ?_
          refine G_imul dX6_away_50 (iRm (by omega) (by omega)) ?_
          refine G_iload_n dX6_away_51 rfl ?_
          refine G_iadd dX6_away_52 (iRm (by omega) (by omega)) ?_
          refine G_zald dX6_away_53 rfl (by omega) (by omega) ?_
          refine G_iload_n dX6_away_54 rfl ?_
          refine G_icmp_ne 60 dX6_away_55 (by decide) (fun h55 => ?_) (fun h55 => ?_)
          · refine G_aload_n dX6_away_60 rfl ?_
            refine G_getR (jj := 26) dX6_away_61 flX6_55 rfl rfl rfl ?_
            refine G_bipush (n := 100) dX6_away_64 (by decide) ⟨by decide, by decide⟩ ?_
            refine G_iload_n dX6_away_66 rfl ?_
            refine G_imul dX6_away_67 (iRm (by omega) (by omega)) ?_
            refine G_iload_n dX6_away_68 rfl ?_
            refine G_iadd dX6_away_69 (iRm (by omega) (by omega)) ?_
            refine G_iload_n dX6_away_70 rfl ?_
            refine G_zast dX6_away_71 rfl (by omega) (by omega) hb ?_
            refine G_iconst (n := 1) dX6_away_72 ⟨by decide, by decide⟩ ?_
            exact G_zret dX6_away_73 rfl (by omega) rfl rfl ⟨by rw [if_pos (by omega)], rfl, by rw [if_pos (by omega)]⟩
          · refine G_iconst (n := 0) dX6_away_58 ⟨by decide, by decide⟩ ?_
            exact G_zret dX6_away_59 rfl (by omega) rfl rfl ⟨by rw [if_neg (by omega)], rfl, by rw [if_neg (by omega)]⟩
def gmL : Nat → Int → VV → VV
  | 0, _, v => v
  | n + 1, s, v => gmL n (s + 1) (up (up v 48 s (-1)) 49 s 0)
def clubsI (a b : Int) : Int := borI (shlI 1 a) (shlI 1 b)
def gameW (w : VV) (x y a b g : Int) : VV := up (up (up (up w 44 (w 27 34) x) 45 (w 27 34) y) 46 (w 27 34) (clubsI a b)) 47 (w 27 34) g
def gameV (w : VV) (x y a b g : Int) : VV := up (gmL 2 (2 * w 27 34) (gameW w x y a b g)) 27 34 (w 27 34 + 1)
set_option maxRecDepth 20000 in
set_option maxHeartbeats 1000000 in
theorem c_X6_game (l : Launch) (d nu : Nat) (v : VV) (w : VV) (hw : up v 27 0 0 = w) (hB : MB nu w) (x y a b g : Int) : Ct l yX6_game cX6_game (some .int) 7 (d + 1) 0 0 [ar (some 27), ai x, ai y, ai a, ai b, ai g] (SG nu) v (rI (SG nu) (if w 27 34 ≠ 8 ∧ (0 ≤ x ∧ x ≤ 99) ∧ (0 ≤ y ∧ y ≤ 99) ∧ (0 ≤ a ∧ a ≤ 11) ∧ (0 ≤ b ∧ b ≤ 11) ∧ a ≠ b ∧ (1 ≤ g ∧ g ≤ 4) then w 27 34 else -1) (if w 27 34 ≠ 8 ∧ (0 ≤ x ∧ x ≤ 99) ∧ (0 ≤ y ∧ y ≤ 99) ∧ (0 ≤ a ∧ a ≤ 11) ∧ (0 ≤ b ∧ b ≤ 11) ∧ a ≠ b ∧ (1 ≤ g ∧ g ≤ 4) then gameV w x y a b g else w)) := by
  refine Ct_of_G [some (ar (some 27)), some (ai x), some (ai y), some (ai a), some (ai b), some (ai g), none] (by decide) rfl rfl ?_
  have hn := hB.1
  have hgm := hB.2.1
  have hwk := hB.2.2.1
  have loop : ∀ (n : Nat) (s : Int) (z : VV), z 27 34 = w 27 34 → w 27 34 < 8 → 0 ≤ s → s + n = 2 * w 27 34 + 2 → G l (yX6_game, cX6_game, (some .int), 7, (d + 1), 0, 0, none) (rI (SG nu) (w 27 34) (up (gmL n s z) 27 34 (w 27 34 + 1))) 0 0 (SG nu) 129 [some (ar (some 27)), some (ai x), some (ai y), some (ai a), some (ai b), some (ai g), some (ai s)] [] z := by
    intro n
    induction n using Nat.strongRecOn with
    | ind n ih =>
    intro s z hz h8 h0 h1
    refine G_iload dX6_game_129 rfl ?_
    refine G_iconst (n := 2) dX6_game_131 ⟨by decide, by decide⟩ ?_
    refine G_aload_n dX6_game_132 rfl ?_
    refine G_getIv (w 27 34) (jj := 34) dX6_game_133 flX6_184 rfl rfl rfl hz ?_
    refine G_imul dX6_game_136 (iRm (by omega) (by omega)) ?_
    refine G_iconst (n := 2) dX6_game_137 ⟨by decide, by decide⟩ ?_
    refine G_iadd dX6_game_138 (iRm (by omega) (by omega)) ?_
    refine G_icmp_ge 164 dX6_game_139 (by decide) (fun h139 => ?_) (fun h139 => ?_)
    · obtain rfl : n = 0 := by omega
      refine G_aload_n dX6_game_164 rfl ?_
      refine G_dup_a dX6_game_165 ?_
      refine G_getIv (w 27 34) (jj := 34) dX6_game_166 flX6_184 rfl rfl rfl hz ?_
      refine G_iconst (n := 1) dX6_game_169 ⟨by decide, by decide⟩ ?_
      refine G_iadd dX6_game_170 (iRm (by omega) (by omega)) ?_
      refine G_putI (jj := 34) dX6_game_171 flX6_184 rfl rfl rfl rfl ?_
      refine G_aload_n dX6_game_174 rfl ?_
      refine G_getIv (w 27 34 + 1) (jj := 34) dX6_game_175 flX6_184 rfl rfl rfl rfl ?_
      refine G_iconst (n := 1) dX6_game_178 ⟨by decide, by decide⟩ ?_
      refine G_isub dX6_game_179 (iRm (by omega) (by omega)) ?_
      exact G_iret dX6_game_180 rfl rfl rfl ⟨by congr 2; omega, rfl, rfl⟩
    · obtain ⟨n, rfl⟩ : ∃ k, n = k + 1 := ⟨n - 1, by omega⟩
      refine G_aload_n dX6_game_142 rfl ?_
      refine G_getR (jj := 31) dX6_game_143 flX6_71 rfl rfl rfl ?_
      refine G_iload dX6_game_146 rfl ?_
      refine G_iconst (n := (-1)) dX6_game_148 ⟨by decide, by decide⟩ ?_
      refine G_iast dX6_game_149 rfl (by omega) (by omega) ?_
      refine G_aload_n dX6_game_150 rfl ?_
      refine G_getR (jj := 32) dX6_game_151 flX6_74 rfl rfl rfl ?_
      refine G_iload dX6_game_154 rfl ?_
      refine G_iconst (n := 0) dX6_game_156 ⟨by decide, by decide⟩ ?_
      refine G_iast dX6_game_157 rfl (by omega) (by omega) ?_
      refine G_iinc dX6_game_158 rfl (iRm (by omega) (by omega)) rfl rfl ?_
      refine G_goto 129 dX6_game_161 (by decide) ?_
      exact ih n (by omega) (s + 1) (up (up z 48 s (-1)) 49 s 0) (by simp [up_get]; exact hz) h8 (by omega) (by omega)
  refine G_aload_n dX6_game_0 rfl ?_
  refine G_iconst (n := 0) dX6_game_1 ⟨by decide, by decide⟩ ?_
  refine G_putI (jj := 0) dX6_game_2 flX6_101 rfl rfl rfl rfl ?_
  rw [hw]
  refine G_aload_n dX6_game_5 rfl ?_
  refine G_getI (jj := 34) dX6_game_6 flX6_184 rfl rfl rfl ?_
  refine G_bipush (n := 8) dX6_game_9 (by decide) ⟨by decide, by decide⟩ ?_
  refine G_icmp_eq 71 dX6_game_11 (by decide) (fun h11 => ?_) (fun h11 => ?_)
  · refine G_iconst (n := (-1)) dX6_game_71 ⟨by decide, by decide⟩ ?_
    exact G_iret dX6_game_72 rfl rfl rfl ⟨by rw [if_neg (by omega)], rfl, by rw [if_neg (by omega)]⟩
  · refine G_iload_n dX6_game_14 rfl ?_
    refine G_iconst (n := 0) dX6_game_15 ⟨by decide, by decide⟩ ?_
    refine G_bipush (n := 99) dX6_game_16 (by decide) ⟨by decide, by decide⟩ ?_
    refine G_cSi dX6_game_18 (c_X6_isIn l (d + 0) nu w x 0 99) mcX6_187 rfl rfl (by show _ ≤ d + 1; omega) rfl rfl (Nat.le_refl _) (Nat.le_refl _) ?_
    refine G_if_eq 71 dX6_game_21 (by decide) (fun h21 => ?_) (fun h21 => ?_)
    · refine G_iconst (n := (-1)) dX6_game_71 ⟨by decide, by decide⟩ ?_
      exact G_iret dX6_game_72 rfl rfl rfl ⟨by rw [if_neg (by omega)], rfl, by rw [if_neg (by omega)]⟩
    · refine G_iload_n dX6_game_24 rfl ?_
      refine G_iconst (n := 0) dX6_game_25 ⟨by decide, by decide⟩ ?_
      refine G_bipush (n := 99) dX6_game_26 (by decide) ⟨by decide, by decide⟩ ?_
      refine G_cSi dX6_game_28 (c_X6_isIn l (d + 0) nu w y 0 99) mcX6_187 rfl rfl (by show _ ≤ d + 1; omega) rfl rfl (Nat.le_refl _) (Nat.le_refl _) ?_
      refine G_if_eq 71 dX6_game_31 (by decide) (fun h31 => ?_) (fun h31 => ?_)
      · refine G_iconst (n := (-1)) dX6_game_71 ⟨by decide, by decide⟩ ?_
        exact G_iret dX6_game_72 rfl rfl rfl ⟨by rw [if_neg (by omega)], rfl, by rw [if_neg (by omega)]⟩
      · refine G_iload_n dX6_game_34 rfl ?_
        refine G_iconst (n := 0) dX6_game_35 ⟨by decide, by decide⟩ ?_
        refine G_bipush (n := 11) dX6_game_36 (by decide) ⟨by decide, by decide⟩ ?_
        refine G_cSi dX6_game_38 (c_X6_isIn l (d + 0) nu w a 0 11) mcX6_187 rfl rfl (by show _ ≤ d + 1; omega) rfl rfl (Nat.le_refl _) (Nat.le_refl _) ?_
        refine G_if_eq 71 dX6_game_41 (by decide) (fun h41 => ?_) (fun h41 => ?_)
        · refine G_iconst (n := (-1)) dX6_game_71 ⟨by decide, by decide⟩ ?_
          exact G_iret dX6_game_72 rfl rfl rfl ⟨by rw [if_neg (by omega)], rfl, by rw [if_neg (by omega)]⟩
        · refine G_iload dX6_game_44 rfl ?_
          refine G_iconst (n := 0) dX6_game_46 ⟨by decide, by decide⟩ ?_
          refine G_bipush (n := 11) dX6_game_47 (by decide) ⟨by decide, by decide⟩ ?_
          refine G_cSi dX6_game_49 (c_X6_isIn l (d + 0) nu w b 0 11) mcX6_187 rfl rfl (by show _ ≤ d + 1; omega) rfl rfl (Nat.le_refl _) (Nat.le_refl _) ?_
          refine G_if_eq 71 dX6_game_52 (by decide) (fun h52 => ?_) (fun h52 => ?_)
          · refine G_iconst (n := (-1)) dX6_game_71 ⟨by decide, by decide⟩ ?_
            exact G_iret dX6_game_72 rfl rfl rfl ⟨by rw [if_neg (by omega)], rfl, by rw [if_neg (by omega)]⟩
          · refine G_iload_n dX6_game_55 rfl ?_
            refine G_iload dX6_game_56 rfl ?_
            refine G_icmp_eq 71 dX6_game_58 (by decide) (fun h58 => ?_) (fun h58 => ?_)
            · refine G_iconst (n := (-1)) dX6_game_71 ⟨by decide, by decide⟩ ?_
              exact G_iret dX6_game_72 rfl rfl rfl ⟨by rw [if_neg (by omega)], rfl, by rw [if_neg (by omega)]⟩
            · refine G_iload dX6_game_61 rfl ?_
              refine G_iconst (n := 1) dX6_game_63 ⟨by decide, by decide⟩ ?_
              refine G_iconst (n := 4) dX6_game_64 ⟨by decide, by decide⟩ ?_
              refine G_cSi dX6_game_65 (c_X6_isIn l (d + 0) nu w g 1 4) mcX6_187 rfl rfl (by show _ ≤ d + 1; omega) rfl rfl (Nat.le_refl _) (Nat.le_refl _) ?_
              refine G_if_ne 73 dX6_game_68 (by decide) (fun h68 => ?_) (fun h68 => ?_)
              · refine G_aload_n dX6_game_73 rfl ?_
                refine G_getR (jj := 27) dX6_game_74 flX6_59 rfl rfl rfl ?_
                refine G_aload_n dX6_game_77 rfl ?_
                refine G_getIv (w 27 34) (jj := 34) dX6_game_78 flX6_184 rfl rfl rfl rfl ?_
                refine G_iload_n dX6_game_81 rfl ?_
                refine G_iast dX6_game_82 rfl (by omega) (by omega) ?_
                refine G_aload_n dX6_game_83 rfl ?_
                refine G_getR (jj := 28) dX6_game_84 flX6_62 rfl rfl rfl ?_
                refine G_aload_n dX6_game_87 rfl ?_
                refine G_getIv (w 27 34) (jj := 34) dX6_game_88 flX6_184 rfl rfl rfl rfl ?_
                refine G_iload_n dX6_game_91 rfl ?_
                refine G_iast dX6_game_92 rfl (by omega) (by omega) ?_
                refine G_aload_n dX6_game_93 rfl ?_
                refine G_getR (jj := 29) dX6_game_94 flX6_65 rfl rfl rfl ?_
                refine G_aload_n dX6_game_97 rfl ?_
                refine G_getIv (w 27 34) (jj := 34) dX6_game_98 flX6_184 rfl rfl rfl rfl ?_
                refine G_iconst (n := 1) dX6_game_101 ⟨by decide, by decide⟩ ?_
                refine G_iload_n dX6_game_102 rfl ?_
                refine G_ishl (shlI 1 a) dX6_game_103 rfl ?_
                refine G_iconst (n := 1) dX6_game_104 ⟨by decide, by decide⟩ ?_
                refine G_iload dX6_game_105 rfl ?_
                refine G_ishl (shlI 1 b) dX6_game_107 rfl ?_
                refine G_ior (clubsI a b) dX6_game_108 rfl ?_
                refine G_iast dX6_game_109 rfl (by omega) (by omega) ?_
                refine G_aload_n dX6_game_110 rfl ?_
                refine G_getR (jj := 30) dX6_game_111 flX6_68 rfl rfl rfl ?_
                refine G_aload_n dX6_game_114 rfl ?_
                refine G_getIv (w 27 34) (jj := 34) dX6_game_115 flX6_184 rfl rfl rfl rfl ?_
                refine G_iload dX6_game_118 rfl ?_
                refine G_iast dX6_game_120 rfl (by omega) (by omega) ?_
                refine G_iconst (n := 2) dX6_game_121 ⟨by decide, by decide⟩ ?_
                refine G_aload_n dX6_game_122 rfl ?_
                refine G_getIv (w 27 34) (jj := 34) dX6_game_123 flX6_184 rfl rfl rfl rfl ?_
                refine G_imul dX6_game_126 (iRm (by omega) (by omega)) ?_
                refine G_istore dX6_game_127 rfl rfl ?_
                have hok : w 27 34 ≠ 8 ∧ (0 ≤ x ∧ x ≤ 99) ∧ (0 ≤ y ∧ y ≤ 99) ∧ (0 ≤ a ∧ a ≤ 11) ∧ (0 ≤ b ∧ b ≤ 11) ∧ a ≠ b ∧ (1 ≤ g ∧ g ≤ 4) := by omega
                rw [if_pos hok, if_pos hok]
                exact loop 2 (2 * w 27 34) (gameW w x y a b g) rfl (by omega) (by omega) (by omega)
              · refine G_iconst (n := (-1)) dX6_game_71 ⟨by decide, by decide⟩ ?_
                exact G_iret dX6_game_72 rfl rfl rfl ⟨by rw [if_neg (by omega)], rfl, by rw [if_neg (by omega)]⟩
/-- the counts of MARKS; t: how many calls there were -/
def CB (nu : Nat) (t : Int) (v : VV) : Prop := (0 ≤ t ∧ t ≤ 1000) ∧ (0 ≤ v 27 36 ∧ v 27 36 ≤ t) ∧ ∀ u : Int, 0 ≤ u → u < nu → (0 ≤ v 38 u ∧ v 38 u ≤ t) ∧ (0 ≤ v 39 u ∧ v 39 u ≤ 9 * t) ∧ (0 ≤ v 40 u ∧ v 40 u ≤ 900 * t)
def markN (w : VV) (b : Int) : Int := if b = 0 then w 29 5 else w 29 4
def markV (w : VV) (s c q b : Int) : VV := up (up (up (up (up w 49 s (borI (w 49 s) (shlI 1 c))) 38 (w 48 s) (w 38 (w 48 s) + 1)) 39 (w 48 s) (w 39 (w 48 s) + markN w b)) 40 (w 48 s) (w 40 (w 48 s) + markN w b * q)) 27 36 (w 27 36 + 1)
set_option maxRecDepth 20000 in
set_option maxHeartbeats 1000000 in
theorem c_X6_mark (l : Launch) (d nu : Nat) (v : VV) (w : VV) (hw : up v 27 0 0 = w) (hB : MB nu w) (t : Int) (hcb : CB nu t w) (s c q b : Int) (hb : b = 0 ∨ b = 1) : Ct l yX6_mark cX6_mark (some .boolean) 7 (d + 1) 0 0 [ar (some 27), ai s, ai c, ai q, ai b] (SG nu) v (rI (SG nu) (if (0 ≤ s ∧ s < 2 * w 27 34) ∧ w 48 s ≠ -1 ∧ (0 ≤ c ∧ c ≤ 1) ∧ (0 ≤ q ∧ q ≤ 100) ∧ bandI (shrI (w 49 s) c) 1 ≠ 1 then 1 else 0) (if (0 ≤ s ∧ s < 2 * w 27 34) ∧ w 48 s ≠ -1 ∧ (0 ≤ c ∧ c ≤ 1) ∧ (0 ≤ q ∧ q ≤ 100) ∧ bandI (shrI (w 49 s) c) 1 ≠ 1 then markV w s c q b else w)) := by
  refine Ct_of_G [some (ar (some 27)), some (ai s), some (ai c), some (ai q), some (ai b), none, none] (by decide) rfl rfl ?_
  have hn := hB.1
  have hgm := hB.2.1
  have hwk := hB.2.2.1
  have hr4 := hB.2.2.2.1.2.2.2.2.1
  have hr5 := hB.2.2.2.1.2.2.2.2.2.1
  have ht := hcb.1
  have hmn := hcb.2.1
  have fin : ∀ N : Int, N = markN w b → (0 ≤ s ∧ s < 2 * w 27 34) → w 48 s ≠ -1 → (0 ≤ q ∧ q ≤ 100) → G l (yX6_mark, cX6_mark, (some .boolean), 7, (d + 1), 0, 0, none) (rI (SG nu) 1 (markV w s c q b)) 0 0 (SG nu) 83 [some (ar (some 27)), some (ai s), some (ai c), some (ai q), some (ai b), some (ai (w 48 s)), some (ai N)] [] w := by
    intro N hN hs hw1 hq
    have hN2 : 0 ≤ N ∧ N ≤ 9 := by rw [hN]; unfold markN; split <;> omega
    have hws := hB.2.2.2.2.2.2 s (by omega) (by omega)
    have hct := hcb.2.2 (w 48 s) (by omega) (by omega)
    have hmu := mul_bd hN2 hq
    refine G_aload_n dX6_mark_83 rfl ?_
    refine G_getR (jj := 32) dX6_mark_84 flX6_74 rfl rfl rfl ?_
    refine G_iload_n dX6_mark_87 rfl ?_
    refine G_dup2 dX6_mark_88 ?_
    refine G_iald dX6_mark_89 rfl (by omega) (by omega) ?_
    refine G_iconst (n := 1) dX6_mark_90 ⟨by decide, by decide⟩ ?_
    refine G_iload_n dX6_mark_91 rfl ?_
    refine G_ishl (shlI 1 c) dX6_mark_92 rfl ?_
    refine G_ior (borI (w 49 s) (shlI 1 c)) dX6_mark_93 rfl ?_
    refine G_iast dX6_mark_94 rfl (by omega) (by omega) ?_
    refine G_aload_n dX6_mark_95 rfl ?_
    refine G_getR (jj := 21) dX6_mark_96 flX6_40 rfl rfl rfl ?_
    refine G_iload dX6_mark_99 rfl ?_
    refine G_dup2 dX6_mark_101 ?_
    refine G_ialdv (w 38 (w 48 s)) dX6_mark_102 rfl (by omega) (by omega) rfl ?_
    refine G_iconst (n := 1) dX6_mark_103 ⟨by decide, by decide⟩ ?_
    refine G_iadd dX6_mark_104 (iRm (by omega) (by omega)) ?_
    refine G_iast dX6_mark_105 rfl (by omega) (by omega) ?_
    refine G_aload_n dX6_mark_106 rfl ?_
    refine G_getR (jj := 22) dX6_mark_107 flX6_43 rfl rfl rfl ?_
    refine G_iload dX6_mark_110 rfl ?_
    refine G_dup2 dX6_mark_112 ?_
    refine G_ialdv (w 39 (w 48 s)) dX6_mark_113 rfl (by omega) (by omega) rfl ?_
    refine G_iload dX6_mark_114 rfl ?_
    refine G_iadd dX6_mark_116 (iRm (by omega) (by omega)) ?_
    refine G_iast dX6_mark_117 rfl (by omega) (by omega) ?_
    refine G_aload_n dX6_mark_118 rfl ?_
    refine G_getR (jj := 23) dX6_mark_119 flX6_46 rfl rfl rfl ?_
    refine G_iload dX6_mark_122 rfl ?_
    refine G_dup2 dX6_mark_124 ?_
    refine G_ialdv (w 40 (w 48 s)) dX6_mark_125 rfl (by omega) (by omega) rfl ?_
    refine G_iload dX6_mark_126 rfl ?_
    refine G_iload_n dX6_mark_128 rfl ?_
    refine G_imul dX6_mark_129 (iRm (by omega) (by omega)) ?_
    refine G_iadd dX6_mark_130 (iRm (by omega) (by omega)) ?_
    refine G_iast dX6_mark_131 rfl (by omega) (by omega) ?_
    refine G_aload_n dX6_mark_132 rfl ?_
    refine G_dup_a dX6_mark_133 ?_
    refine G_getIv (w 27 36) (jj := 36) dX6_mark_134 flX6_250 rfl rfl rfl rfl ?_
    refine G_iconst (n := 1) dX6_mark_137 ⟨by decide, by decide⟩ ?_
    refine G_iadd dX6_mark_138 (iRm (by omega) (by omega)) ?_
    refine G_putI (jj := 36) dX6_mark_139 flX6_250 rfl rfl rfl rfl ?_
    refine G_iconst (n := 1) dX6_mark_142 ⟨by decide, by decide⟩ ?_
    exact G_zret dX6_mark_143 rfl (by omega) rfl rfl ⟨rfl, rfl, by rw [hN]; rfl⟩
  have tail : (0 ≤ s ∧ s < 2 * w 27 34) → w 48 s ≠ -1 → (0 ≤ q ∧ q ≤ 100) → G l (yX6_mark, cX6_mark, (some .boolean), 7, (d + 1), 0, 0, none) (rI (SG nu) 1 (markV w s c q b)) 0 0 (SG nu) 66 [some (ar (some 27)), some (ai s), some (ai c), some (ai q), some (ai b), some (ai (w 48 s)), none] [] w := by
    intro hs hw1 hq
    refine G_aload_n dX6_mark_66 rfl ?_
    refine G_getR (jj := 3) dX6_mark_67 flX6_13 rfl rfl rfl ?_
    refine G_iload dX6_mark_70 rfl ?_
    refine G_if_eq 79 dX6_mark_72 (by decide) (fun h72 => ?_) (fun h72 => ?_)
    · refine G_iconst (n := 5) dX6_mark_79 ⟨by decide, by decide⟩ ?_
      refine G_iald dX6_mark_80 rfl (by omega) (by omega) ?_
      refine G_istore dX6_mark_81 rfl rfl ?_
      exact fin _ (by unfold markN; first | rw [if_pos h72] | rw [if_neg h72]) hs hw1 hq
    · refine G_iconst (n := 4) dX6_mark_75 ⟨by decide, by decide⟩ ?_
      refine G_goto 80 dX6_mark_76 (by decide) ?_
      refine G_iald dX6_mark_80 rfl (by omega) (by omega) ?_
      refine G_istore dX6_mark_81 rfl rfl ?_
      exact fin _ (by unfold markN; first | rw [if_pos h72] | rw [if_neg h72]) hs hw1 hq
  refine G_aload_n dX6_mark_0 rfl ?_
  refine G_iconst (n := 0) dX6_mark_1 ⟨by decide, by decide⟩ ?_
  refine G_putI (jj := 0) dX6_mark_2 flX6_101 rfl rfl rfl rfl ?_
  rw [hw]
  refine G_aload_n dX6_mark_5 rfl ?_
  refine G_iload_n dX6_mark_6 rfl ?_
  refine G_cVi (ci := 6) dX6_mark_7 rfl (by decide) rfl (c_X6_isSeat l (d + 0) nu w s hgm) mcX6_207 rfl rfl (by show _ ≤ d + 1; omega) rfl rfl (Nat.le_refl _) (Nat.le_refl _) ?_
  refine G_if_eq 56 dX6_mark_10 (by decide) (fun h10 => ?_) (fun h10 => ?_)
  · refine G_iconst (n := 0) dX6_mark_56 ⟨by decide, by decide⟩ ?_
    exact G_zret dX6_mark_57 rfl (by omega) rfl rfl ⟨by rw [if_neg (by omega)], rfl, by rw [if_neg (by omega)]⟩
  · refine G_aload_n dX6_mark_13 rfl ?_
    refine G_getR (jj := 31) dX6_mark_14 flX6_71 rfl rfl rfl ?_
    refine G_iload_n dX6_mark_17 rfl ?_
    refine G_iald dX6_mark_18 rfl (by omega) (by omega) ?_
    refine G_iconst (n := (-1)) dX6_mark_19 ⟨by decide, by decide⟩ ?_
    refine G_icmp_eq 56 dX6_mark_20 (by decide) (fun h20 => ?_) (fun h20 => ?_)
    · refine G_iconst (n := 0) dX6_mark_56 ⟨by decide, by decide⟩ ?_
      exact G_zret dX6_mark_57 rfl (by omega) rfl rfl ⟨by rw [if_neg (by omega)], rfl, by rw [if_neg (by omega)]⟩
    · refine G_iload_n dX6_mark_23 rfl ?_
      refine G_iconst (n := 0) dX6_mark_24 ⟨by decide, by decide⟩ ?_
      refine G_iconst (n := 1) dX6_mark_25 ⟨by decide, by decide⟩ ?_
      refine G_cSi dX6_mark_26 (c_X6_isIn l (d + 0) nu w c 0 1) mcX6_187 rfl rfl (by show _ ≤ d + 1; omega) rfl rfl (Nat.le_refl _) (Nat.le_refl _) ?_
      refine G_if_eq 56 dX6_mark_29 (by decide) (fun h29 => ?_) (fun h29 => ?_)
      · refine G_iconst (n := 0) dX6_mark_56 ⟨by decide, by decide⟩ ?_
        exact G_zret dX6_mark_57 rfl (by omega) rfl rfl ⟨by rw [if_neg (by omega)], rfl, by rw [if_neg (by omega)]⟩
      · refine G_iload_n dX6_mark_32 rfl ?_
        refine G_iconst (n := 0) dX6_mark_33 ⟨by decide, by decide⟩ ?_
        refine G_bipush (n := 100) dX6_mark_34 (by decide) ⟨by decide, by decide⟩ ?_
        refine G_cSi dX6_mark_36 (c_X6_isIn l (d + 0) nu w q 0 100) mcX6_187 rfl rfl (by show _ ≤ d + 1; omega) rfl rfl (Nat.le_refl _) (Nat.le_refl _) ?_
        refine G_if_eq 56 dX6_mark_39 (by decide) (fun h39 => ?_) (fun h39 => ?_)
        · refine G_iconst (n := 0) dX6_mark_56 ⟨by decide, by decide⟩ ?_
          exact G_zret dX6_mark_57 rfl (by omega) rfl rfl ⟨by rw [if_neg (by omega)], rfl, by rw [if_neg (by omega)]⟩
        · refine G_aload_n dX6_mark_42 rfl ?_
          refine G_getR (jj := 32) dX6_mark_43 flX6_74 rfl rfl rfl ?_
          refine G_iload_n dX6_mark_46 rfl ?_
          refine G_iald dX6_mark_47 rfl (by omega) (by omega) ?_
          refine G_iload_n dX6_mark_48 rfl ?_
          refine G_ishr (shrI (w 49 s) c) dX6_mark_49 rfl ?_
          refine G_iconst (n := 1) dX6_mark_50 ⟨by decide, by decide⟩ ?_
          refine G_iand (bandI (shrI (w 49 s) c) 1) dX6_mark_51 rfl ?_
          refine G_iconst (n := 1) dX6_mark_52 ⟨by decide, by decide⟩ ?_
          refine G_icmp_ne 58 dX6_mark_53 (by decide) (fun h53 => ?_) (fun h53 => ?_)
          · refine G_aload_n dX6_mark_58 rfl ?_
            refine G_getR (jj := 31) dX6_mark_59 flX6_71 rfl rfl rfl ?_
            refine G_iload_n dX6_mark_62 rfl ?_
            refine G_iald dX6_mark_63 rfl (by omega) (by omega) ?_
            refine G_istore dX6_mark_64 rfl rfl ?_
            have hok : (0 ≤ s ∧ s < 2 * w 27 34) ∧ w 48 s ≠ -1 ∧ (0 ≤ c ∧ c ≤ 1) ∧ (0 ≤ q ∧ q ≤ 100) ∧ bandI (shrI (w 49 s) c) 1 ≠ 1 := by omega
            rw [if_pos hok, if_pos hok]
            exact tail (by omega) (by omega) (by omega)
          · refine G_iconst (n := 0) dX6_mark_56 ⟨by decide, by decide⟩ ?_
            exact G_zret dX6_mark_57 rfl (by omega) rfl rfl ⟨by rw [if_neg (by omega)], rfl, by rw [if_neg (by omega)]⟩
def st1 (v : VV) (s : Int) : VV := if v 48 s = -1 then v else up (up v 42 (100 * v 48 s + v 27 35) (v 46 (s / 2))) 41 (v 48 s) (v 41 (v 48 s) + 1)
def stL : Nat → Int → VV → VV
  | 0, _, v => v
  | n + 1, s, v => stL n (s + 1) (st1 v s)
def clr (v : VV) (u : Int) : VV := up (up (up v 38 u 0) 39 u 0) 40 u 0
def rg1 (v : VV) (u : Int) : VV := if v 38 u < v 29 8 ∨ v 39 u = 0 then v else if v 29 6 * v 39 u ≤ v 40 u ∧ 1 < v 36 u then clr (up v 36 u (v 36 u - 1)) u else if v 40 u ≤ v 29 7 * v 39 u ∧ v 36 u < 4 then clr (up v 36 u (v 36 u + 1)) u else v
def rgL : Nat → Int → VV → VV
  | 0, _, v => v
  | n + 1, u, v => rgL n (u + 1) (rg1 v u)
def nextV (w : VV) (nu : Nat) : VV := up (up (up (rgL nu 0 (stL (2 * w 27 34).toNat 0 w)) 27 34 0) 27 36 0) 27 35 (w 27 35 + 1)
theorem clr_get (v : VV) (u : Int) (k : Nat) (j : Int) : clr v u k j = if (k = 38 ∨ k = 39 ∨ k = 40) ∧ j = u then 0 else v k j := by
  unfold clr
  simp only [up_get]
  by_cases h : j = u
  · by_cases h1 : k = 38
    · simp [h, h1]
    · by_cases h2 : k = 39
      · simp [h, h2]
      · by_cases h3 : k = 40
        · simp [h, h3]
        · simp [h, h1, h2, h3]
  · simp [h]
def RGok (nu : Nat) (t : Int) (z : VV) : Prop := ∀ x : Int, 0 ≤ x → x < nu → (1 ≤ z 36 x ∧ z 36 x ≤ 4) ∧ (0 ≤ z 38 x ∧ z 38 x ≤ t) ∧ (0 ≤ z 39 x ∧ z 39 x ≤ 9 * t) ∧ (0 ≤ z 40 x ∧ z 40 x ≤ 900 * t)
theorem RGok_step {nu : Nat} {t : Int} {z : VV} {u g : Int} (ht : 0 ≤ t) (h : RGok nu t z) (hg : 1 ≤ g ∧ g ≤ 4) : RGok nu t (clr (up z 36 u g) u) := by
  intro x x1 x2
  have a := h x x1 x2
  simp only [clr_get, up_get]
  by_cases e : x = u
  · subst e; simp; omega
  · simp [e]; omega
