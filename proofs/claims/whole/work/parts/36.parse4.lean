theorem rahS_bd (K W : Int) : rahS K W = -1 ∨ (K = 2 ∧ 0 ≤ rahS K W ∧ rahS K W ≤ 8) := by
  by_cases h : K = 2
  · unfold rahS
    rw [if_neg (fun y => y h)]
    repeat (split; exact Or.inr ⟨h, by decide, by decide⟩)
    exact Or.inl rfl
  · left; unfold rahS; rw [if_pos h]
/-- a RULE is read, whose first TOKEN is (K, F, T, W): x tells whether it is good; G2 told, f2 the draft, T2 the place behind it; E, P the FAULT -/
def RRP (t : Int → Int) (n : Int) (lo hi : Int → Int) (K F T W told : Int) (f : Int → Int) (x told2 : Int) (f2 : Int → Int) (T2 E P : Int) : Prop :=
  (rahS K W = -1 ∧ x = 0 ∧ E = 1 ∧ P = F) ∨ (rahS K W ≠ -1 ∧ ((bandI (shrI told (rahS K W)) 1 = 1 ∧ x = 0 ∧ E = 3 ∧ P = F) ∨ (bandI (shrI told (rahS K W)) 1 ≠ 1 ∧ ∃ K2 F2 T3 W2 U2, GoP t n T K2 F2 T3 W2 U2 ∧ ((K2 ≠ 3 ∧ x = 0 ∧ E = 1 ∧ P = F2) ∨ (K2 = 3 ∧ ((¬ (lo (rahS K W) ≤ U2 ∧ U2 ≤ hi (rahS K W)) ∧ x = 0 ∧ E = 2 ∧ P = F2) ∨ ((lo (rahS K W) ≤ U2 ∧ U2 ≤ hi (rahS K W)) ∧ ∃ K3 F3 W3 U3, GoP t n T3 K3 F3 T2 W3 U3 ∧ ((K3 ≠ 4 ∧ x = 0 ∧ E = 1 ∧ P = F3) ∨ (K3 = 4 ∧ x = 1 ∧ told2 = borI told (shlI 1 (rahS K W)) ∧ f2 = fun j => if j = rahS K W then U2 else f j)))))))))
/-- only the reader's numbers and the draft have changed -/
def RK (v v2 : VV) : Prop := (∀ k, k ≠ 27 → k ≠ 33 → v2 k = v k) ∧ ∀ j, ¬ (9 ≤ j ∧ j ≤ 16) → v2 27 j = v 27 j
theorem RK.go {v w x : VV} (h : RK v w) (g : GoK w x) : RK v x := ⟨fun k k1 k2 => (g.1 k k1).trans (h.1 k k1 k2), fun j hj => (g.2 j (by omega) (by omega) (by omega) (by omega) (by omega)).trans (h.2 j hj)⟩
theorem RK.rf {v : VV} : RK v v := ⟨fun _ _ _ => rfl, fun _ _ => rfl⟩
theorem RK.upd {v w : VV} (h : RK v w) {j x : Int} (hj : 9 ≤ j ∧ j ≤ 16) : RK v (up w 27 j x) := ⟨fun k k1 k2 => (up_ne k1).trans (h.1 k k1 k2), fun i hi => by rw [up_nj (by omega)]; exact h.2 i hi⟩
theorem RK.fr {v w : VV} (h : RK v w) {j x : Int} : RK v (up w 33 j x) := ⟨fun k k1 k2 => (up_ne k2).trans (h.1 k k1 k2), fun i hi => by rw [up_c (by decide)]; exact h.2 i hi⟩
theorem GoP_T {t : Int → Int} {n i K F T W U : Int} (h : GoP t n i K F T W U) : i ≤ T ∧ T ≤ n := by
  obtain ⟨p, hs, h1 | ⟨-, h1 | ⟨h2, h3, h4 | ⟨h4, -⟩⟩⟩⟩ := h
  · have := hs.1; have := hs.2.1; omega
  · have := hs.1; have := hs.2.1; omega
  · have := hs.1; omega
  · have := hs.1; have := h4.1; have := h4.2.1; omega
set_option maxRecDepth 20000 in
set_option maxHeartbeats 1000000 in
theorem c_X6_readRule (l : Launch) (d nu : Nat) (v : VV) (hs : 0 ≤ v 27 8 ∧ v 27 8 ≤ 180) (hi : 0 ≤ v 27 9 ∧ v 27 9 ≤ v 27 8) (ht : ∀ i, 0 ≤ v 28 i ∧ v 28 i ≤ 255) : Ct l yX6_readRule cX6_readRule (some .boolean) 2 (d + 4) 0 0 [ar (some 27)] (SG nu) v (fun r S2 v2 => ∃ x, r = some (ai x) ∧ S2 = SG nu ∧ RK v v2 ∧ v2 27 8 = v 27 8 ∧ (x = 0 ∨ x = 1) ∧ RRP (v 28) (v 27 8) (v 31) (v 32) (v 27 11) (v 27 10) (v 27 9) (v 27 16) (v 27 15) (v 33) x (v2 27 15) (v2 33) (v2 27 9) (v2 27 13) (v2 27 14) ∧ (x = 1 → v2 27 13 = v 27 13)) := by
  refine Ct_of_G [some (ar (some 27)), none] (by decide) rfl rfl ?_
  have e8 : v 27 8 = v 27 8 := rfl
  refine G_aload_n dX6_readRule_0 rfl ?_
  refine G_cVi (ci := 6) dX6_readRule_1 rfl (by decide) rfl (c_X6_ruleAtHand l (d + 2) nu v) mcX6_164 rfl rfl (by show _ ≤ d + 4; omega) rfl rfl (Nat.le_refl _) (Nat.le_refl _) ?_
  refine G_istore_n dX6_readRule_4 rfl rfl ?_
  refine G_iload_n dX6_readRule_5 rfl ?_
  refine G_iconst (n := (-1)) dX6_readRule_6 ⟨by decide, by decide⟩ ?_
  refine G_icmp_ne 16 dX6_readRule_7 (by decide) (fun h7 => ?_) (fun h7 => ?_)
  · have hk := (rahS_bd (v 27 11) (v 27 16)).resolve_left h7
    have hk2 := hk.2
    refine G_aload_n dX6_readRule_16 rfl ?_
    refine G_getI (jj := 15) dX6_readRule_17 flX6_171 rfl rfl rfl ?_
    refine G_iload_n dX6_readRule_20 rfl ?_
    refine G_ishr (shrI (v 27 15) (rahS (v 27 11) (v 27 16))) dX6_readRule_21 rfl ?_
    refine G_iconst (n := 1) dX6_readRule_22 ⟨by decide, by decide⟩ ?_
    refine G_iand (bandI (shrI (v 27 15) (rahS (v 27 11) (v 27 16))) 1) dX6_readRule_23 rfl ?_
    refine G_iconst (n := 1) dX6_readRule_24 ⟨by decide, by decide⟩ ?_
    refine G_icmp_ne 34 dX6_readRule_25 (by decide) (fun h25 => ?_) (fun h25 => ?_)
    · refine G_aload_n dX6_readRule_34 rfl ?_
      refine G_cVq (ci := 6) dX6_readRule_35 rfl (by decide) rfl (c_X6_go l (d + 1) nu v hs hi ht) mcX6_174 rfl rfl (by show _ ≤ d + 4; omega) rfl rfl (Nat.le_refl _) (Nat.le_refl _) (fun r S2 w hq9 => ?_)
      obtain ⟨rfl, rfl, hg1, hp1⟩ := hq9
      have w8 : w 27 8 = v 27 8 := hg1.2 8 (by decide) (by decide) (by decide) (by decide) (by decide)
      have w28 := hg1.1 28 (by decide)
      have w31 := hg1.1 31 (by decide)
      have w32 := hg1.1 32 (by decide)
      have w33 := hg1.1 33 (by decide)
      have w15 : w 27 15 = v 27 15 := hg1.2 15 (by decide) (by decide) (by decide) (by decide) (by decide)
      have w13 : w 27 13 = v 27 13 := hg1.2 13 (by decide) (by decide) (by decide) (by decide) (by decide)
      have hT1 := GoP_T hp1
      have e8 := w8
      refine G_aload_n dX6_readRule_38 rfl ?_
      refine G_getI (jj := 11) dX6_readRule_39 flX6_121 rfl rfl rfl ?_
      refine G_iconst (n := 3) dX6_readRule_42 ⟨by decide, by decide⟩ ?_
      refine G_icmp_eq 52 dX6_readRule_43 (by decide) (fun h43 => ?_) (fun h43 => ?_)
      · refine G_aload_n dX6_readRule_52 rfl ?_
        refine G_getI (jj := 12) dX6_readRule_53 flX6_135 rfl rfl rfl ?_
        refine G_aload_n dX6_readRule_56 rfl ?_
        refine G_getR (jj := 5) dX6_readRule_57 flX6_19 rfl rfl rfl ?_
        refine G_iload_n dX6_readRule_60 rfl ?_
        refine G_ialdv (v 31 (rahS (v 27 11) (v 27 16))) dX6_readRule_61 rfl (by omega) (by omega) (by rw [w31]) ?_
        refine G_icmp_lt 78 dX6_readRule_62 (by decide) (fun h62 => ?_) (fun h62 => ?_)
        · refine G_aload_n dX6_readRule_78 rfl ?_
          refine G_iconst (n := 2) dX6_readRule_79 ⟨by decide, by decide⟩ ?_
          refine G_cVi (ci := 6) dX6_readRule_80 rfl (by decide) rfl (c_X6_bad l (d + 3) nu w 2) mcX6_168 rfl rfl (by show _ ≤ d + 4; omega) rfl rfl (Nat.le_refl _) (Nat.le_refl _) ?_
          exact G_zret dX6_readRule_83 rfl (by omega) rfl rfl ⟨0, rfl, rfl, (((RK.rf.go hg1)).upd (j := 13) (by decide)).upd (j := 14) (by decide), by simp [up_get, e8], Or.inl rfl, Or.inr ⟨h7, Or.inr ⟨h25, _, _, _, _, _, hp1, Or.inr ⟨h43, Or.inl ⟨by omega, rfl, by simp [up_get, h43], by simp [up_get]⟩⟩⟩⟩, fun y => by omega⟩
        · refine G_aload_n dX6_readRule_65 rfl ?_
          refine G_getI (jj := 12) dX6_readRule_66 flX6_135 rfl rfl rfl ?_
          refine G_aload_n dX6_readRule_69 rfl ?_
          refine G_getR (jj := 6) dX6_readRule_70 flX6_22 rfl rfl rfl ?_
          refine G_iload_n dX6_readRule_73 rfl ?_
          refine G_ialdv (v 32 (rahS (v 27 11) (v 27 16))) dX6_readRule_74 rfl (by omega) (by omega) (by rw [w32]) ?_
          refine G_icmp_le 84 dX6_readRule_75 (by decide) (fun h75 => ?_) (fun h75 => ?_)
          · refine G_aload_n dX6_readRule_84 rfl ?_
            refine G_getR (jj := 7) dX6_readRule_85 flX6_25 rfl rfl rfl ?_
            refine G_iload_n dX6_readRule_88 rfl ?_
            refine G_aload_n dX6_readRule_89 rfl ?_
            refine G_getI (jj := 12) dX6_readRule_90 flX6_135 rfl rfl rfl ?_
            refine G_iast dX6_readRule_93 rfl (by omega) (by omega) ?_
            refine G_aload_n dX6_readRule_94 rfl ?_
            refine G_dup_a dX6_readRule_95 ?_
            refine G_getIv (v 27 15) (jj := 15) dX6_readRule_96 flX6_171 rfl rfl rfl (by simp [up_get, w15]) ?_
            refine G_iconst (n := 1) dX6_readRule_99 ⟨by decide, by decide⟩ ?_
            refine G_iload_n dX6_readRule_100 rfl ?_
            refine G_ishl (shlI 1 (rahS (v 27 11) (v 27 16))) dX6_readRule_101 rfl ?_
            refine G_ior (borI (v 27 15) (shlI 1 (rahS (v 27 11) (v 27 16)))) dX6_readRule_102 rfl ?_
            refine G_putI (jj := 15) dX6_readRule_103 flX6_171 rfl rfl rfl rfl ?_
            refine G_aload_n dX6_readRule_106 rfl ?_
            refine G_cVq (ci := 6) dX6_readRule_107 rfl (by decide) rfl (c_X6_go l (d + 1) nu _ (by simp only [up_get]; simp; rw [w8]; exact hs) (by simp only [up_get]; simp; rw [w8]; omega) (by intro i; simp only [up_get]; simp; rw [w28]; exact ht i)) mcX6_174 rfl rfl (by show _ ≤ d + 4; omega) rfl rfl (Nat.le_refl _) (Nat.le_refl _) (fun r S2 y hq9 => ?_)
            obtain ⟨rfl, rfl, hg2, hp2⟩ := hq9
            have y8 : y 27 8 = v 27 8 := (hg2.2 8 (by decide) (by decide) (by decide) (by decide) (by decide)).trans (by simp [up_get, w8])
            have y15 : y 27 15 = borI (v 27 15) (shlI 1 (rahS (v 27 11) (v 27 16))) := (hg2.2 15 (by decide) (by decide) (by decide) (by decide) (by decide)).trans (up_self _ _ _ _)
            have y13 : y 27 13 = v 27 13 := (hg2.2 13 (by decide) (by decide) (by decide) (by decide) (by decide)).trans (by simp [up_get, w13])
            have y33 : y 33 = fun j => if j = (rahS (v 27 11) (v 27 16)) then w 27 12 else v 33 j := (hg2.1 33 (by decide)).trans (by funext j; simp only [up_get]; simp; rw [w33])
            have hp3 : GoP (v 28) (v 27 8) (w 27 9) (y 27 11) (y 27 10) (y 27 9) (y 27 16) (y 27 12) := by have q := hp2; simp only [up_get] at q; simp at q; rw [w8, up_ne (show 28 ≠ 27 by decide), up_ne (show 28 ≠ 33 by decide), w28] at q; exact q
            have hrk : RK v y := (((RK.rf.go hg1).fr).upd (j := 15) (by decide)).go hg2
            have e8 := y8
            refine G_aload_n dX6_readRule_110 rfl ?_
            refine G_getI (jj := 11) dX6_readRule_111 flX6_121 rfl rfl rfl ?_
            refine G_iconst (n := 4) dX6_readRule_114 ⟨by decide, by decide⟩ ?_
            refine G_icmp_eq 126 dX6_readRule_115 (by decide) (fun h115 => ?_) (fun h115 => ?_)
            · refine G_iconst (n := 1) dX6_readRule_126 ⟨by decide, by decide⟩ ?_
              refine G_goto 131 dX6_readRule_127 (by decide) ?_
              exact G_zret dX6_readRule_131 rfl (by omega) rfl rfl (by first | exact ⟨1, rfl, rfl, hrk, y8, Or.inr rfl, Or.inr ⟨h7, Or.inr ⟨h25, _, _, _, _, _, hp1, Or.inr ⟨h43, Or.inr ⟨by omega, _, _, _, _, hp3, Or.inr ⟨h115, rfl, y15, y33⟩⟩⟩⟩⟩, fun _ => y13⟩ | exact ⟨0, rfl, rfl, ((hrk).upd (j := 13) (by decide)).upd (j := 14) (by decide), by simp [up_get, e8], Or.inl rfl, Or.inr ⟨h7, Or.inr ⟨h25, _, _, _, _, _, hp1, Or.inr ⟨h43, Or.inr ⟨by omega, _, _, _, _, hp3, Or.inl ⟨h115, rfl, by simp [up_get], by simp [up_get]⟩⟩⟩⟩⟩, fun y => by omega⟩)
            · refine G_aload_n dX6_readRule_118 rfl ?_
              refine G_iconst (n := 1) dX6_readRule_119 ⟨by decide, by decide⟩ ?_
              refine G_cVi (ci := 6) dX6_readRule_120 rfl (by decide) rfl (c_X6_bad l (d + 3) nu y 1) mcX6_168 rfl rfl (by show _ ≤ d + 4; omega) rfl rfl (Nat.le_refl _) (Nat.le_refl _) ?_
              refine G_if_eq 130 dX6_readRule_123 (by decide) (fun h123 => ?_) (fun h123 => by omega)
              refine G_iconst (n := 0) dX6_readRule_130 ⟨by decide, by decide⟩ ?_
              exact G_zret dX6_readRule_131 rfl (by omega) rfl rfl (by first | exact ⟨1, rfl, rfl, hrk, y8, Or.inr rfl, Or.inr ⟨h7, Or.inr ⟨h25, _, _, _, _, _, hp1, Or.inr ⟨h43, Or.inr ⟨by omega, _, _, _, _, hp3, Or.inr ⟨h115, rfl, y15, y33⟩⟩⟩⟩⟩, fun _ => y13⟩ | exact ⟨0, rfl, rfl, ((hrk).upd (j := 13) (by decide)).upd (j := 14) (by decide), by simp [up_get, e8], Or.inl rfl, Or.inr ⟨h7, Or.inr ⟨h25, _, _, _, _, _, hp1, Or.inr ⟨h43, Or.inr ⟨by omega, _, _, _, _, hp3, Or.inl ⟨h115, rfl, by simp [up_get], by simp [up_get]⟩⟩⟩⟩⟩, fun y => by omega⟩)
          · refine G_aload_n dX6_readRule_78 rfl ?_
            refine G_iconst (n := 2) dX6_readRule_79 ⟨by decide, by decide⟩ ?_
            refine G_cVi (ci := 6) dX6_readRule_80 rfl (by decide) rfl (c_X6_bad l (d + 3) nu w 2) mcX6_168 rfl rfl (by show _ ≤ d + 4; omega) rfl rfl (Nat.le_refl _) (Nat.le_refl _) ?_
            exact G_zret dX6_readRule_83 rfl (by omega) rfl rfl ⟨0, rfl, rfl, (((RK.rf.go hg1)).upd (j := 13) (by decide)).upd (j := 14) (by decide), by simp [up_get, e8], Or.inl rfl, Or.inr ⟨h7, Or.inr ⟨h25, _, _, _, _, _, hp1, Or.inr ⟨h43, Or.inl ⟨by omega, rfl, by simp [up_get, h43], by simp [up_get]⟩⟩⟩⟩, fun y => by omega⟩
      · refine G_aload_n dX6_readRule_46 rfl ?_
        refine G_iconst (n := 1) dX6_readRule_47 ⟨by decide, by decide⟩ ?_
        refine G_cVi (ci := 6) dX6_readRule_48 rfl (by decide) rfl (c_X6_bad l (d + 3) nu w 1) mcX6_168 rfl rfl (by show _ ≤ d + 4; omega) rfl rfl (Nat.le_refl _) (Nat.le_refl _) ?_
        exact G_zret dX6_readRule_51 rfl (by omega) rfl rfl ⟨0, rfl, rfl, (((RK.rf.go hg1)).upd (j := 13) (by decide)).upd (j := 14) (by decide), by simp [up_get, e8], Or.inl rfl, Or.inr ⟨h7, Or.inr ⟨h25, _, _, _, _, _, hp1, Or.inl ⟨h43, rfl, by simp [up_get], by simp [up_get]⟩⟩⟩, fun y => by omega⟩
    · refine G_aload_n dX6_readRule_28 rfl ?_
      refine G_iconst (n := 3) dX6_readRule_29 ⟨by decide, by decide⟩ ?_
      refine G_cVi (ci := 6) dX6_readRule_30 rfl (by decide) rfl (c_X6_bad l (d + 3) nu v 3) mcX6_168 rfl rfl (by show _ ≤ d + 4; omega) rfl rfl (Nat.le_refl _) (Nat.le_refl _) ?_
      exact G_zret dX6_readRule_33 rfl (by omega) rfl rfl ⟨0, rfl, rfl, ((RK.rf).upd (j := 13) (by decide)).upd (j := 14) (by decide), by simp [up_get, e8], Or.inl rfl, Or.inr ⟨h7, Or.inl ⟨h25, rfl, by simp [up_get, hk.1], by simp [up_get]⟩⟩, fun y => by omega⟩
  · refine G_aload_n dX6_readRule_10 rfl ?_
    refine G_iconst (n := 1) dX6_readRule_11 ⟨by decide, by decide⟩ ?_
    refine G_cVi (ci := 6) dX6_readRule_12 rfl (by decide) rfl (c_X6_bad l (d + 3) nu v 1) mcX6_168 rfl rfl (by show _ ≤ d + 4; omega) rfl rfl (Nat.le_refl _) (Nat.le_refl _) ?_
    exact G_zret dX6_readRule_15 rfl (by omega) rfl rfl ⟨0, rfl, rfl, ((RK.rf).upd (j := 13) (by decide)).upd (j := 14) (by decide), by simp [up_get, e8], Or.inl rfl, Or.inl ⟨h7, rfl, by simp [up_get], by simp [up_get]⟩, fun y => by omega⟩
