/-- RULES are read from a TOKEN on: E, P the FAULT (E = 0: none), mm how many, f2 what they tell -/
def PRL (t : Int → Int) (n : Int) (lo hi : Int → Int) : Nat → Int → Int → Int → Int → Int → (Int → Int) → Int → Int → Int → Int → (Int → Int) → Prop
  | 0, _, _, _, _, _, _, _, _, _, _, _ => False
  | k + 1, K, F, T, W, told, f, mc, E, P, mm, f2 => (K = 0 ∧ E = 0 ∧ mm = mc ∧ f2 = f) ∨ (K ≠ 0 ∧ ∃ x told2 f3 T2 E2 P2, RRP t n lo hi K F T W told f x told2 f3 T2 E2 P2 ∧ ((x = 0 ∧ E = E2 ∧ P = P2) ∨ (x = 1 ∧ ∃ K2 F2 T3 W2 U2, GoP t n T2 K2 F2 T3 W2 U2 ∧ PRL t n lo hi k K2 F2 T3 W2 told2 f3 (mc + 1) E P mm f2)))
theorem RRP_E {t : Int → Int} {n : Int} {lo hi : Int → Int} {K F T W told : Int} {f : Int → Int} {x told2 : Int} {f2 : Int → Int} {T2 E P : Int} (h : RRP t n lo hi K F T W told f x told2 f2 T2 E P) : (x = 0 ∧ (E = 1 ∨ E = 2 ∨ E = 3)) ∨ (x = 1 ∧ T < T2 ∧ T2 ≤ n) := by
  rcases h with ⟨-, h, e, -⟩ | ⟨-, ⟨-, h, e, -⟩ | ⟨-, K2, F2, T3, W2, U2, g, ⟨-, h, e, -⟩ | ⟨-, ⟨-, h, e, -⟩ | ⟨-, K3, F3, W3, U3, g3, ⟨-, h, e, -⟩ | ⟨h4, h, -⟩⟩⟩⟩⟩
  · exact Or.inl ⟨h, by omega⟩
  · exact Or.inl ⟨h, by omega⟩
  · exact Or.inl ⟨h, by omega⟩
  · exact Or.inl ⟨h, by omega⟩
  · exact Or.inl ⟨h, by omega⟩
  · have a := GoP_T g
    have b := GoP_T g3
    refine Or.inr ⟨h, ?_, b.2⟩
    obtain ⟨p, hs, h1 | ⟨-, h1 | ⟨h2, h3, h5 | ⟨-, -, -, h6⟩⟩⟩⟩ := g3
    · omega
    · omega
    · have := hs.1; omega
    · omega
def RU (v v2 : VV) : Prop := (∀ k, k ≠ 27 → k ≠ 29 → k ≠ 33 → v2 k = v k) ∧ ∀ j, ¬ (8 ≤ j ∧ j ≤ 16) → j ≠ 0 → j ≠ 2 → v2 27 j = v 27 j
def cpL (a b : Nat) : Nat → Int → VV → VV
  | 0, _, v => v
  | n + 1, i, v => cpL a b n (i + 1) (up v a i (v b i))
theorem cpL_get (a b : Nat) (hab : a ≠ b) : ∀ (n : Nat) (i : Int) (v : VV) (k : Nat) (j : Int), cpL a b n i v k j = if k = a ∧ i ≤ j ∧ j < i + n then v b j else v k j := by
  intro n
  induction n with
  | zero => intro i v k j; rw [cpL, if_neg (by omega)]
  | succ n ih =>
    intro i v k j
    rw [cpL, ih, up_get, up_get]
    by_cases hk : k = a
    · subst hk
      by_cases hj : j = i
      · subst hj
        rw [if_neg (by omega), if_pos ⟨rfl, rfl⟩, if_pos (by omega)]
      · by_cases h2 : i + 1 ≤ j ∧ j < i + 1 + n
        · rw [if_pos ⟨rfl, h2⟩, if_neg (fun y => hab y.1.symm), if_pos (by omega)]
        · rw [if_neg (by omega), if_neg (fun y => hj y.2), if_neg (by omega)]
    · rw [if_neg (fun y => hk y.1), if_neg (fun y => hk y.1), if_neg (fun y => hk y.1)]
theorem GoP_F {t : Int → Int} {n i K F T W U : Int} (hn : n ≤ 180) (hi : 0 ≤ i) (h : GoP t n i K F T W U) : 0 ≤ F ∧ F ≤ 180 := by
  obtain ⟨p, hs, h1 | ⟨-, h1 | ⟨h2, h3, -⟩⟩⟩ := h
  · omega
  · have := hs.1; omega
  · have := hs.1; omega
theorem RRP_P {t : Int → Int} {n : Int} {lo hi : Int → Int} {K F T W told : Int} {f : Int → Int} {x told2 : Int} {f2 : Int → Int} {T2 E P : Int} (hn : n ≤ 180) (hF : 0 ≤ F ∧ F ≤ 180) (hT : 0 ≤ T) (h : RRP t n lo hi K F T W told f x told2 f2 T2 E P) (hx : x = 0) : 0 ≤ P ∧ P ≤ 180 := by
  rcases h with ⟨-, h, e, e2⟩ | ⟨-, ⟨-, h, e, e2⟩ | ⟨-, K2, F2, T3, W2, U2, g, ⟨-, h, e, e2⟩ | ⟨-, ⟨-, h, e, e2⟩ | ⟨-, K3, F3, W3, U3, g3, ⟨-, h, e, e2⟩ | ⟨h4, h, -⟩⟩⟩⟩⟩
  · omega
  · omega
  · have := GoP_F hn hT g; omega
  · have := GoP_F hn hT g; omega
  · have a := GoP_T g; have := GoP_F hn (by omega) g3; omega
  · omega
set_option maxRecDepth 20000 in
set_option maxHeartbeats 1000000 in
theorem c_X6_rules (l : Launch) (d nu : Nat) (v : VV) (hs : 0 ≤ v 27 2 ∧ v 27 2 ≤ 180) (ht : ∀ i, 0 ≤ v 28 i ∧ v 28 i ≤ 255) : Ct l yX6_rules cX6_rules (some .int) 3 (d + 5) 0 0 [ar (some 27)] (SG nu) v (fun r S2 v2 => ∃ x K F T W U k E P mm f2 f, r = some (ai x) ∧ S2 = SG nu ∧ GoP (v 28) (v 27 2) 0 K F T W U ∧ PRL (v 28) (v 27 2) (v 31) (v 32) k K F T W 0 f 0 E P mm f2 ∧ (∀ j, 0 ≤ j → j < 9 → f j = v 30 j) ∧ x = (if E = 0 then mm else -1 - P) ∧ RU v v2 ∧ v2 27 2 = 0 ∧ v2 27 13 = E ∧ v2 29 = (fun j => if E = 0 ∧ 0 ≤ j ∧ j < 9 then f2 j else v 29 j)) := by
  refine Ct_of_G [some (ar (some 27)), none, none] (by decide) rfl rfl ?_
  have loop2 : ∀ (N : Nat) (i : Int) (w y : VV) (x : Int), 0 ≤ i → i + N = 9 → (∀ r S2 v2, (r = some (ai x) ∧ S2 = SG nu ∧ v2 = cpL 29 33 N i w) → (fun r S2 v2 => ∃ x K F T W U k E P mm f2 f, r = some (ai x) ∧ S2 = SG nu ∧ GoP (v 28) (v 27 2) 0 K F T W U ∧ PRL (v 28) (v 27 2) (v 31) (v 32) k K F T W 0 f 0 E P mm f2 ∧ (∀ j, 0 ≤ j → j < 9 → f j = v 30 j) ∧ x = (if E = 0 then mm else -1 - P) ∧ RU v v2 ∧ v2 27 2 = 0 ∧ v2 27 13 = E ∧ v2 29 = (fun j => if E = 0 ∧ 0 ≤ j ∧ j < 9 then f2 j else v 29 j)) r S2 v2) → G l (yX6_rules, cX6_rules, (some .int), 3, (d + 5), 0, 0, none) (fun r S2 v2 => ∃ x K F T W U k E P mm f2 f, r = some (ai x) ∧ S2 = SG nu ∧ GoP (v 28) (v 27 2) 0 K F T W U ∧ PRL (v 28) (v 27 2) (v 31) (v 32) k K F T W 0 f 0 E P mm f2 ∧ (∀ j, 0 ≤ j → j < 9 → f j = v 30 j) ∧ x = (if E = 0 then mm else -1 - P) ∧ RU v v2 ∧ v2 27 2 = 0 ∧ v2 27 13 = E ∧ v2 29 = (fun j => if E = 0 ∧ 0 ≤ j ∧ j < 9 then f2 j else v 29 j)) 0 0 (SG nu) 98 [some (ar (some 27)), some (ai x), some (ai i)] [] w := by
    intro N
    induction N using Nat.strongRecOn with
    | ind N ih =>
    intro i w y x h0 h1 hp
    refine G_iload_n dX6_rules_98 rfl ?_
    refine G_bipush (n := 9) dX6_rules_99 (by decide) ⟨by decide, by decide⟩ ?_
    refine G_icmp_ge 122 dX6_rules_101 (by decide) (fun h101 => ?_) (fun h101 => ?_)
    · obtain rfl : N = 0 := by omega
      refine G_iload_n dX6_rules_122 rfl ?_
      exact G_iret dX6_rules_123 rfl rfl rfl (hp _ _ _ ⟨rfl, rfl, rfl⟩)
    · obtain ⟨N, rfl⟩ : ∃ k, N = k + 1 := ⟨N - 1, by omega⟩
      refine G_aload_n dX6_rules_104 rfl ?_
      refine G_getR (jj := 3) dX6_rules_105 flX6_13 rfl rfl rfl ?_
      refine G_iload_n dX6_rules_108 rfl ?_
      refine G_aload_n dX6_rules_109 rfl ?_
      refine G_getR (jj := 7) dX6_rules_110 flX6_25 rfl rfl rfl ?_
      refine G_iload_n dX6_rules_113 rfl ?_
      refine G_iald dX6_rules_114 rfl (by omega) (by omega) ?_
      refine G_iast dX6_rules_115 rfl (by omega) (by omega) ?_
      refine G_iinc dX6_rules_116 rfl (iRm (by omega) (by omega)) rfl rfl ?_
      refine G_goto 98 dX6_rules_119 (by decide) ?_
      exact ih N (by omega) (i + 1) _ y x (by omega) (by omega) hp
  have loopM : ∀ (N : Nat) (w : VV) (mc : Int) (Z : Option AV), (w 28 = v 28 ∧ w 31 = v 31 ∧ w 32 = v 32 ∧ w 29 = v 29) ∧ w 27 8 = v 27 2 ∧ w 27 2 = 0 → RU v w → w 27 13 = 0 → (0 ≤ w 27 9 ∧ w 27 9 ≤ v 27 2) → (0 ≤ mc ∧ mc ≤ w 27 9) → (0 ≤ w 27 10 ∧ w 27 10 ≤ 180) → w 27 9 + N = v 27 2 → (∀ k E P mm f2, PRL (v 28) (v 27 2) (v 31) (v 32) k (w 27 11) (w 27 10) (w 27 9) (w 27 16) (w 27 15) (w 33) mc E P mm f2 → ∃ K F T W U k2 f, GoP (v 28) (v 27 2) 0 K F T W U ∧ PRL (v 28) (v 27 2) (v 31) (v 32) k2 K F T W 0 f 0 E P mm f2 ∧ (∀ j, 0 ≤ j → j < 9 → f j = v 30 j)) → G l (yX6_rules, cX6_rules, (some .int), 3, (d + 5), 0, 0, none) (fun r S2 v2 => ∃ x K F T W U k E P mm f2 f, r = some (ai x) ∧ S2 = SG nu ∧ GoP (v 28) (v 27 2) 0 K F T W U ∧ PRL (v 28) (v 27 2) (v 31) (v 32) k K F T W 0 f 0 E P mm f2 ∧ (∀ j, 0 ≤ j → j < 9 → f j = v 30 j) ∧ x = (if E = 0 then mm else -1 - P) ∧ RU v v2 ∧ v2 27 2 = 0 ∧ v2 27 13 = E ∧ v2 29 = (fun j => if E = 0 ∧ 0 ≤ j ∧ j < 9 then f2 j else v 29 j)) 0 0 (SG nu) 65 [some (ar (some 27)), some (ai mc), Z] [] w := by
    intro N
    induction N using Nat.strongRecOn with
    | ind N ih =>
    intro w mc Z hb hru h13 h9 hmc h10 hN hgo
    have hb2 := hb.2.1
    refine G_aload_n dX6_rules_65 rfl ?_
    refine G_getI (jj := 11) dX6_rules_66 flX6_121 rfl rfl rfl ?_
    refine G_if_eq 96 dX6_rules_69 (by decide) (fun h69 => ?_) (fun h69 => ?_)
    · refine G_iconst (n := 0) dX6_rules_96 ⟨by decide, by decide⟩ ?_
      refine G_istore_n dX6_rules_97 rfl rfl ?_
      obtain ⟨K, F, T, W, U, k2, f, g1, g2, g3⟩ := hgo 1 0 0 mc (w 33) (Or.inl ⟨h69, rfl, rfl, rfl⟩)
      refine loop2 9 0 w w mc (by omega) (by omega) (fun r S2 v2 ⟨e1, e2, e3⟩ => ⟨mc, K, F, T, W, U, k2, 0, 0, mc, w 33, f, e1, e2, g1, g2, g3, by rw [if_pos rfl], ?_, ?_, ?_, ?_⟩)
      · subst e3
        exact ⟨fun k k1 k2 k3 => by funext j; rw [cpL_get 29 33 (by decide), if_neg (fun q => k2 q.1)]; exact congrFun (hru.1 k k1 k2 k3) j, fun j j1 j2 j3 => by rw [cpL_get 29 33 (by decide), if_neg (by omega)]; exact hru.2 j j1 j2 j3⟩
      · subst e3; rw [cpL_get 29 33 (by decide), if_neg (by omega)]; exact hb.2.2
      · subst e3; rw [cpL_get 29 33 (by decide), if_neg (by omega)]; exact h13
      · subst e3
        funext j
        rw [cpL_get 29 33 (by decide), hb.1.2.2.2]
        by_cases q : 0 ≤ j ∧ j < 9
        · rw [if_pos (by omega), if_pos ⟨rfl, q⟩]
        · rw [if_neg (by omega), if_neg (fun y => q y.2)]
    · refine G_aload_n dX6_rules_72 rfl ?_
      refine G_cVq (ci := 6) dX6_rules_73 rfl (by decide) rfl (c_X6_readRule l (d + 0) nu w (by omega) (by omega) (by rw [hb.1.1]; exact ht)) mcX6_177 rfl rfl (by show _ ≤ d + 5; omega) rfl rfl (Nat.le_refl _) (Nat.le_refl _) (fun r S2 y hq9 => ?_)
      obtain ⟨x, rfl, rfl, hrk, y8, hx, hrr, hx1⟩ := hq9
      rw [hb.1.1, hb.1.2.1, hb.1.2.2.1, hb.2.1] at hrr
      have hre := RRP_E hrr
      have hry : RU v y := ⟨fun k k1 k2 k3 => (hrk.1 k k1 k3).trans (hru.1 k k1 k2 k3), fun j j1 j2 j3 => (hrk.2 j (by omega)).trans (hru.2 j j1 j2 j3)⟩
      have y2 : y 27 2 = 0 := (hrk.2 2 (by decide)).trans hb.2.2
      have y29 : y 29 = v 29 := (hrk.1 29 (by decide) (by decide)).trans hb.1.2.2.2
      refine G_if_ne 86 dX6_rules_76 (by decide) (fun h76 => ?_) (fun h76 => ?_)
      · refine G_iinc dX6_rules_86 rfl (iRm (by omega) (by omega)) rfl rfl ?_
        refine G_aload_n dX6_rules_89 rfl ?_
        refine G_cVq (ci := 6) dX6_rules_90 rfl (by decide) rfl (c_X6_go l (d + 2) nu y (by omega) (by omega) (by rw [hrk.1 28 (by decide) (by decide), hb.1.1]; exact ht)) mcX6_174 rfl rfl (by show _ ≤ d + 5; omega) rfl rfl (Nat.le_refl _) (Nat.le_refl _) (fun r S2 u hq9 => ?_)
        obtain ⟨rfl, rfl, hgk, hgp⟩ := hq9
        rw [hrk.1 28 (by decide) (by decide), hb.1.1, y8, hb.2.1] at hgp
        have hgt := GoP_T hgp
        have hu27 : ∀ j, j ≠ 9 → j ≠ 10 → j ≠ 11 → j ≠ 12 → j ≠ 16 → u 27 j = y 27 j := hgk.2
        refine G_goto 65 dX6_rules_93 (by decide) ?_
        exact ih (v 27 2 - u 27 9).toNat (by omega) u (mc + 1) _ ⟨⟨by rw [hgk.1 28 (by decide), hrk.1 28 (by decide) (by decide)]; exact hb.1.1, by rw [hgk.1 31 (by decide), hrk.1 31 (by decide) (by decide)]; exact hb.1.2.1, by rw [hgk.1 32 (by decide), hrk.1 32 (by decide) (by decide)]; exact hb.1.2.2.1, by rw [hgk.1 29 (by decide)]; exact y29⟩, by rw [hu27 8 (by decide) (by decide) (by decide) (by decide) (by decide), y8]; exact hb.2.1, by rw [hu27 2 (by decide) (by decide) (by decide) (by decide) (by decide)]; exact y2⟩ ⟨fun k k1 k2 k3 => (hgk.1 k k1).trans (hry.1 k k1 k2 k3), fun j j1 j2 j3 => (hu27 j (by omega) (by omega) (by omega) (by omega) (by omega)).trans (hry.2 j j1 j2 j3)⟩ (by rw [hu27 13 (by decide) (by decide) (by decide) (by decide) (by decide), hx1 (by omega)]; exact h13) (by omega) (by omega) (GoP_F (by omega) (by omega) hgp) (by omega) (fun k E P mm f2 hpr => hgo (k + 1) E P mm f2 (Or.inr ⟨h69, _, _, _, _, _, _, hrr, Or.inr ⟨by omega, _, _, _, _, _, hgp, by rw [hu27 15 (by decide) (by decide) (by decide) (by decide) (by decide), hgk.1 33 (by decide)] at hpr; exact hpr⟩⟩))
      · refine G_iconst (n := (-1)) dX6_rules_79 ⟨by decide, by decide⟩ ?_
        refine G_aload_n dX6_rules_80 rfl ?_
        refine G_getI (jj := 14) dX6_rules_81 flX6_161 rfl rfl rfl ?_
        have hpl : 0 ≤ y 27 14 ∧ y 27 14 ≤ 180 := RRP_P (by omega) h10 (by omega) hrr (by omega)
        refine G_isub dX6_rules_84 (iRm (by have := hpl; omega) (by have := hpl; omega)) ?_
        exact G_iret dX6_rules_85 rfl rfl rfl (by
           have e0 : x = 0 := by omega
           have hE : y 27 13 ≠ 0 := by omega
           obtain ⟨K, F, T, W, U, k2, f, g1, g2, g3⟩ := hgo 1 (y 27 13) (y 27 14) 0 (fun _ => 0) (Or.inr ⟨h69, _, _, _, _, _, _, hrr, Or.inl ⟨e0, rfl, rfl⟩⟩)
           exact ⟨_, K, F, T, W, U, k2, y 27 13, y 27 14, 0, fun _ => 0, f, rfl, rfl, g1, g2, g3, by rw [if_neg hE], hry, y2, rfl, by rw [y29]; funext j; rw [if_neg (fun q => hE q.1)]⟩)
  have loop1 : ∀ (N : Nat) (i : Int) (w : VV), 0 ≤ i → i + N = 9 → cpL 33 30 N i w = cpL 33 30 9 0 (up (up (up (up (up v 27 0 0) 27 8 (v 27 2)) 27 2 0) 27 13 0) 27 15 0) → G l (yX6_rules, cX6_rules, (some .int), 3, (d + 5), 0, 0, none) (fun r S2 v2 => ∃ x K F T W U k E P mm f2 f, r = some (ai x) ∧ S2 = SG nu ∧ GoP (v 28) (v 27 2) 0 K F T W U ∧ PRL (v 28) (v 27 2) (v 31) (v 32) k K F T W 0 f 0 E P mm f2 ∧ (∀ j, 0 ≤ j → j < 9 → f j = v 30 j) ∧ x = (if E = 0 then mm else -1 - P) ∧ RU v v2 ∧ v2 27 2 = 0 ∧ v2 27 13 = E ∧ v2 29 = (fun j => if E = 0 ∧ 0 ≤ j ∧ j < 9 then f2 j else v 29 j)) 0 0 (SG nu) 30 [some (ar (some 27)), some (ai i), none] [] w := by
    intro N
    induction N using Nat.strongRecOn with
    | ind N ih =>
    intro i w h0 h1 hcp
    refine G_iload_n dX6_rules_30 rfl ?_
    refine G_bipush (n := 9) dX6_rules_31 (by decide) ⟨by decide, by decide⟩ ?_
    refine G_icmp_ge 54 dX6_rules_33 (by decide) (fun h33 => ?_) (fun h33 => ?_)
    · obtain rfl : N = 0 := by omega
      rw [cpL] at hcp
      have w27 : ∀ j, w 27 j = (up (up (up (up (up v 27 0 0) 27 8 (v 27 2)) 27 2 0) 27 13 0) 27 15 0) 27 j := fun j => by rw [hcp, cpL_get 33 30 (by decide), if_neg (by omega)]
      have wk : ∀ k, k ≠ 33 → k ≠ 27 → w k = v k := fun k k1 k2 => by funext j; rw [hcp, cpL_get 33 30 (by decide), if_neg (fun y => k1 y.1), up_ne k2, up_ne k2, up_ne k2, up_ne k2, up_ne k2]
      have w33 : ∀ j, 0 ≤ j → j < 9 → w 33 j = v 30 j := fun j j1 j2 => by rw [hcp, cpL_get 33 30 (by decide), if_pos (by omega)]; rfl
      have f8 : w 27 8 = v 27 2 := by rw [w27]; rfl
      have f2 : w 27 2 = 0 := by rw [w27]; rfl
      have f13 : w 27 13 = 0 := by rw [w27]; rfl
      have f15 : w 27 15 = 0 := by rw [w27]; rfl
      refine G_iconst (n := 0) dX6_rules_54 ⟨by decide, by decide⟩ ?_
      refine G_istore_n dX6_rules_55 rfl rfl ?_
      refine G_aload_n dX6_rules_56 rfl ?_
      refine G_iconst (n := 0) dX6_rules_57 ⟨by decide, by decide⟩ ?_
      refine G_putI (jj := 9) dX6_rules_58 flX6_115 rfl rfl rfl rfl ?_
      refine G_aload_n dX6_rules_61 rfl ?_
      refine G_cVq (ci := 6) dX6_rules_62 rfl (by decide) rfl (c_X6_go l (d + 2) nu (up w 27 9 0) (by rw [up_nj (by decide), f8]; exact hs) (by rw [up_self, up_nj (by decide), f8]; omega) (by rw [up_ne (by decide), wk 28 (by decide) (by decide)]; exact ht)) mcX6_174 rfl rfl (by show _ ≤ d + 5; omega) rfl rfl (Nat.le_refl _) (Nat.le_refl _) (fun r S2 u hq9 => ?_)
      obtain ⟨rfl, rfl, hgk, hgp⟩ := hq9
      rw [up_self, up_nj (show (8 : Int) ≠ 9 by decide), f8, up_ne (show 28 ≠ 27 by decide), wk 28 (by decide) (by decide)] at hgp
      have hgt := GoP_T hgp
      have uk : ∀ k, k ≠ 33 → k ≠ 27 → u k = v k := fun k k1 k2 => by rw [hgk.1 k k2, up_ne k2]; exact wk k k1 k2
      have u27 : ∀ j, j ≠ 9 → j ≠ 10 → j ≠ 11 → j ≠ 12 → j ≠ 16 → u 27 j = w 27 j := fun j j1 j2 j3 j4 j5 => by rw [hgk.2 j j1 j2 j3 j4 j5, up_nj j1]
      have u33 : u 33 = w 33 := by rw [hgk.1 33 (by decide), up_ne (by decide)]
      have u15 : u 27 15 = 0 := by rw [u27 15 (by decide) (by decide) (by decide) (by decide) (by decide)]; exact f15
      exact loopM (v 27 2 - u 27 9).toNat u 0 _ ⟨⟨uk 28 (by decide) (by decide), uk 31 (by decide) (by decide), uk 32 (by decide) (by decide), uk 29 (by decide) (by decide)⟩, by rw [u27 8 (by decide) (by decide) (by decide) (by decide) (by decide)]; exact f8, by rw [u27 2 (by decide) (by decide) (by decide) (by decide) (by decide)]; exact f2⟩ ⟨fun k k1 k2 k3 => uk k k3 k1, fun j j1 j2 j3 => by rw [u27 j (by omega) (by omega) (by omega) (by omega) (by omega), w27]; simp only [up_get]; rw [if_neg (by omega), if_neg (by omega), if_neg (by omega), if_neg (by omega), if_neg (by omega)]⟩ (by rw [u27 13 (by decide) (by decide) (by decide) (by decide) (by decide)]; exact f13) (by omega) (by omega) (GoP_F (by omega) (by omega) hgp) (by omega) (fun k E P mm f2 hpr => ⟨_, _, _, _, _, k, u 33, hgp, by rw [u15] at hpr; exact hpr, fun j j1 j2 => by rw [u33]; exact w33 j j1 j2⟩)
    · obtain ⟨N, rfl⟩ : ∃ k, N = k + 1 := ⟨N - 1, by omega⟩
      refine G_aload_n dX6_rules_36 rfl ?_
      refine G_getR (jj := 7) dX6_rules_37 flX6_25 rfl rfl rfl ?_
      refine G_iload_n dX6_rules_40 rfl ?_
      refine G_aload_n dX6_rules_41 rfl ?_
      refine G_getR (jj := 4) dX6_rules_42 flX6_16 rfl rfl rfl ?_
      refine G_iload_n dX6_rules_45 rfl ?_
      refine G_iald dX6_rules_46 rfl (by omega) (by omega) ?_
      refine G_iast dX6_rules_47 rfl (by omega) (by omega) ?_
      refine G_iinc dX6_rules_48 rfl (iRm (by omega) (by omega)) rfl rfl ?_
      refine G_goto 30 dX6_rules_51 (by decide) ?_
      exact ih N (by omega) (i + 1) _ (by omega) (by omega) hcp
  refine G_aload_n dX6_rules_0 rfl ?_
  refine G_iconst (n := 0) dX6_rules_1 ⟨by decide, by decide⟩ ?_
  refine G_putI (jj := 0) dX6_rules_2 flX6_101 rfl rfl rfl rfl ?_
  refine G_aload_n dX6_rules_5 rfl ?_
  refine G_aload_n dX6_rules_6 rfl ?_
  refine G_getIv (v 27 2) (jj := 2) dX6_rules_7 flX6_105 rfl rfl rfl rfl ?_
  refine G_putI (jj := 8) dX6_rules_10 flX6_112 rfl rfl rfl rfl ?_
  refine G_aload_n dX6_rules_13 rfl ?_
  refine G_iconst (n := 0) dX6_rules_14 ⟨by decide, by decide⟩ ?_
  refine G_putI (jj := 2) dX6_rules_15 flX6_105 rfl rfl rfl rfl ?_
  refine G_aload_n dX6_rules_18 rfl ?_
  refine G_iconst (n := 0) dX6_rules_19 ⟨by decide, by decide⟩ ?_
  refine G_putI (jj := 13) dX6_rules_20 flX6_158 rfl rfl rfl rfl ?_
  refine G_aload_n dX6_rules_23 rfl ?_
  refine G_iconst (n := 0) dX6_rules_24 ⟨by decide, by decide⟩ ?_
  refine G_putI (jj := 15) dX6_rules_25 flX6_171 rfl rfl rfl rfl ?_
  refine G_iconst (n := 0) dX6_rules_28 ⟨by decide, by decide⟩ ?_
  refine G_istore_n dX6_rules_29 rfl rfl ?_
  exact loop1 9 0 _ (by omega) (by omega) rfl
