def RZ (z z2 : VV) (E : Int) (f2 : Int → Int) : Prop := RU z z2 ∧ z2 27 2 = 0 ∧ z2 27 13 = E ∧ ∀ j, 0 ≤ j → j < 9 → z2 29 j = (if E = 0 then f2 j else z 29 j)
theorem DR_RB {v : VV} (h : DR (v 29)) : RB v := by
  have e : ∀ k : Nat, k < 9 → xLe.getD k 0 ≤ v 29 (k : Int) ∧ v 29 (k : Int) ≤ xMo.getD k 0 := fun k hk => h k (by omega) (by omega)
  refine ⟨?_, ?_, ?_, ?_, ?_, ?_, ?_, ?_, ?_⟩
  · exact e 0 (by omega)
  · exact e 1 (by omega)
  · exact e 2 (by omega)
  · exact e 3 (by omega)
  · exact e 4 (by omega)
  · exact e 5 (by omega)
  · exact e 6 (by omega)
  · exact e 7 (by omega)
  · exact e 8 (by omega)
theorem RB_DR {v : VV} (h : RB v) : DR (v 29) := by
  obtain ⟨h0, h1, h2, h3, h4, h5, h6, h7, h8⟩ := h
  intro j j0 j1
  have : j = 0 ∨ j = 1 ∨ j = 2 ∨ j = 3 ∨ j = 4 ∨ j = 5 ∨ j = 6 ∨ j = 7 ∨ j = 8 := by omega
  rcases this with rfl | rfl | rfl | rfl | rfl | rfl | rfl | rfl | rfl
  · exact h0
  · exact h1
  · exact h2
  · exact h3
  · exact h4
  · exact h5
  · exact h6
  · exact h7
  · exact h8
theorem Sim_rules {nu : Nat} {v w z z2 : VV} {E : Int} {f2 : Int → Int} (h : Sim nu v z) (hf : ∀ k, k ≠ 3 → k ≠ 4 → k ≠ 5 → w k = v k) (h5 : w 3 5 = E) (h4 : w 4 = fun j => if E = 0 ∧ 0 ≤ j ∧ j < 9 then f2 j else v 4 j) (hD : E = 0 → DR f2) (hz : RZ z z2 E f2) : Sim nu (up w 1 1 0) z2 := by
  obtain ⟨hM, hC, hU, hW, hX, hH, hR, hT, hK⟩ := h
  obtain ⟨⟨r1, r2⟩, r3, r4, r5⟩ := hz
  have e33 : z2 27 33 = z 27 33 := r2 33 (by omega) (by omega) (by omega)
  have e34 : z2 27 34 = z 27 34 := r2 34 (by omega) (by omega) (by omega)
  have e35 : z2 27 35 = z 27 35 := r2 35 (by omega) (by omega) (by omega)
  have e36 : z2 27 36 = z 27 36 := r2 36 (by omega) (by omega) (by omega)
  have ez : ∀ k, k ≠ 27 → k ≠ 29 → k ≠ 33 → z2 k = z k := r1
  have ew : ∀ k, k ≠ 1 → k ≠ 3 → k ≠ 4 → k ≠ 5 → up w 1 1 0 k = v k := fun k k1 k3 k4 k5 => by rw [up_ne k1]; exact hf k k3 k4 k5
  have hDR : DR (z2 29) := by
    intro j j0 j1
    rw [r5 j j0 j1]
    by_cases q : E = 0
    · rw [if_pos q]; exact hD q j j0 j1
    · rw [if_neg q]; exact RB_DR hM.2.2.2.1 j j0 j1
  unfold Sim
  rw [e35]
  refine ⟨⟨⟨hM.1.1, by rw [e33]; exact hM.1.2⟩, by rw [e34]; exact hM.2.1, by rw [e35]; exact hM.2.2.1, DR_RB hDR, ?_, ?_, ?_⟩, ?_, fun k hk => ?_, fun k hk => ?_, fun g hg => ?_, ⟨?_, fun k hk => ?_, ?_⟩, fun k k0 k1 => ?_, ?_, ?_⟩
  · rw [ez 34 (by decide) (by decide) (by decide), ez 35 (by decide) (by decide) (by decide), ez 36 (by decide) (by decide) (by decide), ez 37 (by decide) (by decide) (by decide), ez 41 (by decide) (by decide) (by decide)]; exact hM.2.2.2.2.1
  · rw [e34, ez 44 (by decide) (by decide) (by decide), ez 45 (by decide) (by decide) (by decide), ez 46 (by decide) (by decide) (by decide), ez 47 (by decide) (by decide) (by decide)]; exact hM.2.2.2.2.2.1
  · rw [e34, ez 48 (by decide) (by decide) (by decide)]; exact hM.2.2.2.2.2.2
  · unfold SC; rw [ew 0 (by decide) (by decide) (by decide) (by decide), e34, e35]; exact hC
  · rw [ew (59 + 3 * k) (by omega) (by omega) (by omega) (by omega), ez 34 (by decide) (by decide) (by decide), ez 35 (by decide) (by decide) (by decide), ez 36 (by decide) (by decide) (by decide), ez 37 (by decide) (by decide) (by decide), ez 38 (by decide) (by decide) (by decide), ez 39 (by decide) (by decide) (by decide), ez 40 (by decide) (by decide) (by decide), ez 41 (by decide) (by decide) (by decide)]; exact hU k hk
  · rw [ew (60 + 3 * k) (by omega) (by omega) (by omega) (by omega), ew (61 + 3 * k) (by omega) (by omega) (by omega) (by omega), ez 42 (by decide) (by decide) (by decide), ez 43 (by decide) (by decide) (by decide)]; exact hW k hk
  · rw [e34] at hg
    rw [ew (8 + g) (by omega) (by omega) (by omega) (by omega), ez 44 (by decide) (by decide) (by decide), ez 45 (by decide) (by decide) (by decide), ez 46 (by decide) (by decide) (by decide), ez 47 (by decide) (by decide) (by decide)]; exact hX g hg
  · rw [ew 16 (by decide) (by decide) (by decide) (by decide), e34, ez 48 (by decide) (by decide) (by decide)]; exact hH.1
  · rw [ew (59 + 3 * k) (by omega) (by omega) (by omega) (by omega)]
    unfold seatOfS
    rw [e34, ez 48 (by decide) (by decide) (by decide)]
    exact hH.2.1 k hk
  · unfold INJ; rw [e34, ez 48 (by decide) (by decide) (by decide)]; exact hH.2.2
  · rw [up_c (show 4 ≠ 1 by decide), h4, r5 k k0 k1]
    show (if E = 0 ∧ 0 ≤ k ∧ k < 9 then f2 k else v 4 k) = _
    by_cases q : E = 0
    · rw [if_pos ⟨q, k0, k1⟩, if_pos q]
    · rw [if_neg (fun y => q y.1), if_neg q]; exact hR k k0 k1
  · refine ⟨by rw [up_c (show 3 ≠ 1 by decide), h5, r4], by rw [up_self, r3], by rw [r3]; omega, ?_, fun i i0 i1 => by rw [r3] at i1; omega⟩
    rw [ez 28 (by decide) (by decide) (by decide)]; exact hT.2.2.2.1
  · unfold SK gvN
    rw [ew 0 (by decide) (by decide) (by decide) (by decide), e34, e36, ez 49 (by decide) (by decide) (by decide)]
    exact hK
set_option maxRecDepth 20000 in
set_option maxHeartbeats 1000000 in
theorem c_X5_rules (l : Launch) (d nu : Nat) (v : VV) (z : VV) (hS : Sim nu v z) (lo hi : Int → Int) (hlo : ∀ r, 0 ≤ r → r < 9 → lo r = xLe.getD r.toNat 0) (hhi : ∀ r, 0 ≤ r → r < 9 → hi r = xMo.getD r.toNat 0) : Ct l yX5_rules cX5_rules (some .int) 2 (d + 9) 0 0 [ar (some 0)] (SG nu) v (fun r S2 v2 => ∃ x E P mm f2, r = some (ai x) ∧ S2 = SG nu ∧ RW (z 28) (z 27 2) lo hi 0 0 (fun j => if 0 ≤ j ∧ j < 9 then xUs.getD j.toNat 0 else v 5 j) 0 E P mm f2 ∧ x = (if E = 0 then mm else -1 - P) ∧ KM v v2 ∧ ∀ z2, RZ z z2 E f2 → Sim nu v2 z2) := by
  refine Ct_of_G [some (ar (some 0)), none] (by decide) rfl rfl ?_
  have hT := hS.2.2.2.2.2.2.2.1
  refine G_aload_n dX5_rules_0 rfl ?_
  refine G_getR (jj := 1) dX5_rules_1 flX5_19 rfl rfl rfl ?_
  refine G_aload_n dX5_rules_4 rfl ?_
  refine G_getR (jj := 0) dX5_rules_5 flX5_10 rfl rfl rfl ?_
  refine G_cVq (ci := 1) dX5_rules_8 rfl (by decide) rfl (c_X1_read l (d + 0) nu v (z 27 2) (z 28) ⟨hT.2.1, hT.2.2.1⟩ hT.2.2.2.1 hT.2.2.2.2 lo hi hlo hhi) mcX5_62 rfl rfl (by show _ ≤ d + 9; omega) rfl rfl (Nat.le_refl _) (Nat.le_refl _) (fun r S2 w hq9 => ?_)
  obtain ⟨x, E, P, mm, f2, rfl, rfl, q1, q2, q3, q4, q5, q6⟩ := hq9
  have hw1 : 0 ≤ w 1 1 := by rw [q4 1 (by decide) (by decide) (by decide), hT.2.1]; exact hT.2.2.1.1
  refine G_istore_n dX5_rules_11 rfl rfl ?_
  refine G_aload_n dX5_rules_12 rfl ?_
  refine G_getR (jj := 0) dX5_rules_13 flX5_10 rfl rfl rfl ?_
  refine G_iconst (n := 0) dX5_rules_16 ⟨by decide, by decide⟩ ?_
  refine G_cVq (ci := 3) dX5_rules_17 rfl (by decide) rfl (c_X3_cut l (d + 8) nu w 0) mcX5_59 rfl rfl (by show _ ≤ d + 9; omega) rfl rfl (Nat.le_refl _) (Nat.le_refl _) (fun r S2 w2 hq9 => ?_)
  obtain ⟨rfl, rfl, hv9⟩ := hq9
  rw [if_pos (by omega)] at hv9
  rw [hv9]
  refine G_pop_i dX5_rules_20 ?_
  refine G_iload_n dX5_rules_21 rfl ?_
  exact G_iret dX5_rules_22 rfl rfl rfl ⟨x, E, P, mm, f2, rfl, rfl, q1, q2, fun k k1 k2 => by rw [up_ne (by omega)]; exact q4 k (by omega) (by omega) (by omega), fun z2 hz => Sim_rules hS q4 q3 q5 q6 hz⟩
