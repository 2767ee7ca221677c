def rl (k : Int) (w : VV) (c : Int) : Int := if w 24 c = -1 then k else w 20 (w 24 c)
/-- the tree of the columns seen, each reached by a tight pair -/
def TT (m n : Nat) (k : Int) (rho : Int → Nat) (w : VV) : Prop := ∀ c : Int, 0 ≤ c → c < ((m + n : Nat) : Int) → w 26 c = 1 → (w 24 c = -1 ∨ ((0 ≤ w 24 c ∧ w 24 c < ((m + n : Nat) : Int)) ∧ w 26 (w 24 c) = 1 ∧ rho (w 24 c) < rho c ∧ w 20 (w 24 c) ≠ -1)) ∧ gv m n w (rl k w c) c = 0
/-- moveAlong: column j is to be taken; all else agrees -/
def MVI (m n : Nat) (v : VV) (rho : Int → Nat) (j : Int) (w : VV) : Prop :=
  fr [19, 20] v w ∧ (0 ≤ j ∧ j < ((m + n : Nat) : Int)) ∧
  (∀ i : Int, 0 ≤ i → i < ((m + n : Nat) : Int) → w 19 i = -1 ∨ ((0 ≤ w 19 i ∧ w 19 i < ((m + n : Nat) : Int)) ∧ w 20 (w 19 i) = i ∧ w 19 i ≠ j ∧ gv m n v i (w 19 i) = 0)) ∧
  (∀ i : Int, 0 ≤ i → i < ((m + n : Nat) : Int) → (w 19 i = -1 ↔ v 19 i = -1)) ∧
  (∀ c : Int, 0 ≤ c → c < ((m + n : Nat) : Int) → c ≠ j → (w 20 c = -1 ∧ v 20 c = -1) ∨ ((0 ≤ w 20 c ∧ w 20 c < ((m + n : Nat) : Int)) ∧ w 19 (w 20 c) = c)) ∧
  (∀ c : Int, 0 ≤ c → c < ((m + n : Nat) : Int) → rho c < rho j → w 20 c = v 20 c)
def MVP (m n : Nat) (v : VV) (k : Int) (w : VV) : Prop := fr [19, 20] v w ∧
  (∀ i : Int, 0 ≤ i → i < ((m + n : Nat) : Int) → (i = k ∨ v 19 i ≠ -1) → (0 ≤ w 19 i ∧ w 19 i < ((m + n : Nat) : Int)) ∧ w 20 (w 19 i) = i ∧ gv m n v i (w 19 i) = 0) ∧
  (∀ i : Int, 0 ≤ i → i < ((m + n : Nat) : Int) → i ≠ k → v 19 i = -1 → w 19 i = -1) ∧
  ∀ c : Int, 0 ≤ c → c < ((m + n : Nat) : Int) → (w 20 c = -1 ∧ v 20 c = -1) ∨ ((0 ≤ w 20 c ∧ w 20 c < ((m + n : Nat) : Int)) ∧ w 19 (w 20 c) = c)
theorem MVI_end {m n : Nat} {v w : VV} {k j : Int} {rho : Int → Nat} (h : MVI m n v rho j w) (k0 : 0 ≤ k) (k1 : k < ((m + n : Nat) : Int)) (hk : v 19 k = -1) (hg : gv m n v k j = 0) : MVP m n v k (up (up w 19 k j) 20 j k) := by
  obtain ⟨h1, h2, h3, h4, h5, -⟩ := h
  refine ⟨fr_up (fr_up h1 (by decide) _ _) (by decide) _ _, fun i i0 i1 hi => ?_, fun i i0 i1 hi hv => ?_, fun c c0 c1 => ?_⟩
  · rw [up_c (show 19 ≠ 20 by decide)]
    by_cases y : i = k
    · rw [y, up_self, up_self]; exact ⟨h2, rfl, hg⟩
    · have y2 : v 19 i ≠ -1 := by rcases hi with hi | hi; exact absurd hi y; exact hi
      rw [up_nj y]
      rcases h3 i i0 i1 with g | g
      · exact absurd ((h4 i i0 i1).mp g) y2
      · refine ⟨g.1, ?_, g.2.2.2⟩
        rw [up_nj g.2.2.1, up_c (show 20 ≠ 19 by decide)]; exact g.2.1
  · rw [up_c (show 19 ≠ 20 by decide), up_nj hi]
    exact (h4 i i0 i1).mpr hv
  · by_cases y : c = j
    · rw [y, up_self, up_c (show 19 ≠ 20 by decide), up_self]; exact Or.inr ⟨⟨k0, k1⟩, rfl⟩
    · rw [up_nj y, up_c (show 20 ≠ 19 by decide), up_c (show 19 ≠ 20 by decide)]
      rcases h5 c c0 c1 y with g | g
      · exact Or.inl g
      · refine Or.inr ⟨g.1, ?_⟩
        have : w 20 c ≠ k := fun e => by
          have e2 := g.2
          rw [e, (h4 k k0 k1).mpr hk] at e2
          omega
        rw [up_nj this]; exact g.2
theorem MVI_step {m n : Nat} {v w : VV} {j b : Int} {rho : Int → Nat} (h : MVI m n v rho j w) (b0 : 0 ≤ b) (b1 : b < ((m + n : Nat) : Int)) (hr : rho b < rho j) (hb : v 20 b ≠ -1) (hg : gv m n v (v 20 b) j = 0) : ((0 ≤ v 20 b ∧ v 20 b < ((m + n : Nat) : Int)) ∧ w 20 b = v 20 b) ∧ MVI m n v rho b (up (up w 19 (v 20 b) j) 20 j (v 20 b)) := by
  obtain ⟨h1, h2, h3, h4, h5, h6⟩ := h
  have hbj : b ≠ j := fun e => by rw [e] at hr; omega
  have e20 := h6 b b0 b1 hr
  have q := h5 b b0 b1 hbj
  rw [e20] at q
  have q2 : (0 ≤ v 20 b ∧ v 20 b < ((m + n : Nat) : Int)) ∧ w 19 (v 20 b) = b := by
    rcases q with q | q
    · exact absurd q.1 hb
    · exact q
  refine ⟨⟨q2.1, e20⟩, fr_up (fr_up h1 (by decide) _ _) (by decide) _ _, ⟨b0, b1⟩, fun i i0 i1 => ?_, fun i i0 i1 => ?_, fun c c0 c1 hc => ?_, fun c c0 c1 hc => ?_⟩
  · rw [up_c (show 19 ≠ 20 by decide)]
    by_cases y : i = v 20 b
    · rw [y, up_self, up_self]; exact Or.inr ⟨h2, rfl, fun e => hbj e.symm, hg⟩
    · rw [up_nj y]
      rcases h3 i i0 i1 with g | g
      · exact Or.inl g
      · refine Or.inr ⟨g.1, ?_, fun e => y ?_, g.2.2.2⟩
        · rw [up_nj g.2.2.1, up_c (show 20 ≠ 19 by decide)]; exact g.2.1
        · rw [← g.2.1, e, e20]
  · rw [up_c (show 19 ≠ 20 by decide)]
    by_cases y : i = v 20 b
    · rw [y, up_self]
      have := (h4 (v 20 b) q2.1.1 q2.1.2)
      rw [q2.2] at this
      constructor
      · intro e; omega
      · intro e; have := this.mpr e; omega
    · rw [up_nj y]; exact h4 i i0 i1
  · by_cases y : c = j
    · rw [y, up_self, up_c (show 19 ≠ 20 by decide), up_self]; exact Or.inr ⟨q2.1, rfl⟩
    · rw [up_nj y, up_c (show 20 ≠ 19 by decide), up_c (show 19 ≠ 20 by decide)]
      rcases h5 c c0 c1 y with g | g
      · exact Or.inl g
      · refine Or.inr ⟨g.1, ?_⟩
        have : w 20 c ≠ v 20 b := fun e => by
          have e2 := g.2
          rw [e, q2.2] at e2
          exact hc e2.symm
        rw [up_nj this]; exact g.2
  · have : c ≠ j := fun e => by rw [e] at hc; omega
    rw [up_nj this, up_c (show 20 ≠ 19 by decide)]
    exact h6 c c0 c1 (by omega)
set_option maxRecDepth 20000 in
set_option maxHeartbeats 1000000 in
theorem c_X2_moveAlong (l : Launch) (d nu : Nat) (v : VV) (m n : Nat) (hD : SD m n v) (k : Int) (hk : 0 ≤ k ∧ k < ((m + n : Nat) : Int)) (hk9 : v 19 k = -1) (rho : Int → Nat) (hT : TT m n k rho v) (j0 : Int) (hj0 : MVI m n v rho j0 v) (hs0 : v 26 j0 = 1) (hr0 : rho j0 < m + n) : Ct l yX2_moveAlong cX2_moveAlong none 6 (d + 1) 0 0 [ar (some 17), ai k, ai j0] (SG nu) v (fun r S2 w => r = none ∧ S2 = SG nu ∧ MVP m n v k w) := by
  refine Ct_of_G [some (ar (some 17)), some (ai k), some (ai j0), none, none, none] (by decide) rfl rfl ?_
  obtain ⟨d9, d10, d11, hm, hn⟩ := id hD
  have fin : ∀ (p : Int) (Z5 : Option AV) (w : VV), MVP m n v k w → G l (yX2_moveAlong, cX2_moveAlong, none, 6, (d + 1), 0, 0, none) (fun r S2 w => r = none ∧ S2 = SG nu ∧ MVP m n v k w) 0 0 (SG nu) 5 [some (ar (some 17)), some (ai k), some (ai j0), some (ai (-1)), some (ai p), Z5] [] w := by
    intro p Z5 w hP
    have hf := hP.1
    have d11w : w 17 11 = ((m + n : Nat) : Int) := by rw [hf 17 (by decide)]; exact d11
    refine G_iload dX2_moveAlong_5 rfl ?_
    refine G_aload_n dX2_moveAlong_7 rfl ?_
    refine G_getIv (((m + n : Nat) : Int)) (jj := 11) dX2_moveAlong_8 flX2_56 rfl rfl rfl d11w ?_
    refine G_icmp_ge 58 dX2_moveAlong_11 (by decide) (fun h11 => ?_) (fun h11 => ?_)
    · exact G_vret dX2_moveAlong_58 rfl rfl rfl ⟨rfl, rfl, hP⟩
    · refine G_iload_n dX2_moveAlong_14 rfl ?_
      refine G_iconst (n := (-1)) dX2_moveAlong_15 ⟨by decide, by decide⟩ ?_
      refine G_icmp_eq 58 dX2_moveAlong_16 (by decide) (fun h16 => ?_) (fun h16 => absurd rfl h16)
      exact G_vret dX2_moveAlong_58 rfl rfl rfl ⟨rfl, rfl, hP⟩
  have loop : ∀ (N : Nat) (j p : Int) (Z5 : Option AV) (w : VV), MVI m n v rho j w → v 26 j = 1 → 0 ≤ p → p + rho j < ((m + n : Nat) : Int) → rho j < N → G l (yX2_moveAlong, cX2_moveAlong, none, 6, (d + 1), 0, 0, none) (fun r S2 w => r = none ∧ S2 = SG nu ∧ MVP m n v k w) 0 0 (SG nu) 5 [some (ar (some 17)), some (ai k), some (ai j0), some (ai j), some (ai p), Z5] [] w := by
    intro N
    induction N using Nat.strongRecOn with
    | ind N ih =>
    intro j p Z5 w hI hs h0 h1 hN
    have hf := hI.1
    have d11w : w 17 11 = ((m + n : Nat) : Int) := by rw [hf 17 (by decide)]; exact d11
    have hj := hI.2.1
    obtain ⟨t1, t2⟩ := hT j hj.1 hj.2 hs
    have e24 : w 24 j = v 24 j := by rw [hf 24 (by decide)]
    refine G_iload dX2_moveAlong_5 rfl ?_
    refine G_aload_n dX2_moveAlong_7 rfl ?_
    refine G_getIv (((m + n : Nat) : Int)) (jj := 11) dX2_moveAlong_8 flX2_56 rfl rfl rfl d11w ?_
    refine G_icmp_ge 58 dX2_moveAlong_11 (by decide) (fun h11 => by omega) (fun h11 => ?_)
    refine G_iload_n dX2_moveAlong_14 rfl ?_
    refine G_iconst (n := (-1)) dX2_moveAlong_15 ⟨by decide, by decide⟩ ?_
    refine G_icmp_eq 58 dX2_moveAlong_16 (by decide) (fun h16 => by omega) (fun h16 => ?_)
    refine G_aload_n dX2_moveAlong_19 rfl ?_
    refine G_getR (jj := 6) dX2_moveAlong_20 flX2_30 rfl rfl rfl ?_
    refine G_iload_n dX2_moveAlong_23 rfl ?_
    refine G_ialdv (v 24 j) dX2_moveAlong_24 rfl (by omega) (by omega) e24 ?_
    refine G_istore dX2_moveAlong_25 rfl rfl ?_
    refine G_aload_n dX2_moveAlong_27 rfl ?_
    refine G_iload dX2_moveAlong_28 rfl ?_
    refine G_iconst (n := (-1)) dX2_moveAlong_30 ⟨by decide, by decide⟩ ?_
    refine G_icmp_ne 38 dX2_moveAlong_31 (by decide) (fun h31 => ?_) (fun h31 => ?_)
    · obtain ⟨b1, b2, b3, b4⟩ : (0 ≤ v 24 j ∧ v 24 j < ((m + n : Nat) : Int)) ∧ v 26 (v 24 j) = 1 ∧ rho (v 24 j) < rho j ∧ v 20 (v 24 j) ≠ -1 := by rcases t1 with t1 | t1; exact absurd t1 h31; exact t1
      have t3 : gv m n v (v 20 (v 24 j)) j = 0 := by unfold rl at t2; rwa [if_neg h31] at t2
      obtain ⟨⟨q1, q2⟩, q3⟩ := MVI_step hI b1.1 b1.2 b3 b4 t3
      have hrow := q1
      refine G_aload_n dX2_moveAlong_38 rfl ?_
      refine G_getR (jj := 2) dX2_moveAlong_39 flX2_18 rfl rfl rfl ?_
      refine G_iload dX2_moveAlong_42 rfl ?_
      refine G_ialdv (v 20 (v 24 j)) dX2_moveAlong_44 rfl (by omega) (by omega) q2 ?_
      refine G_iload_n dX2_moveAlong_45 rfl ?_
      refine G_cVv (ci := 2) dX2_moveAlong_46 rfl (by decide) rfl (c_X2_pair l d nu w m n (hD.fr hf (by decide)) _ j hrow hj) mcX2_60 rfl rfl (by show _ ≤ d + 1; omega) rfl rfl (Nat.le_refl _) (Nat.le_refl _) ?_
      refine G_iload dX2_moveAlong_49 rfl ?_
      refine G_istore_n dX2_moveAlong_51 rfl rfl ?_
      refine G_iinc dX2_moveAlong_52 rfl (iRm (by omega) (by omega)) rfl rfl ?_
      refine G_goto 5 dX2_moveAlong_55 (by decide) ?_
      exact ih (rho j) (by omega) (v 24 j) (p + 1) _ _ q3 b2 (by omega) (by omega) (by omega)
    · have t3 : gv m n v k j = 0 := by unfold rl at t2; rwa [if_pos h31] at t2
      have hrow := hk
      refine G_iload_n dX2_moveAlong_34 rfl ?_
      refine G_goto 45 dX2_moveAlong_35 (by decide) ?_
      refine G_iload_n dX2_moveAlong_45 rfl ?_
      refine G_cVv (ci := 2) dX2_moveAlong_46 rfl (by decide) rfl (c_X2_pair l d nu w m n (hD.fr hf (by decide)) _ j hrow hj) mcX2_60 rfl rfl (by show _ ≤ d + 1; omega) rfl rfl (Nat.le_refl _) (Nat.le_refl _) ?_
      refine G_iload dX2_moveAlong_49 rfl ?_
      refine G_istore_n dX2_moveAlong_51 rfl rfl ?_
      refine G_iinc dX2_moveAlong_52 rfl (iRm (by omega) (by omega)) rfl rfl ?_
      refine G_goto 5 dX2_moveAlong_55 (by decide) ?_
      rw [h31]
      exact fin (p + 1) _ _ (MVI_end hI hk.1 hk.2 hk9 t3)
  refine G_iload_n dX2_moveAlong_0 rfl ?_
  refine G_istore_n dX2_moveAlong_1 rfl rfl ?_
  refine G_iconst (n := 0) dX2_moveAlong_2 ⟨by decide, by decide⟩ ?_
  refine G_istore dX2_moveAlong_3 rfl rfl ?_
  exact loop (m + n) j0 0 none v hj0 hs0 (by omega) (by omega) (by omega)
