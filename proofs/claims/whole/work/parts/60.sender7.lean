/-- the Sender as begin() leaves it, the prices apart -/
def SB (m n : Nat) (w : VV) : Prop := SD m n w ∧ (∀ i : Int, 0 ≤ i → i < ((m + n : Nat) : Int) → w 19 i = (if (m : Int) ≤ i then i - m else -1) ∧ w 20 i = (if i < n then m + i else -1) ∧ w 21 i = 0 ∧ w 22 i = 0)
theorem SB_HI {m n : Nat} {w : VV} (h : SB m n w) (hp : BP w) : HI m n 0 w := by
  obtain ⟨h1, h2⟩ := h
  have hg : ∀ i c : Int, 0 ≤ i → i < ((m + n : Nat) : Int) → 0 ≤ c → c < ((m + n : Nat) : Int) → (m : Int) ≤ i → gv m n w i c = 0 := fun i c i0 i1 c0 c1 hi => by
    unfold gv cF
    rw [if_neg (by omega), (h2 i i0 i1).2.2.1, (h2 c c0 c1).2.2.2]; rfl
  refine ⟨h1, hp, ⟨fun i i0 i1 hi => ?_, fun i i0 i1 => ?_, fun c c0 c1 => ?_, fun i c i0 i1 c0 c1 hi => ?_⟩, fun i i0 i1 => (h2 i i0 (by omega)).2.2.1, fun i i0 i1 => ?_⟩
  · have e := (h2 i i0 i1).1
    rw [if_pos (by omega)] at e
    rw [e]
    refine ⟨by omega, ?_, hg i _ i0 i1 (by omega) (by omega) (by omega)⟩
    have e2 := (h2 (i - m) (by omega) (by omega)).2.1
    rw [if_pos (by omega)] at e2
    omega
  · have e := (h2 i i0 (by omega)).1
    rwa [if_neg (by omega)] at e
  · have e := (h2 c c0 c1).2.1
    by_cases y : c < n
    · rw [if_pos y] at e
      have e2 := (h2 (m + c) (by omega) (by omega)).1
      rw [if_pos (by omega)] at e2
      rw [e, e2]
      exact Or.inr (by omega)
    · rw [if_neg y] at e
      exact Or.inl ⟨e, (h2 c c0 c1).2.2.2⟩
  · rw [hg i c i0 i1 c0 c1 (by omega)]; exact Int.le_refl _
  · have e := (h2 i i0 i1).2.2
    omega
set_option maxRecDepth 20000 in
set_option maxHeartbeats 1000000 in
theorem c_X2_begin (l : Launch) (d nu : Nat) (v : VV) (m n : Nat) (hm : m ≤ 16) (hn : n ≤ 20) : Ct l yX2_begin cX2_begin none 4 (d + 1) 0 0 [ar (some 17), ai (m : Int), ai (n : Int)] (SG nu) v (fun r S2 w => r = none ∧ S2 = SG nu ∧ fr [17, 18, 19, 20, 21, 22] v w ∧ SB m n w ∧ ∀ x : Int, 0 ≤ x → x < 320 → w 18 x = 10000000) := by
  refine Ct_of_G [some (ar (some 17)), some (ai (m : Int)), some (ai (n : Int)), none] (by decide) rfl rfl ?_
  have loop3 : ∀ (N : Nat) (k : Int) (w : VV), 0 ≤ k → k + N = n → fr [17, 18, 19, 20, 21, 22] v w → SD m n w → (∀ x : Int, 0 ≤ x → x < 320 → w 18 x = 10000000) → (∀ i : Int, 0 ≤ i → i < ((m + n : Nat) : Int) → w 19 i = (if (m : Int) ≤ i ∧ i < m + k then i - m else -1) ∧ w 20 i = (if i < k then m + i else -1) ∧ w 21 i = 0 ∧ w 22 i = 0) → G l (yX2_begin, cX2_begin, none, 4, (d + 1), 0, 0, none) (fun r S2 w => r = none ∧ S2 = SG nu ∧ fr [17, 18, 19, 20, 21, 22] v w ∧ SB m n w ∧ ∀ x : Int, 0 ≤ x → x < 320 → w 18 x = 10000000) 0 0 (SG nu) 112 [some (ar (some 17)), some (ai (m : Int)), some (ai (n : Int)), some (ai k)] [] w := by
    intro N
    induction N using Nat.strongRecOn with
    | ind N ih =>
    intro k w h0 h1 hf hD hp hI
    have d9w := hD.1
    have d10w := hD.2.1
    refine G_iload_n dX2_begin_112 rfl ?_
    refine G_aload_n dX2_begin_113 rfl ?_
    refine G_getIv ((n : Int)) (jj := 10) dX2_begin_114 flX2_53 rfl rfl rfl d10w ?_
    refine G_icmp_ge 137 dX2_begin_117 (by decide) (fun h117 => ?_) (fun h117 => ?_)
    · exact G_vret dX2_begin_137 rfl rfl rfl ⟨rfl, rfl, hf, ⟨hD, fun i i0 i1 => by
          have q := hI i i0 i1
          have e : k = n := by omega
          rw [e] at q
          refine ⟨?_, q.2.1, q.2.2.1, q.2.2.2⟩
          rw [q.1]
          by_cases z : (m : Int) ≤ i
          · rw [if_pos (by omega), if_pos z]
          · rw [if_neg (by omega), if_neg z]⟩, hp⟩
    · refine G_aload_n dX2_begin_120 rfl ?_
      refine G_aload_n dX2_begin_121 rfl ?_
      refine G_getIv ((m : Int)) (jj := 9) dX2_begin_122 flX2_49 rfl rfl rfl d9w ?_
      refine G_iload_n dX2_begin_125 rfl ?_
      refine G_iadd dX2_begin_126 (iRm (by omega) (by omega)) ?_
      refine G_iload_n dX2_begin_127 rfl ?_
      refine G_cVv (ci := 2) dX2_begin_128 rfl (by decide) rfl (c_X2_pair l (d + 0) nu w m n hD (m + k) k ⟨by omega, by omega⟩ ⟨by omega, by omega⟩) mcX2_60 rfl rfl (by show _ ≤ d + 1; omega) rfl rfl (Nat.le_refl _) (Nat.le_refl _) ?_
      refine G_iinc dX2_begin_131 rfl (iRm (by omega) (by omega)) rfl rfl ?_
      refine G_goto 112 dX2_begin_134 (by decide) ?_
      refine ih (N - 1) (by omega) (k + 1) _ (by omega) (by omega) (fr_up (fr_up hf (by decide) _ _) (by decide) _ _) (hD.fr (fr_up (fr_up (ks := [19, 20]) fr_rf (by decide) _ _) (by decide) _ _) (by decide)) (fun x x0 x1 => hp x x0 x1) (fun i i0 i1 => ?_)
      have q := hI i i0 i1
      refine ⟨?_, ?_, q.2.2.1, q.2.2.2⟩
      · rw [up_c (show 19 ≠ 20 by decide)]
        by_cases y : i = m + k
        · rw [y, up_self, if_pos (by omega)]; omega
        · rw [up_nj y, q.1]
          by_cases z : (m : Int) ≤ i ∧ i < m + k
          · rw [if_pos z, if_pos (by omega)]
          · rw [if_neg z, if_neg (by omega)]
      · by_cases y : i = k
        · rw [y, up_self, if_pos (by omega)]
        · rw [up_nj y, up_c (show 20 ≠ 19 by decide), q.2.1]
          by_cases z : i < k
          · rw [if_pos z, if_pos (by omega)]
          · rw [if_neg z, if_neg (by omega)]
  have loop2 : ∀ (N : Nat) (k : Int) (w : VV), 0 ≤ k → k + N = ((m + n : Nat) : Int) → fr [17, 18, 19, 20, 21, 22] v w → SD m n w → (∀ x : Int, 0 ≤ x → x < 320 → w 18 x = 10000000) → (∀ i : Int, 0 ≤ i → i < k → w 19 i = -1 ∧ w 20 i = -1 ∧ w 21 i = 0 ∧ w 22 i = 0) → G l (yX2_begin, cX2_begin, none, 4, (d + 1), 0, 0, none) (fun r S2 w => r = none ∧ S2 = SG nu ∧ fr [17, 18, 19, 20, 21, 22] v w ∧ SB m n w ∧ ∀ x : Int, 0 ≤ x → x < 320 → w 18 x = 10000000) 0 0 (SG nu) 68 [some (ar (some 17)), some (ai (m : Int)), some (ai (n : Int)), some (ai k)] [] w := by
    intro N
    induction N using Nat.strongRecOn with
    | ind N ih =>
    intro k w h0 h1 hf hD hp hI
    have d11w := hD.2.2.1
    refine G_iload_n dX2_begin_68 rfl ?_
    refine G_aload_n dX2_begin_69 rfl ?_
    refine G_getIv (((m + n : Nat) : Int)) (jj := 11) dX2_begin_70 flX2_56 rfl rfl rfl d11w ?_
    refine G_icmp_ge 110 dX2_begin_73 (by decide) (fun h73 => ?_) (fun h73 => ?_)
    · refine G_iconst (n := 0) dX2_begin_110 ⟨by decide, by decide⟩ ?_
      refine G_istore_n dX2_begin_111 rfl rfl ?_
      exact loop3 n 0 w (by omega) (by omega) hf hD hp (fun i i0 i1 => by have := hI i i0 (by omega); rw [if_neg (by omega), if_neg (by omega)]; exact this)
    · refine G_aload_n dX2_begin_76 rfl ?_
      refine G_getR (jj := 1) dX2_begin_77 flX2_15 rfl rfl rfl ?_
      refine G_iload_n dX2_begin_80 rfl ?_
      refine G_iconst (n := (-1)) dX2_begin_81 ⟨by decide, by decide⟩ ?_
      refine G_iast dX2_begin_82 rfl (by omega) (by omega) ?_
      refine G_aload_n dX2_begin_83 rfl ?_
      refine G_getR (jj := 2) dX2_begin_84 flX2_18 rfl rfl rfl ?_
      refine G_iload_n dX2_begin_87 rfl ?_
      refine G_iconst (n := (-1)) dX2_begin_88 ⟨by decide, by decide⟩ ?_
      refine G_iast dX2_begin_89 rfl (by omega) (by omega) ?_
      refine G_aload_n dX2_begin_90 rfl ?_
      refine G_getR (jj := 3) dX2_begin_91 flX2_21 rfl rfl rfl ?_
      refine G_iload_n dX2_begin_94 rfl ?_
      refine G_iconst (n := 0) dX2_begin_95 ⟨by decide, by decide⟩ ?_
      refine G_iast dX2_begin_96 rfl (by omega) (by omega) ?_
      refine G_aload_n dX2_begin_97 rfl ?_
      refine G_getR (jj := 4) dX2_begin_98 flX2_24 rfl rfl rfl ?_
      refine G_iload_n dX2_begin_101 rfl ?_
      refine G_iconst (n := 0) dX2_begin_102 ⟨by decide, by decide⟩ ?_
      refine G_iast dX2_begin_103 rfl (by omega) (by omega) ?_
      refine G_iinc dX2_begin_104 rfl (iRm (by omega) (by omega)) rfl rfl ?_
      refine G_goto 68 dX2_begin_107 (by decide) ?_
      exact ih (N - 1) (by omega) (k + 1) _ (by omega) (by omega) (fr_up (fr_up (fr_up (fr_up hf (by decide) _ _) (by decide) _ _) (by decide) _ _) (by decide) _ _) (hD.fr (fr_up (fr_up (fr_up (fr_up (ks := [19, 20, 21, 22]) fr_rf (by decide) _ _) (by decide) _ _) (by decide) _ _) (by decide) _ _) (by decide)) (fun x x0 x1 => hp x x0 x1) (fun i i0 i1 => by by_cases y : i = k; (subst y; simp [up_get]); (have := hI i i0 (by omega); simp [up_get, y]; exact this))
  have loop1 : ∀ (N : Nat) (k : Int) (w : VV), 0 ≤ k → k + N = 320 → fr [17, 18, 19, 20, 21, 22] v w → SD m n w → (∀ x : Int, 0 ≤ x → x < k → w 18 x = 10000000) → G l (yX2_begin, cX2_begin, none, 4, (d + 1), 0, 0, none) (fun r S2 w => r = none ∧ S2 = SG nu ∧ fr [17, 18, 19, 20, 21, 22] v w ∧ SB m n w ∧ ∀ x : Int, 0 ≤ x → x < 320 → w 18 x = 10000000) 0 0 (SG nu) 43 [some (ar (some 17)), some (ai (m : Int)), some (ai (n : Int)), some (ai k)] [] w := by
    intro N
    induction N using Nat.strongRecOn with
    | ind N ih =>
    intro k w h0 h1 hf hD hp
    refine G_iload_n dX2_begin_43 rfl ?_
    refine G_aload_n dX2_begin_44 rfl ?_
    refine G_getR (jj := 0) dX2_begin_45 flX2_9 rfl rfl rfl ?_
    refine G_alen dX2_begin_48 rfl ⟨by decide, by decide⟩ ?_
    refine G_icmp_ge 66 dX2_begin_49 (by decide) (fun h49 => ?_) (fun h49 => ?_)
    · refine G_iconst (n := 0) dX2_begin_66 ⟨by decide, by decide⟩ ?_
      refine G_istore_n dX2_begin_67 rfl rfl ?_
      exact loop2 (m + n) 0 w (by omega) (by omega) hf hD (fun x x0 x1 => hp x x0 (by omega)) (fun i i0 i1 => by omega)
    · refine G_aload_n dX2_begin_52 rfl ?_
      refine G_getR (jj := 0) dX2_begin_53 flX2_9 rfl rfl rfl ?_
      refine G_iload_n dX2_begin_56 rfl ?_
      refine G_ldc (n := 10000000) dX2_begin_57 (show Cond.constant RX2 59 (Int32.ofInt 10000000) ∈ lw_good by decide +kernel) ⟨by decide, by decide⟩ ?_
      refine G_iast dX2_begin_59 rfl (by omega) (by omega) ?_
      refine G_iinc dX2_begin_60 rfl (iRm (by omega) (by omega)) rfl rfl ?_
      refine G_goto 43 dX2_begin_63 (by decide) ?_
      exact ih (N - 1) (by omega) (k + 1) _ (by omega) (by omega) (fr_up hf (by decide) _ _) (hD.fr (fr_up (ks := [18]) fr_rf (by decide) _ _) (by decide)) (fun i i0 i1 => by by_cases y : i = k; (subst y; rw [up_self]); (rw [up_nj y]; exact hp i i0 (by omega)))
  refine G_aload_n dX2_begin_0 rfl ?_
  refine G_iconst (n := 0) dX2_begin_1 ⟨by decide, by decide⟩ ?_
  refine G_iload_n dX2_begin_2 rfl ?_
  refine G_bipush (n := 16) dX2_begin_3 (by decide) ⟨by decide, by decide⟩ ?_
  refine G_mmin dX2_begin_5 mcX2_40 (by show 1 ≤ d + _; omega) rfl rfl rfl ?_
  rw [if_neg (by omega)]
  refine G_mmax dX2_begin_8 mcX2_46 (by show 1 ≤ d + _; omega) rfl rfl rfl ?_
  rw [show (if (0 : Int) < m then (m : Int) else 0) = m from by split <;> omega]
  refine G_putI (jj := 9) dX2_begin_11 flX2_49 rfl rfl rfl rfl ?_
  refine G_aload_n dX2_begin_14 rfl ?_
  refine G_iconst (n := 0) dX2_begin_15 ⟨by decide, by decide⟩ ?_
  refine G_iload_n dX2_begin_16 rfl ?_
  refine G_bipush (n := 20) dX2_begin_17 (by decide) ⟨by decide, by decide⟩ ?_
  refine G_mmin dX2_begin_19 mcX2_40 (by show 1 ≤ d + _; omega) rfl rfl rfl ?_
  rw [if_neg (by omega)]
  refine G_mmax dX2_begin_22 mcX2_46 (by show 1 ≤ d + _; omega) rfl rfl rfl ?_
  rw [show (if (0 : Int) < n then (n : Int) else 0) = n from by split <;> omega]
  refine G_putI (jj := 10) dX2_begin_25 flX2_53 rfl rfl rfl rfl ?_
  refine G_aload_n dX2_begin_28 rfl ?_
  refine G_aload_n dX2_begin_29 rfl ?_
  refine G_getIv ((m : Int)) (jj := 9) dX2_begin_30 flX2_49 rfl rfl rfl (by rw [up_nj (by decide), up_self]) ?_
  refine G_aload_n dX2_begin_33 rfl ?_
  refine G_getIv ((n : Int)) (jj := 10) dX2_begin_34 flX2_53 rfl rfl rfl (by rw [up_self]) ?_
  refine G_iadd dX2_begin_37 (iRm (by omega) (by omega)) ?_
  refine G_putI (jj := 11) dX2_begin_38 flX2_56 rfl rfl rfl rfl ?_
  refine G_iconst (n := 0) dX2_begin_41 ⟨by decide, by decide⟩ ?_
  refine G_istore_n dX2_begin_42 rfl rfl ?_
  exact loop1 320 0 _ (by omega) (by omega) (fr_up (fr_up (fr_up fr_rf (by decide) _ _) (by decide) _ _) (by decide) _ _) ⟨by rw [up_nj (by decide), up_nj (by decide), up_self], by rw [up_nj (by decide), up_self], by rw [up_self]; omega, hm, hn⟩ (fun x x0 x1 => by omega)
set_option maxRecDepth 20000 in
set_option maxHeartbeats 1000000 in
theorem c_X2_allow (l : Launch) (d nu : Nat) (v : VV) (m n : Nat) (hD : SD m n v) (s u p : Int) (hs : 0 ≤ s ∧ s < m) (hu : 0 ≤ u ∧ u < n) : Ct l yX2_allow cX2_allow none 4 (d + 0) 0 0 [ar (some 17), ai s, ai u, ai p] (SG nu) v (rV (SG nu) (up v 18 (s * 20 + u) p)) := by
  refine Ct_of_G [some (ar (some 17)), some (ai s), some (ai u), some (ai p)] (by decide) rfl rfl ?_
  obtain ⟨d9, d10, d11, hm, hn⟩ := id hD
  refine G_iload_n dX2_allow_0 rfl ?_
  refine G_if_lt 36 dX2_allow_1 (by decide) (fun h1 => by omega) (fun h1 => ?_)
  refine G_iload_n dX2_allow_4 rfl ?_
  refine G_aload_n dX2_allow_5 rfl ?_
  refine G_getIv ((m : Int)) (jj := 9) dX2_allow_6 flX2_49 rfl rfl rfl d9 ?_
  refine G_icmp_ge 36 dX2_allow_9 (by decide) (fun h9 => by omega) (fun h9 => ?_)
  refine G_iload_n dX2_allow_12 rfl ?_
  refine G_if_lt 36 dX2_allow_13 (by decide) (fun h13 => by omega) (fun h13 => ?_)
  refine G_iload_n dX2_allow_16 rfl ?_
  refine G_aload_n dX2_allow_17 rfl ?_
  refine G_getIv ((n : Int)) (jj := 10) dX2_allow_18 flX2_53 rfl rfl rfl d10 ?_
  refine G_icmp_ge 36 dX2_allow_21 (by decide) (fun h21 => by omega) (fun h21 => ?_)
  refine G_aload_n dX2_allow_24 rfl ?_
  refine G_getR (jj := 0) dX2_allow_25 flX2_9 rfl rfl rfl ?_
  refine G_iload_n dX2_allow_28 rfl ?_
  refine G_bipush (n := 20) dX2_allow_29 (by decide) ⟨by decide, by decide⟩ ?_
  refine G_imul dX2_allow_31 (iRm (by omega) (by omega)) ?_
  refine G_iload_n dX2_allow_32 rfl ?_
  refine G_iadd dX2_allow_33 (iRm (by omega) (by omega)) ?_
  refine G_iload_n dX2_allow_34 rfl ?_
  refine G_iast dX2_allow_35 rfl (by omega) (by omega) ?_
  exact G_vret dX2_allow_36 rfl rfl rfl ⟨rfl, rfl, rfl⟩
set_option maxRecDepth 20000 in
set_option maxHeartbeats 1000000 in
theorem c_X2_umpireFor (l : Launch) (d nu : Nat) (v : VV) (m n : Nat) (hD : SD m n v) (s : Int) (hs : 0 ≤ s ∧ s < m) (hc : 0 ≤ v 19 s) : Ct l yX2_umpireFor cX2_umpireFor (some .int) 3 (d + 0) 0 0 [ar (some 17), ai s] (SG nu) v (rI (SG nu) (rd n (v 19 s)) v) := by
  refine Ct_of_G [some (ar (some 17)), some (ai s), none] (by decide) rfl rfl ?_
  obtain ⟨d9, d10, d11, hm, hn⟩ := id hD
  refine G_iload_n dX2_umpireFor_0 rfl ?_
  refine G_if_lt 21 dX2_umpireFor_1 (by decide) (fun h1 => by omega) (fun h1 => ?_)
  refine G_iload_n dX2_umpireFor_4 rfl ?_
  refine G_aload_n dX2_umpireFor_5 rfl ?_
  refine G_getIv ((m : Int)) (jj := 9) dX2_umpireFor_6 flX2_49 rfl rfl rfl d9 ?_
  refine G_icmp_ge 21 dX2_umpireFor_9 (by decide) (fun h9 => by omega) (fun h9 => ?_)
  refine G_aload_n dX2_umpireFor_12 rfl ?_
  refine G_getR (jj := 1) dX2_umpireFor_13 flX2_15 rfl rfl rfl ?_
  refine G_iload_n dX2_umpireFor_16 rfl ?_
  refine G_iald dX2_umpireFor_17 rfl (by omega) (by omega) ?_
  refine G_goto 22 dX2_umpireFor_18 (by decide) ?_
  refine G_istore_n dX2_umpireFor_22 rfl rfl ?_
  refine G_iload_n dX2_umpireFor_23 rfl ?_
  refine G_aload_n dX2_umpireFor_24 rfl ?_
  refine G_getIv ((n : Int)) (jj := 10) dX2_umpireFor_25 flX2_53 rfl rfl rfl d10 ?_
  refine G_icmp_ge 35 dX2_umpireFor_28 (by decide) (fun h28 => ?_) (fun h28 => ?_)
  · refine G_iconst (n := (-1)) dX2_umpireFor_35 ⟨by decide, by decide⟩ ?_
    exact G_iret dX2_umpireFor_36 rfl rfl rfl ⟨by unfold rd; first | (rw [if_pos (by omega)]) | (rw [if_neg (by omega)]), rfl, rfl⟩
  · refine G_iload_n dX2_umpireFor_31 rfl ?_
    refine G_goto 36 dX2_umpireFor_32 (by decide) ?_
    exact G_iret dX2_umpireFor_36 rfl rfl rfl ⟨by unfold rd; first | (rw [if_pos (by omega)]) | (rw [if_neg (by omega)]), rfl, rfl⟩
def E48 (z y : VV) : Prop := ∀ k, k ≠ 48 → y k = z k
theorem E48.may {z y : VV} (h : E48 z y) (u s : Int) : mayP y u s ↔ mayP z u s := by
  unfold mayP milesS rowP againP
  rw [h 43 (by decide), h 27 (by decide), h 37 (by decide), h 46 (by decide), h 36 (by decide), h 47 (by decide), h 34 (by decide), h 35 (by decide), h 44 (by decide), h 45 (by decide), h 29 (by decide), h 42 (by decide)]
theorem E48.cost {z y : VV} (h : E48 z y) (u s : Int) : costS y u s = costS z u s := by
  unfold costS milesS
  rw [h 34 (by decide), h 35 (by decide), h 44 (by decide), h 45 (by decide), h 29 (by decide), h 41 (by decide)]
theorem E48.up {z y : VV} (h : E48 z y) (j x : Int) : E48 z (up y 48 j x) := fun k hk => by rw [up_ne hk]; exact h k hk
/-- the Sender's cells are none of the simulation's -/
theorem Simx_sd {nu : Nat} {b : Int} {v w z : VV} (h : Simx nu b v z) (hf : ∀ k, k < 17 ∨ 59 ≤ k → w k = v k) : Simx nu b w z := by
  obtain ⟨hM, hC, hU, hW, hX, hH, hR, hT, hK⟩ := h
  refine ⟨hM, ?_, fun k hk => ?_, fun k hk => ?_, fun g hg => ?_, ⟨?_, fun k hk => ?_, hH.2.2⟩, ?_, ?_, ?_⟩
  · unfold SC; rw [hf 0 (by omega)]; exact hC
  · rw [hf (59 + 3 * k) (by omega)]; exact hU k hk
  · rw [hf (60 + 3 * k) (by omega), hf (61 + 3 * k) (by omega)]; exact hW k hk
  · have h8 : g < 8 := by have := hM.2.1; omega
    rw [hf (8 + g) (by omega)]; exact hX g hg
  · rw [hf 16 (by omega)]; exact hH.1
  · rw [hf (59 + 3 * k) (by omega)]; exact hH.2.1 k hk
  · unfold SR; rw [hf 4 (by omega)]; exact hR
  · unfold ST; rw [hf 3 (by omega), hf 1 (by omega), hf 2 (by omega)]; exact hT
  · unfold SK gvN; rw [hf 0 (by omega)]; exact hK
theorem fr_sd {ks : List Nat} {v w : VV} (hf : fr ks v w) (h : ∀ k ∈ ks, 17 ≤ k ∧ k < 59) : ∀ k, k < 17 ∨ 59 ≤ k → w k = v k := fun k hk => hf k (fun z => by have := h k z; omega)
/-- the prices, as far as they are told -/
def PRs (m n : Nat) (z : VV) (s u : Int) (w : VV) : Prop := BP w ∧ ∀ t x : Int, 0 ≤ t → t < m → 0 ≤ x → x < n → ((t < s ∨ (t = s ∧ x < u)) → (mayP z x t ∧ PV w t x = costS z x t) ∨ (¬ mayP z x t ∧ PV w t x = 10000000)) ∧ (¬ (t < s ∨ (t = s ∧ x < u)) → PV w t x = 10000000)
theorem PRs_no {m n : Nat} {z w : VV} {s u : Int} (h : PRs m n z s u w) (hm : ¬ mayP z u s) : PRs m n z s (u + 1) w := by
  refine ⟨h.1, fun t x t0 t1 x0 x1 => ⟨fun g => ?_, fun g => (h.2 t x t0 t1 x0 x1).2 (by omega)⟩⟩
  by_cases y : t = s ∧ x = u
  · rw [y.1, y.2]
    refine Or.inr ⟨hm, ?_⟩
    have := (h.2 t x t0 t1 x0 x1).2 (by omega)
    rwa [y.1, y.2] at this
  · exact (h.2 t x t0 t1 x0 x1).1 (by omega)
theorem PRs_yes {m n : Nat} {z w : VV} {s u : Int} (h : PRs m n z s u w) (hn : n ≤ 20) (hu : 0 ≤ u ∧ u < n) (hm : mayP z u s) (hc : 0 ≤ costS z u s ∧ costS z u s ≤ 5148) : PRs m n z s (u + 1) (up w 18 (s * 20 + u) (costS z u s)) := by
  have e : ∀ t x : Int, 0 ≤ x → x < n → PV (up w 18 (s * 20 + u) (costS z u s)) t x = if t = s ∧ x = u then costS z u s else PV w t x := fun t x x0 x1 => by
    unfold PV
    rw [up_get]
    by_cases y : t = s ∧ x = u
    · rw [if_pos y, if_pos ⟨rfl, by omega⟩]
    · rw [if_neg y, if_neg (fun q => y (by omega))]
  refine ⟨fun x x0 x1 => ?_, fun t x t0 t1 x0 x1 => ?_⟩
  · rw [up_get]
    split
    · omega
    · exact h.1 x x0 x1
  · rw [e t x x0 x1]
    by_cases y : t = s ∧ x = u
    · rw [if_pos y, y.1, y.2]
      exact ⟨fun _ => Or.inl ⟨hm, rfl⟩, fun g => by omega⟩
    · rw [if_neg y]
      exact ⟨fun g => (h.2 t x t0 t1 x0 x1).1 (by omega), fun g => (h.2 t x t0 t1 x0 x1).2 (by omega)⟩
theorem PRs_row {m n : Nat} {z w : VV} {s : Int} (h : PRs m n z s n w) : PRs m n z (s + 1) 0 w :=
  ⟨h.1, fun t x t0 t1 x0 x1 => ⟨fun g => (h.2 t x t0 t1 x0 x1).1 (by omega), fun g => (h.2 t x t0 t1 x0 x1).2 (by omega)⟩⟩
theorem PRs_PK {m nu : Nat} {z w : VV} {s : Int} (h : PRs m nu z s 0 w) (hs : (m : Int) ≤ s) (hM : MB nu z) (hm : (m : Int) = 2 * z 27 34) : PK m nu (fun s u => mayP z u s) (fun s u => costS z u s) (PV w) := by
  intro t u t0 t1 u0 u1
  rcases (h.2 t u t0 t1 u0 u1).1 (by omega) with g | g
  · have := MB.cost hM (u := u) (s := t) ⟨u0, u1⟩ ⟨t0, by omega⟩
    exact Or.inl ⟨g.1, g.2, this⟩
  · exact Or.inr g
theorem PRs_fr {m n : Nat} {z v w : VV} {s u : Int} (h : PRs m n z s u v) (e : w 18 = v 18) : PRs m n z s u w := by
  unfold PRs BP PV
  rw [e]
  exact h
theorem SB_fr {m n : Nat} {v w : VV} (h : SB m n v) (hf : ∀ k, 17 ≤ k → k < 23 → k ≠ 18 → w k = v k) : SB m n w := by
  unfold SB SD
  rw [hf 17 (by omega) (by omega) (by omega), hf 19 (by omega) (by omega) (by omega), hf 20 (by omega) (by omega) (by omega), hf 21 (by omega) (by omega) (by omega), hf 22 (by omega) (by omega) (by omega)]
  exact h
theorem Lex_congr {E : Int} {m n : Nat} {ok : Int → Int → Prop} {c : Int → Int → Int} {w x : Int → Int} (h : Lex E m n ok c w) (e : ∀ s : Int, 0 ≤ s → s < m → w s = x s) : Lex E m n ok c x := by
  obtain ⟨⟨⟨v1, v2⟩, o⟩, l⟩ := h
  have ec : cE E c x m = cE E c w m := sg_congr m (fun s s0 s1 => by show (if x s = -1 then E else c s (x s)) = (if w s = -1 then E else c s (w s)); rw [e s s0 s1])
  refine ⟨⟨⟨fun s s0 s1 => ?_, fun s t s0 s1 t0 t1 h1 h2 => ?_⟩, fun b hb => ?_⟩, fun s s0 s1 b hb hab hbs => ?_⟩
  · rw [← e s s0 s1]; exact v1 s s0 s1
  · rw [← e s s0 s1, ← e t t0 t1] at h1
    rw [← e s s0 s1] at h2
    exact v2 s t s0 s1 t0 t1 h1 h2
  · rw [ec]; exact o b hb
  · rw [← e s s0 s1]
    exact l s s0 s1 b hb (fun t t0 t1 => by rw [hab t t0 t1, e t t0 (by omega)]) hbs
set_option maxRecDepth 20000 in
set_option maxHeartbeats 1000000 in
theorem c_X5_send (l : Launch) (d nu : Nat) (v : VV) (z : VV) (hS : Sim nu v z) (m : Nat) (hm0 : (m : Int) = 2 * z 27 34) : Ct l yX5_send cX5_send (some .int) 4 (d + 8) 0 0 [ar (some 0)] (SG nu) v (fun r S2 v2 => ∃ x, r = some (ai x) ∧ S2 = SG nu ∧ KM v v2 ∧ ((z 27 36 ≠ 0 ∧ x = -1 ∧ v2 = v) ∨ (z 27 36 = 0 ∧ ∃ y, E48 z y ∧ Lex 100000 m nu (fun s u => mayP z u s) (fun s u => costS z u s) (y 48) ∧ x = filledS y ∧ Sim nu v2 y))) := by
  refine Ct_of_G [some (ar (some 0)), none, none, none] (by decide) rfl rfl ?_
  refine G_fact (fun _ hRV _ _ => ?_)
  have hk9 := sk_zero hS.2.2.2.2.2.2.2.2 (RV_9 hRV)
  have hM : MB nu z := hS.1
  have hmz : (m : Int) = 2 * z 27 34 := hm0
  have hc6z := hS.2.1.1
  have hc7z := hS.2.1.2.1
  have hgz := hM.2.1
  refine G_aload_n dX5_send_0 rfl ?_
  refine G_getI (jj := 9) dX5_send_1 flX5_118 rfl rfl rfl ?_
  refine G_if_eq 9 dX5_send_4 (by decide) (fun h4 => ?_) (fun h4 => ?_)
  · have hz0 : z 27 36 = 0 := hk9.mp h4
    have inner : ∀ (s : Int) (y : VV), 0 ≤ s → s < m → E48 z y → ∀ (N : Nat) (u : Int) (w : VV), 0 ≤ u → u + N = nu → Sim nu w y → KM v w → SB m nu w → PRs m nu z s u w → (∀ w2 : VV, Sim nu w2 y → KM v w2 → SB m nu w2 → PRs m nu z s nu w2 → G l (yX5_send, cX5_send, (some .int), 4, (d + 8), 0, 0, none) (fun r S2 v2 => ∃ x, r = some (ai x) ∧ S2 = SG nu ∧ KM v v2 ∧ ((z 27 36 ≠ 0 ∧ x = -1 ∧ v2 = v) ∨ (z 27 36 = 0 ∧ ∃ y, E48 z y ∧ Lex 100000 m nu (fun s u => mayP z u s) (fun s u => costS z u s) (y 48) ∧ x = filledS y ∧ Sim nu v2 y))) 0 0 (SG nu) 88 [some (ar (some 0)), some (ai (m : Int)), some (ai s), some (ai (nu : Int))] [] w2) → G l (yX5_send, cX5_send, (some .int), 4, (d + 8), 0, 0, none) (fun r S2 v2 => ∃ x, r = some (ai x) ∧ S2 = SG nu ∧ KM v v2 ∧ ((z 27 36 ≠ 0 ∧ x = -1 ∧ v2 = v) ∨ (z 27 36 = 0 ∧ ∃ y, E48 z y ∧ Lex 100000 m nu (fun s u => mayP z u s) (fun s u => costS z u s) (y 48) ∧ x = filledS y ∧ Sim nu v2 y))) 0 0 (SG nu) 42 [some (ar (some 0)), some (ai (m : Int)), some (ai s), some (ai u)] [] w := by
      intro s y s0 s1 hE N
      induction N using Nat.strongRecOn with
      | ind N ih =>
      intro u w h0 h1 hSy hKM hSB hPR K
      have hMy : MB nu y := hSy.1
      have hc6 := hSy.2.1.1
      have hc7 := hSy.2.1.2.1
      have hnn := hMy.1
      have hgy : y 27 34 = z 27 34 := by rw [hE 27 (by decide)]
      have hu0 : w 0 6 = nu ∧ nu ≤ 20 := ⟨hc6, hnn.1⟩
      refine G_iload_n dX5_send_42 rfl ?_
      refine G_aload_n dX5_send_43 rfl ?_
      refine G_getIv ((nu : Int)) (jj := 6) dX5_send_44 flX5_73 rfl rfl rfl hc6 ?_
      refine G_icmp_ge 88 dX5_send_47 (by decide) (fun h47 => ?_) (fun h47 => ?_)
      · obtain rfl : u = nu := by omega
        exact K w hSy hKM hSB hPR
      · have hn : u.toNat < nu := by omega
        have hun : ((u.toNat : Nat) : Int) = u := by omega
        refine G_aload_n dX5_send_50 rfl ?_
        refine G_aload_n dX5_send_51 rfl ?_
        refine G_iload_n dX5_send_52 rfl ?_
        refine G_cVa (ci := 5) dX5_send_53 rfl (by decide) rfl ((by have q := c_X5_umpireAt l (d + 7) nu w hu0 u; rwa [if_pos (show 0 ≤ u ∧ u < nu by omega)] at q)) mcX5_87 rfl rfl (by show _ ≤ d + 8; omega) rfl rfl (Nat.le_refl _) (Nat.le_refl _) ?_
        refine G_iload_n dX5_send_56 rfl ?_
        refine G_cVi (ci := 5) dX5_send_57 rfl (by decide) rfl (c_X5_fits l (d + 4) nu w y hSy u.toNat hn s ⟨s0, by omega⟩) mcX5_110 rfl rfl (by show _ ≤ d + 8; omega) rfl rfl (Nat.le_refl _) (Nat.le_refl _) ?_
        rw [hun]
        refine G_if_eq 82 dX5_send_60 (by decide) (fun h60 => ?_) (fun h60 => ?_)
        · have hno : ¬ mayP z u s := fun q => bP_0.mp h60 ((hE.may u s).mpr q)
          refine G_iinc dX5_send_82 rfl (iRm (by omega) (by omega)) rfl rfl ?_
          refine G_goto 42 dX5_send_85 (by decide) ?_
          exact ih (N - 1) (by omega) (u + 1) w (by omega) (by omega) hSy hKM hSB (PRs_no hPR hno) K
        · have hm9 : mayP z u s := (hE.may u s).mp (bP_1.mp (by rcases bP_01 (mayP y u s) with q | q; exact absurd q h60; exact q))
          have hcst := MB.cost hM (u := u) (s := s) ⟨h0, by omega⟩ ⟨s0, by omega⟩
          refine G_aload_n dX5_send_63 rfl ?_
          refine G_getR (jj := 5) dX5_send_64 flX5_43 rfl rfl rfl ?_
          refine G_iload_n dX5_send_67 rfl ?_
          refine G_iload_n dX5_send_68 rfl ?_
          refine G_aload_n dX5_send_69 rfl ?_
          refine G_aload_n dX5_send_70 rfl ?_
          refine G_iload_n dX5_send_71 rfl ?_
          refine G_cVa (ci := 5) dX5_send_72 rfl (by decide) rfl ((by have q := c_X5_umpireAt l (d + 7) nu w hu0 u; rwa [if_pos (show 0 ≤ u ∧ u < nu by omega)] at q)) mcX5_87 rfl rfl (by show _ ≤ d + 8; omega) rfl rfl (Nat.le_refl _) (Nat.le_refl _) ?_
          refine G_iload_n dX5_send_75 rfl ?_
          refine G_cVi (ci := 5) dX5_send_76 rfl (by decide) rfl (c_X5_price l (d + 4) nu w y hSy u.toNat hn s ⟨s0, by omega⟩) mcX5_114 rfl rfl (by show _ ≤ d + 8; omega) rfl rfl (Nat.le_refl _) (Nat.le_refl _) ?_
          rw [hun, hE.cost]
          refine G_cVv (ci := 2) dX5_send_79 rfl (by decide) rfl (c_X2_allow l (d + 7) nu w m nu hSB.1 s u (costS z u s) ⟨s0, s1⟩ ⟨h0, by omega⟩) mcX5_128 rfl rfl (by show _ ≤ d + 8; omega) rfl rfl (Nat.le_refl _) (Nat.le_refl _) ?_
          refine G_iinc dX5_send_82 rfl (iRm (by omega) (by omega)) rfl rfl ?_
          refine G_goto 42 dX5_send_85 (by decide) ?_
          exact ih (N - 1) (by omega) (u + 1) _ (by omega) (by omega) (Simx_sd hSy (fr_sd (fr_up (ks := [18]) fr_rf (by decide) _ _) (by decide))) (hKM.tr (fun k k1 k2 => by rw [up_ne (by omega)])) (SB_fr hSB (fun k k1 k2 k3 => by rw [up_ne k3])) (PRs_yes hPR hnn.1 ⟨h0, by omega⟩ hm9 hcst) K
    have fill : ∀ (wv : VV) (N : Nat) (s : Int) (y w : VV) (Z3 : Option AV), HF m nu wv → Lex 100000 m nu (fun s u => mayP z u s) (fun s u => costS z u s) (fun s => rd nu (wv 19 s)) → 0 ≤ s → s + N = m → E48 z y → Sim nu w y → KM v w → (∀ k, 17 ≤ k → k < 27 → w k = wv k) → (∀ t : Int, 0 ≤ t → t < s → y 48 t = rd nu (wv 19 t)) → (∀ t : Int, s ≤ t → t < m → y 48 t = -1) → G l (yX5_send, cX5_send, (some .int), 4, (d + 8), 0, 0, none) (fun r S2 v2 => ∃ x, r = some (ai x) ∧ S2 = SG nu ∧ KM v v2 ∧ ((z 27 36 ≠ 0 ∧ x = -1 ∧ v2 = v) ∨ (z 27 36 = 0 ∧ ∃ y, E48 z y ∧ Lex 100000 m nu (fun s u => mayP z u s) (fun s u => costS z u s) (y 48) ∧ x = filledS y ∧ Sim nu v2 y))) 0 0 (SG nu) 103 [some (ar (some 0)), some (ai (m : Int)), some (ai s), Z3] [] w := by
      intro wv N
      induction N using Nat.strongRecOn with
      | ind N ih =>
      intro s y w Z3 hHF hLx h0 h1 hE hSy hKM hsd hy1 hy2
      have hMy : MB nu y := hSy.1
      have hc6 := hSy.2.1.1
      have hc7 := hSy.2.1.2.1
      have hnn := hMy.1
      have hgy : y 27 34 = z 27 34 := by rw [hE 27 (by decide)]
      have hu0 : w 0 6 = nu ∧ nu ≤ 20 := ⟨hc6, hnn.1⟩
      have hHw : SD m nu w := by unfold SD; rw [hsd 17 (by omega) (by omega)]; exact hHF.1
      have e19 : w 19 = wv 19 := hsd 19 (by omega) (by omega)
      refine G_iload_n dX5_send_103 rfl ?_
      refine G_iload_n dX5_send_104 rfl ?_
      refine G_icmp_ge 127 dX5_send_105 (by decide) (fun h105 => ?_) (fun h105 => ?_)
      · refine G_aload_n dX5_send_127 rfl ?_
        refine G_cVi (ci := 5) dX5_send_128 rfl (by decide) rfl (c_X5_filledSeats l (d + 4) nu w y hSy) mcX5_141 rfl rfl (by show _ ≤ d + 8; omega) rfl rfl (Nat.le_refl _) (Nat.le_refl _) ?_
        exact G_iret dX5_send_131 rfl rfl rfl ⟨_, rfl, rfl, hKM, Or.inr ⟨hz0, y, hE, Lex_congr hLx (fun t t0 t1 => (hy1 t t0 (by omega)).symm), rfl, hSy⟩⟩
      · have hcs := (hHF.2.2.1 s h0 (by omega)).1
        refine G_aload_n dX5_send_108 rfl ?_
        refine G_iload_n dX5_send_109 rfl ?_
        refine G_aload_n dX5_send_110 rfl ?_
        refine G_getR (jj := 5) dX5_send_111 flX5_43 rfl rfl rfl ?_
        refine G_iload_n dX5_send_114 rfl ?_
        refine G_cVi (ci := 2) dX5_send_115 rfl (by decide) rfl (c_X2_umpireFor l (d + 7) nu w m nu hHw s ⟨h0, by omega⟩ (by rw [e19]; exact hcs.1)) mcX5_135 rfl rfl (by show _ ≤ d + 8; omega) rfl rfl (Nat.le_refl _) (Nat.le_refl _) ?_
        rw [e19]
        refine G_cVq (ci := 5) dX5_send_118 rfl (by decide) rfl (c_X5_fillSeat l (d + 6) nu w (y 27 35) y hSy s (rd nu (wv 19 s)) ⟨h0, by omega⟩ (hy2 s (by omega) (by omega)) (by
              by_cases g : rd nu (wv 19 s) = -1
              · exact Or.inl g
              · have hv := hLx.1.1
                have hr : (0 ≤ rd nu (wv 19 s) ∧ rd nu (wv 19 s) < nu) := by
                  rcases hv.1 s h0 (by omega) with q | q
                  · exact absurd q g
                  · exact q.1
                refine Or.inr ⟨hr, seat_no hMy.2.1.1 (fun t t0 t1 => ?_)⟩
                by_cases q : t < s
                · rw [hy1 t t0 q]
                  intro e
                  have := hv.2 t s t0 (by omega) h0 (by omega) e (fun q9 => g (e.symm.trans q9))
                  omega
                · rw [hy2 t (by omega) (by omega)]; omega)) mcX5_138 rfl rfl (by show _ ≤ d + 8; omega) rfl rfl (Nat.le_refl _) (Nat.le_refl _) (fun r S2 w2 hq9 => ?_)
        obtain ⟨rfl, rfl, hS2, hk2⟩ := hq9
        refine G_iinc dX5_send_121 rfl (iRm (by omega) (by omega)) rfl rfl ?_
        refine G_goto 103 dX5_send_124 (by decide) ?_
        refine ih (N - 1) (by omega) (s + 1) (up y 48 s (rd nu (wv 19 s))) w2 _ hHF hLx (by omega) (by omega) (hE.up _ _) hS2 (hKM.tr (fun k k1 k2 => hk2 k k2 (by omega))) (fun k k1 k2 => (hk2 k (by omega) (by omega)).trans (hsd k k1 k2)) (fun t t0 t1 => ?_) (fun t t0 t1 => ?_)
        · by_cases q : t = s
          · rw [q, up_self]
          · rw [up_nj q]; exact hy1 t t0 (by omega)
        · rw [up_nj (by omega)]; exact hy2 t (by omega) t1
    have outer : ∀ (N : Nat) (s : Int) (y w : VV) (Z3 : Option AV), 0 ≤ s → s + N = m → E48 z y → Sim nu w y → KM v w → SB m nu w → PRs m nu z s 0 w → (∀ t : Int, 0 ≤ t → t < s → y 48 t = -1) → G l (yX5_send, cX5_send, (some .int), 4, (d + 8), 0, 0, none) (fun r S2 v2 => ∃ x, r = some (ai x) ∧ S2 = SG nu ∧ KM v v2 ∧ ((z 27 36 ≠ 0 ∧ x = -1 ∧ v2 = v) ∨ (z 27 36 = 0 ∧ ∃ y, E48 z y ∧ Lex 100000 m nu (fun s u => mayP z u s) (fun s u => costS z u s) (y 48) ∧ x = filledS y ∧ Sim nu v2 y))) 0 0 (SG nu) 30 [some (ar (some 0)), some (ai (m : Int)), some (ai s), Z3] [] w := by
      intro N
      induction N using Nat.strongRecOn with
      | ind N ih =>
      intro s y w Z3 h0 h1 hE hSy hKM hSB hPR hy
      have hMy : MB nu y := hSy.1
      have hc6 := hSy.2.1.1
      have hc7 := hSy.2.1.2.1
      have hnn := hMy.1
      have hgy : y 27 34 = z 27 34 := by rw [hE 27 (by decide)]
      have hu0 : w 0 6 = nu ∧ nu ≤ 20 := ⟨hc6, hnn.1⟩
      refine G_iload_n dX5_send_30 rfl ?_
      refine G_iload_n dX5_send_31 rfl ?_
      refine G_icmp_ge 94 dX5_send_32 (by decide) (fun h32 => ?_) (fun h32 => ?_)
      · refine G_aload_n dX5_send_94 rfl ?_
        refine G_getR (jj := 5) dX5_send_95 flX5_43 rfl rfl rfl ?_
        refine G_cVq (ci := 2) dX5_send_98 rfl (by decide) rfl (c_X2_settle l (d + 3) nu w m nu (SB_HI hSB hPR.1)) mcX5_132 rfl rfl (by show _ ≤ d + 8; omega) rfl rfl (Nat.le_refl _) (Nat.le_refl _) (fun r S2 w2 hq9 => ?_)
        obtain ⟨rfl, rfl, hf9, hHF, hFs⟩ := hq9
        have hLx := settle_lex hHF hFs (ok := fun s u => mayP z u s) (c := fun s u => costS z u s) (by rw [PV_fr hf9 (by decide)]; exact PRs_PK hPR (by omega) hM hmz)
        refine G_iconst (n := 0) dX5_send_101 ⟨by decide, by decide⟩ ?_
        refine G_istore_n dX5_send_102 rfl rfl ?_
        exact fill w2 m 0 y w2 _ hHF hLx (by omega) (by omega) hE (Simx_sd hSy (fr_sd hf9 (by decide))) (hKM.tr (fun k k1 k2 => hf9 k (by intro z9; revert z9; simp; omega))) (fun _ _ _ => rfl) (fun t t0 t1 => by omega) (fun t t0 t1 => hy t (by omega) (by omega))
      · refine G_aload_n dX5_send_35 rfl ?_
        refine G_iload_n dX5_send_36 rfl ?_
        refine G_cVq (ci := 5) dX5_send_37 rfl (by decide) rfl (c_X5_clearSeat l (d + 5) nu w (y 27 35) y hSy s ⟨h0, by omega⟩) mcX5_125 rfl rfl (by show _ ≤ d + 8; omega) rfl rfl (Nat.le_refl _) (Nat.le_refl _) (fun r S2 w2 hq9 => ?_)
        obtain ⟨rfl, rfl, hS2, hk2⟩ := hq9
        refine G_iconst (n := 0) dX5_send_40 ⟨by decide, by decide⟩ ?_
        refine G_istore_n dX5_send_41 rfl rfl ?_
        refine inner s (up y 48 s (-1)) h0 (by omega) (hE.up _ _) nu 0 w2 (by omega) (by omega) hS2 (hKM.tr (fun k k1 k2 => hk2 k k2 (by omega))) (SB_fr hSB (fun k k1 k2 k3 => hk2 k (by omega) (by omega))) (PRs_fr hPR (hk2 18 (by omega) (by omega))) (fun w3 hS3 hK3 hB3 hP3 => ?_)
        refine G_iinc dX5_send_88 rfl (iRm (by omega) (by omega)) rfl rfl ?_
        refine G_goto 30 dX5_send_91 (by decide) ?_
        exact ih (N - 1) (by omega) (s + 1) (up y 48 s (-1)) w3 _ (by omega) (by omega) (hE.up _ _) hS3 hK3 hB3 (PRs_row hP3) (fun t t0 t1 => by
          by_cases q : t = s
          · rw [q, up_self]
          · rw [up_nj q]; exact hy t t0 (by omega))
    refine G_iconst (n := 2) dX5_send_9 ⟨by decide, by decide⟩ ?_
    refine G_aload_n dX5_send_10 rfl ?_
    refine G_getIv (z 27 34) (jj := 7) dX5_send_11 flX5_101 rfl rfl rfl hc7z ?_
    refine G_imul dX5_send_14 (iRm (by omega) (by omega)) ?_
    rw [← hmz]
    refine G_istore_n dX5_send_15 rfl rfl ?_
    refine G_aload_n dX5_send_16 rfl ?_
    refine G_getR (jj := 5) dX5_send_17 flX5_43 rfl rfl rfl ?_
    refine G_iload_n dX5_send_20 rfl ?_
    refine G_aload_n dX5_send_21 rfl ?_
    refine G_getIv ((nu : Int)) (jj := 6) dX5_send_22 flX5_73 rfl rfl rfl hc6z ?_
    refine G_cVq (ci := 2) dX5_send_25 rfl (by decide) rfl (c_X2_begin l (d + 6) nu v m nu (by omega) hM.1.1) mcX5_121 rfl rfl (by show _ ≤ d + 8; omega) rfl rfl (Nat.le_refl _) (Nat.le_refl _) (fun r S2 w hq9 => ?_)
    obtain ⟨rfl, rfl, hf9, hSB, hpr⟩ := hq9
    refine G_iconst (n := 0) dX5_send_28 ⟨by decide, by decide⟩ ?_
    refine G_istore_n dX5_send_29 rfl rfl ?_
    exact outer m 0 z w _ (by omega) (by omega) (fun _ _ => rfl) (Simx_sd hS (fr_sd hf9 (by decide))) (fun k k1 k2 => hf9 k (by intro z9; revert z9; simp; omega)) hSB ⟨fun x x0 x1 => by rw [hpr x x0 x1]; omega, fun t x t0 t1 x0 x1 => ⟨fun g => by omega, fun g => hpr _ (by omega) (by have := hM.1.1; omega)⟩⟩ (fun t t0 t1 => by omega)
  · refine G_iconst (n := (-1)) dX5_send_7 ⟨by decide, by decide⟩ ?_
    exact G_iret dX5_send_8 rfl rfl rfl ⟨_, rfl, rfl, KM.rf, Or.inl ⟨fun q => h4 (hk9.mpr q), rfl, rfl⟩⟩
