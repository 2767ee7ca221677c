def FST (m n : Nat) (v : VV) (k x : Int) : Prop := ∀ (ok : Int → Int → Prop) (c : Int → Int → Int), PK m n ok c (PV v) → ∀ b, Opt 100000 m n ok c b → (∀ t : Int, 0 ≤ t → t < k → b t = rd n (v 19 t)) → b k ≠ -1 → x ≤ b k
theorem opt_at {m n : Nat} {ok : Int → Int → Prop} {c : Int → Int → Int} {b : Int → Int} (hb : Opt 100000 m n ok c b) {k : Int} (k0 : 0 ≤ k) (k1 : k < m) (h : b k ≠ -1) : 0 ≤ b k ∧ b k < n := by
  rcases hb.1.1 k k0 k1 with z | z
  · exact absurd z h
  · exact z.1
theorem FST_none {m n : Nat} {v : VV} (h : HF m n v) {k : Int} (k0 : 0 ≤ k) (k1 : k < m) {x : Int} (hx : ∀ c : Int, 0 ≤ c → c < x → ¬ ((v 26 c ≠ 0 ∨ (0 : Int) = 0) ∧ gv m n v k c = 0)) : FST m n v k x := by
  intro ok c hP b hb hab hk
  have hr := opt_at hb k0 k1 hk
  have q := (FM_first h.1.2.2.2.1 hP (HF_FM h) k0 k1 hb hab hk).1
  apply Classical.byContradiction
  intro g
  exact hx (b k) hr.1 (by omega) ⟨Or.inr rfl, gv_t.mpr q⟩
theorem FST_some {m n : Nat} {v u : VV} (h : HF m n v) {k : Int} (k0 : 0 ≤ k) (k1 : k < m) (hq : QP m n v k (v 19 k) u) {x : Int} (hxo : x ≤ v 19 k) (hx : ∀ c : Int, 0 ≤ c → c < x → ¬ ((u 26 c ≠ 0 ∨ (1 : Int) = 0) ∧ gv m n u k c = 0)) : FST m n v k x := by
  intro ok c hP b hb hab hk
  have hr := opt_at hb k0 k1 hk
  obtain ⟨q, rho, hQ, hcl⟩ := hq
  obtain ⟨q1, q2⟩ := FM_first h.1.2.2.2.1 hP (HF_FM h) k0 k1 hb hab hk
  have hseen := q2 (u 26) hQ.2.2.1.1 (fun i i0 i1 e => by
    have hi := h.2.2.1 i i0 (by omega)
    have hne : v 19 i ≠ v 19 k := fun e2 => by
      have := (h.2.2.1 k k0 (by omega)).2.1
      rw [← e2, hi.2.1] at this
      omega
    have := (hQ.2.2.2.2.2.2 (v 19 i) hi.1.1 hi.1.2 e hne).1
    rw [hi.2.1] at this
    omega) (fun i y i0 i1 y0 y1 hy hg => hcl i y i0 i1 y0 y1 hy (gv_t.mpr hg))
  apply Classical.byContradiction
  intro g
  refine hx (b k) hr.1 (by omega) ⟨Or.inl (by omega), ?_⟩
  rw [gv_fr hQ.1 (by decide) (by decide) (by decide)]
  exact gv_t.mpr q1
/-- the rows on the way take the next columns; row has none, column o nobody's -/
def RI (m n : Nat) (u : VV) (k o x : Int) (rho : Int → Nat) (row col : Int) (w : VV) : Prop :=
  fr [19, 20] u w ∧ (k ≤ row ∧ row < ((m + n : Nat) : Int)) ∧ (0 ≤ col ∧ col < ((m + n : Nat) : Int)) ∧ gv m n u row col = 0 ∧ u 26 col = 1 ∧
  (∀ i : Int, 0 ≤ i → i < ((m + n : Nat) : Int) → i ≠ row → (0 ≤ w 19 i ∧ w 19 i < ((m + n : Nat) : Int)) ∧ w 20 (w 19 i) = i ∧ w 19 i ≠ o ∧ gv m n u i (w 19 i) = 0) ∧
  (∀ c : Int, 0 ≤ c → c < ((m + n : Nat) : Int) → c ≠ o → (0 ≤ w 20 c ∧ w 20 c < ((m + n : Nat) : Int)) ∧ w 20 c ≠ row ∧ w 19 (w 20 c) = c) ∧
  (∀ c : Int, 0 ≤ c → c < ((m + n : Nat) : Int) → rho c ≤ rho col → w 20 c = u 20 c) ∧ (∀ i : Int, 0 ≤ i → i < k → w 19 i = u 19 i) ∧ ((row = k ∧ col = x) ∨ (row ≠ k ∧ w 19 k = x))
def RLk (m n : Nat) (u : VV) (k o : Int) (rho : Int → Nat) : Prop := ∀ c : Int, 0 ≤ c → c < ((m + n : Nat) : Int) → u 26 c = 1 → c ≠ o → k < u 20 c ∧ (0 ≤ u 24 c ∧ u 24 c < ((m + n : Nat) : Int)) ∧ u 26 (u 24 c) = 1 ∧ rho (u 24 c) < rho c ∧ gv m n u (u 20 c) (u 24 c) = 0
theorem RI_step {m n : Nat} {u w : VV} {k o x row col : Int} {rho : Int → Nat} (hL : RLk m n u k o rho) (k0 : 0 ≤ k) (k1 : k < ((m + n : Nat) : Int)) (h : RI m n u k o x rho row col w) (hc : col ≠ o) : RI m n u k o x rho (u 20 col) (u 24 col) (up (up w 19 row col) 20 col row) := by
  obtain ⟨h1, h2, h3, h4, h5, h6, h7, h8, h9, h10⟩ := h
  obtain ⟨l1, l2, l3, l4, l5⟩ := hL col h3.1 h3.2 h5 hc
  have e20 := h8 col h3.1 h3.2 (Nat.le_refl _)
  have q7 := h7 col h3.1 h3.2 hc
  rw [e20] at q7
  refine ⟨fr_up (fr_up h1 (by decide) _ _) (by decide) _ _, ⟨by omega, q7.1.2⟩, l2, l5, l3, fun i i0 i1 hi => ?_, fun c c0 c1 hco => ?_, fun c c0 c1 hr => ?_, fun i i0 i1 => ?_, Or.inr ⟨by omega, ?_⟩⟩
  · rw [up_c (show 19 ≠ 20 by decide)]
    by_cases y : i = row
    · rw [y, up_self, up_self]; exact ⟨h3, rfl, hc, h4⟩
    · rw [up_nj y]
      have q := h6 i i0 i1 y
      have : w 19 i ≠ col := fun e => by
        have e2 := q.2.1
        rw [e, e20] at e2
        exact hi e2.symm
      rw [up_nj this, up_c (show 20 ≠ 19 by decide)]
      exact q
  · rw [up_c (show 19 ≠ 20 by decide)]
    by_cases y : c = col
    · rw [y, up_self, up_self]; exact ⟨by omega, fun e => q7.2.1 e.symm, rfl⟩
    · rw [up_nj y, up_c (show 20 ≠ 19 by decide)]
      have q := h7 c c0 c1 hco
      rw [up_nj q.2.1]
      refine ⟨q.1, fun e => ?_, q.2.2⟩
      have e2 := q.2.2
      rw [e, q7.2.2] at e2
      exact y e2.symm
  · have : c ≠ col := fun e => by rw [e] at hr; omega
    rw [up_nj this, up_c (show 20 ≠ 19 by decide)]
    exact h8 c c0 c1 (by omega)
  · rw [up_c (show 19 ≠ 20 by decide), up_nj (show i ≠ row by omega)]
    exact h9 i i0 i1
  · rw [up_c (show 19 ≠ 20 by decide)]
    rcases h10 with z | z
    · rw [z.1, up_self]; exact z.2
    · rw [up_nj (fun e => z.1 e.symm)]; exact z.2
def RP (m n : Nat) (u : VV) (k x : Int) (w : VV) : Prop := fr [19, 20] u w ∧ (∀ i : Int, 0 ≤ i → i < ((m + n : Nat) : Int) → (0 ≤ w 19 i ∧ w 19 i < ((m + n : Nat) : Int)) ∧ w 20 (w 19 i) = i ∧ gv m n u i (w 19 i) = 0) ∧ (∀ c : Int, 0 ≤ c → c < ((m + n : Nat) : Int) → (0 ≤ w 20 c ∧ w 20 c < ((m + n : Nat) : Int)) ∧ w 19 (w 20 c) = c) ∧ (∀ i : Int, 0 ≤ i → i < k → w 19 i = u 19 i) ∧ w 19 k = x
theorem RI_end {m n : Nat} {u w : VV} {k o x row : Int} {rho : Int → Nat} (k0 : 0 ≤ k) (k1 : k < ((m + n : Nat) : Int)) (h : RI m n u k o x rho row o w) : RP m n u k x (up (up w 19 row o) 20 o row) := by
  obtain ⟨h1, h2, h3, h4, h5, h6, h7, h8, h9, h10⟩ := h
  refine ⟨fr_up (fr_up h1 (by decide) _ _) (by decide) _ _, fun i i0 i1 => ?_, fun c c0 c1 => ?_, fun i i0 i1 => ?_, ?_⟩
  · rw [up_c (show 19 ≠ 20 by decide)]
    by_cases y : i = row
    · rw [y, up_self, up_self]; exact ⟨h3, rfl, h4⟩
    · rw [up_nj y]
      have q := h6 i i0 i1 y
      rw [up_nj q.2.2.1, up_c (show 20 ≠ 19 by decide)]
      exact ⟨q.1, q.2.1, q.2.2.2⟩
  · rw [up_c (show 19 ≠ 20 by decide)]
    by_cases y : c = o
    · rw [y, up_self, up_self]; exact ⟨by omega, rfl⟩
    · rw [up_nj y, up_c (show 20 ≠ 19 by decide)]
      have q := h7 c c0 c1 y
      rw [up_nj q.2.1]
      exact ⟨q.1, q.2.2⟩
  · rw [up_c (show 19 ≠ 20 by decide), up_nj (show i ≠ row by omega)]
    exact h9 i i0 i1
  · rw [up_c (show 19 ≠ 20 by decide)]
    rcases h10 with z | z
    · rw [z.1, up_self]; exact z.2
    · rw [up_nj (fun e => z.1 e.symm)]; exact z.2
theorem RI_0 {m n : Nat} {v u : VV} {k x : Int} {q : Nat} {rho : Int → Nat} (h : HF m n v) (k0 : 0 ≤ k) (k1 : k < ((m + n : Nat) : Int)) (hQ : QI m n v k (v 19 k) q rho u) (x0 : 0 ≤ x) (hx : x = v 19 k ∨ ((u 26 x ≠ 0 ∨ (1 : Int) = 0) ∧ gv m n u k x = 0)) (hxo : x ≤ v 19 k) : RI m n u k (v 19 k) x rho k x u ∧ RLk m n u k (v 19 k) rho := by
  have e19 := hQ.1 19 (by decide)
  have e20 := hQ.1 20 (by decide)
  have egv : ∀ i c, gv m n u i c = gv m n v i c := gv_fr hQ.1 (by decide) (by decide) (by decide)
  have hk := h.2.2.1 k k0 k1
  refine ⟨⟨fr_rf, by omega, by omega, ?_, ?_, fun i i0 i1 hi => ?_, fun c c0 c1 hc => ?_, fun _ _ _ _ => rfl, fun _ _ _ => rfl, Or.inl ⟨rfl, rfl⟩⟩, fun c c0 c1 hc hne => ?_⟩
  · rcases hx with z | z
    · rw [z, egv]; exact hk.2.2
    · exact z.2
  · rcases hx with z | z
    · rw [z]; exact hQ.2.2.1.1
    · rcases hQ.2.2.2.1 x x0 (by omega) with y | y
      · omega
      · exact y
  · rw [e19, e20, egv]
    have q := h.2.2.1 i i0 i1
    refine ⟨q.1, q.2.1, fun e => ?_, q.2.2⟩
    have e2 := q.2.1
    rw [e, hk.2.1] at e2
    exact hi e2.symm
  · rw [e19, e20]
    have q := h.2.2.2.1 c c0 c1
    refine ⟨q.1, fun e => ?_, q.2⟩
    have e2 := q.2
    rw [e] at e2
    exact hc e2.symm
  · rw [e20, egv]
    exact hQ.2.2.2.2.2.2 c c0 c1 hc hne
theorem HF_RP {m n : Nat} {v u w : VV} {k x : Int} (h : HF m n v) (hf : fr [23, 24, 25, 26] v u) (hR : RP m n u k x w) : HF m n w := by
  obtain ⟨r1, r2, r3, -, -⟩ := hR
  have hf2 : fr [19, 20, 23, 24, 25, 26] v w := fr_tr hf (fr_sub r1 (by decide)) (by decide)
  have egv : ∀ i c, gv m n w i c = gv m n v i c := gv_fr hf2 (by decide) (by decide) (by decide)
  have egu : ∀ i c, gv m n u i c = gv m n v i c := gv_fr hf (by decide) (by decide) (by decide)
  refine ⟨h.1.fr hf2 (by decide), h.2.1.fr hf2 (by decide) (by decide) (by decide), fun i i0 i1 => ?_, r3, fun i c i0 i1 c0 c1 => ?_, fun c c0 c1 => ?_⟩
  · rw [egv]
    have := r2 i i0 i1
    rw [egu] at this
    exact this
  · rw [egv]; exact h.2.2.2.2.1 i c i0 i1 c0 c1
  · rw [hf2 22 (by decide)]; exact h.2.2.2.2.2 c c0 c1
set_option maxRecDepth 20000 in
set_option maxHeartbeats 1000000 in
theorem c_X2_takeFirst (l : Launch) (d nu : Nat) (v : VV) (m n : Nat) (k : Int) (hk : 0 ≤ k ∧ k < m) (hH : HF m n v) : Ct l yX2_takeFirst cX2_takeFirst none 8 (d + 2) 0 0 [ar (some 17), ai k] (SG nu) v (fun r S2 w => r = none ∧ S2 = SG nu ∧ fr [19, 20, 23, 24, 25, 26] v w ∧ HF m n w ∧ (∀ i : Int, 0 ≤ i → i < k → w 19 i = v 19 i) ∧ FST m n v k (w 19 k)) := by
  refine Ct_of_G [some (ar (some 17)), some (ai k), none, none, none, none, none, none] (by decide) rfl rfl ?_
  have hD := hH.1
  have hB := hH.2.1
  obtain ⟨d9, d10, d11, hm, hn⟩ := id hD
  have hkk := hH.2.2.1 k hk.1 (by omega)
  have fin : ∀ (u w : VV) (x row p : Int) (Z6 Z7 : Option AV), fr [23, 24, 25, 26] v u → FST m n v k x → RP m n u k x w → G l (yX2_takeFirst, cX2_takeFirst, none, 8, (d + 2), 0, 0, none) (fun r S2 w => r = none ∧ S2 = SG nu ∧ fr [19, 20, 23, 24, 25, 26] v w ∧ HF m n w ∧ (∀ i : Int, 0 ≤ i → i < k → w 19 i = v 19 i) ∧ FST m n v k (w 19 k)) 0 0 (SG nu) 44 [some (ar (some 17)), some (ai k), some (ai (v 19 k)), some (ai row), some (ai (-1)), some (ai p), Z6, Z7] [] w := by
    intro u w x row p Z6 Z7 hfu hF hP
    have d11w : w 17 11 = ((m + n : Nat) : Int) := by rw [hP.1 17 (by decide), hfu 17 (by decide)]; exact d11
    refine G_iload dX2_takeFirst_44 rfl ?_
    refine G_aload_n dX2_takeFirst_46 rfl ?_
    refine G_getIv (((m + n : Nat) : Int)) (jj := 11) dX2_takeFirst_47 flX2_56 rfl rfl rfl d11w ?_
    refine G_icmp_ge 102 dX2_takeFirst_50 (by decide) (fun h50 => ?_) (fun h50 => ?_)
    · exact G_vret dX2_takeFirst_102 rfl rfl rfl ⟨rfl, rfl, fr_tr hfu (fr_sub hP.1 (by decide)) (by decide), HF_RP hH hfu hP, fun i i0 i1 => (hP.2.2.2.1 i i0 i1).trans (by rw [hfu 19 (by decide)]), by rw [hP.2.2.2.2]; exact hF⟩
    · refine G_iload dX2_takeFirst_53 rfl ?_
      refine G_iconst (n := (-1)) dX2_takeFirst_55 ⟨by decide, by decide⟩ ?_
      refine G_icmp_eq 102 dX2_takeFirst_56 (by decide) (fun h56 => ?_) (fun h56 => absurd rfl h56)
      exact G_vret dX2_takeFirst_102 rfl rfl rfl ⟨rfl, rfl, fr_tr hfu (fr_sub hP.1 (by decide)) (by decide), HF_RP hH hfu hP, fun i i0 i1 => (hP.2.2.2.1 i i0 i1).trans (by rw [hfu 19 (by decide)]), by rw [hP.2.2.2.2]; exact hF⟩
  have loop : ∀ (u : VV) (x : Int) (rho : Int → Nat), fr [23, 24, 25, 26] v u → u 24 (v 19 k) = -1 → FST m n v k x → RLk m n u k (v 19 k) rho → ∀ (N : Nat) (row col p : Int) (Z6 Z7 : Option AV) (w : VV), RI m n u k (v 19 k) x rho row col w → 0 ≤ p → p + rho col < ((m + n : Nat) : Int) → rho col < N → G l (yX2_takeFirst, cX2_takeFirst, none, 8, (d + 2), 0, 0, none) (fun r S2 w => r = none ∧ S2 = SG nu ∧ fr [19, 20, 23, 24, 25, 26] v w ∧ HF m n w ∧ (∀ i : Int, 0 ≤ i → i < k → w 19 i = v 19 i) ∧ FST m n v k (w 19 k)) 0 0 (SG nu) 44 [some (ar (some 17)), some (ai k), some (ai (v 19 k)), some (ai row), some (ai col), some (ai p), Z6, Z7] [] w := by
    intro u x rho hfu hlo hF hL N
    induction N using Nat.strongRecOn with
    | ind N ih =>
    intro row col p Z6 Z7 w hI h0 h1 hN
    have hf := hI.1
    have d11w : w 17 11 = ((m + n : Nat) : Int) := by rw [hf 17 (by decide), hfu 17 (by decide)]; exact d11
    have hcr := hI.2.2.1
    have hrr := hI.2.1
    have e20 := hI.2.2.2.2.2.2.2.1 col hcr.1 hcr.2 (Nat.le_refl _)
    have e24 : w 24 col = u 24 col := by rw [hf 24 (by decide)]
    have hDw : SD m n w := (hD.fr hfu (by decide)).fr hf (by decide)
    refine G_iload dX2_takeFirst_44 rfl ?_
    refine G_aload_n dX2_takeFirst_46 rfl ?_
    refine G_getIv (((m + n : Nat) : Int)) (jj := 11) dX2_takeFirst_47 flX2_56 rfl rfl rfl d11w ?_
    refine G_icmp_ge 102 dX2_takeFirst_50 (by decide) (fun h50 => by omega) (fun h50 => ?_)
    refine G_iload dX2_takeFirst_53 rfl ?_
    refine G_iconst (n := (-1)) dX2_takeFirst_55 ⟨by decide, by decide⟩ ?_
    refine G_icmp_eq 102 dX2_takeFirst_56 (by decide) (fun h56 => by omega) (fun h56 => ?_)
    refine G_iload_n dX2_takeFirst_59 rfl ?_
    refine G_iconst (n := (-1)) dX2_takeFirst_60 ⟨by decide, by decide⟩ ?_
    refine G_icmp_eq 102 dX2_takeFirst_61 (by decide) (fun h61 => by omega) (fun h61 => ?_)
    refine G_aload_n dX2_takeFirst_64 rfl ?_
    refine G_getR (jj := 2) dX2_takeFirst_65 flX2_18 rfl rfl rfl ?_
    refine G_iload dX2_takeFirst_68 rfl ?_
    refine G_ialdv (u 20 col) dX2_takeFirst_70 rfl (by omega) (by omega) e20 ?_
    refine G_istore dX2_takeFirst_71 rfl rfl ?_
    refine G_aload_n dX2_takeFirst_73 rfl ?_
    refine G_getR (jj := 6) dX2_takeFirst_74 flX2_30 rfl rfl rfl ?_
    refine G_iload dX2_takeFirst_77 rfl ?_
    refine G_ialdv (u 24 col) dX2_takeFirst_79 rfl (by omega) (by omega) e24 ?_
    refine G_istore dX2_takeFirst_80 rfl rfl ?_
    refine G_aload_n dX2_takeFirst_82 rfl ?_
    refine G_iload_n dX2_takeFirst_83 rfl ?_
    refine G_iload dX2_takeFirst_84 rfl ?_
    refine G_cVv (ci := 2) dX2_takeFirst_86 rfl (by decide) rfl (c_X2_pair l (d + 1) nu w m n hDw row col ⟨by omega, hrr.2⟩ hcr) mcX2_60 rfl rfl (by show _ ≤ d + 2; omega) rfl rfl (Nat.le_refl _) (Nat.le_refl _) ?_
    by_cases hcol : col = v 19 k
    · refine G_iload dX2_takeFirst_89 rfl ?_
      refine G_istore_n dX2_takeFirst_91 rfl rfl ?_
      refine G_iload dX2_takeFirst_92 rfl ?_
      refine G_istore dX2_takeFirst_94 rfl rfl ?_
      refine G_iinc dX2_takeFirst_96 rfl (iRm (by omega) (by omega)) rfl rfl ?_
      refine G_goto 44 dX2_takeFirst_99 (by decide) ?_
      rw [hcol] at hI ⊢
      rw [hlo]
      exact fin u _ x _ (p + 1) _ _ hfu hF (RI_end hk.1 (by omega) hI)
    · obtain ⟨l1, l2, l3, l4, l5⟩ := hL col hcr.1 hcr.2 hI.2.2.2.2.1 hcol
      refine G_iload dX2_takeFirst_89 rfl ?_
      refine G_istore_n dX2_takeFirst_91 rfl rfl ?_
      refine G_iload dX2_takeFirst_92 rfl ?_
      refine G_istore dX2_takeFirst_94 rfl rfl ?_
      refine G_iinc dX2_takeFirst_96 rfl (iRm (by omega) (by omega)) rfl rfl ?_
      refine G_goto 44 dX2_takeFirst_99 (by decide) ?_
      exact ih (rho col) (by omega) (u 20 col) (u 24 col) (p + 1) _ _ _ (RI_step hL hk.1 (by omega) hI hcol) (by omega) (by omega) (by omega)
  refine G_aload_n dX2_takeFirst_0 rfl ?_
  refine G_getR (jj := 1) dX2_takeFirst_1 flX2_15 rfl rfl rfl ?_
  refine G_iload_n dX2_takeFirst_4 rfl ?_
  refine G_iald dX2_takeFirst_5 rfl (by omega) (by omega) ?_
  refine G_istore_n dX2_takeFirst_6 rfl rfl ?_
  refine G_iload_n dX2_takeFirst_7 rfl ?_
  refine G_iconst (n := (-1)) dX2_takeFirst_8 ⟨by decide, by decide⟩ ?_
  refine G_icmp_eq 23 dX2_takeFirst_9 (by decide) (fun h9 => by omega) (fun h9 => ?_)
  refine G_aload_n dX2_takeFirst_12 rfl ?_
  refine G_iload_n dX2_takeFirst_13 rfl ?_
  refine G_iload_n dX2_takeFirst_14 rfl ?_
  refine G_iconst (n := 0) dX2_takeFirst_15 ⟨by decide, by decide⟩ ?_
  refine G_cVq (ci := 2) dX2_takeFirst_16 rfl (by decide) rfl (c_X2_firstTight l (d + 0) nu v m n hD hB k (v 19 k) 0 ⟨hk.1, by omega⟩ ⟨by omega, by omega⟩) mcX2_92 rfl rfl (by show _ ≤ d + 2; omega) rfl rfl (Nat.le_refl _) (Nat.le_refl _) (fun r S2 w hq9 => ?_)
  obtain ⟨x9, rfl, hx9, rfl, rfl⟩ := hq9
  refine G_iload_n dX2_takeFirst_19 rfl ?_
  refine G_icmp_ne 24 dX2_takeFirst_20 (by decide) (fun h20 => ?_) (fun h20 => ?_)
  · refine G_aload_n dX2_takeFirst_24 rfl ?_
    refine G_iload_n dX2_takeFirst_25 rfl ?_
    refine G_iload_n dX2_takeFirst_26 rfl ?_
    refine G_cVq (ci := 2) dX2_takeFirst_27 rfl (by decide) rfl (c_X2_findMovable l (d + 0) nu w m n hD hB k (w 19 k) ⟨hk.1, by omega⟩ hkk.1 hH.2.2.1) mcX2_96 rfl rfl (by show _ ≤ d + 2; omega) rfl rfl (Nat.le_refl _) (Nat.le_refl _) (fun r S2 u hq9 => ?_)
    obtain ⟨rfl, rfl, hQP⟩ := hq9
    obtain ⟨q, rho, hQ, hcl⟩ := id hQP
    have hfu := hQ.1
    refine G_iload_n dX2_takeFirst_30 rfl ?_
    refine G_istore_n dX2_takeFirst_31 rfl rfl ?_
    refine G_aload_n dX2_takeFirst_32 rfl ?_
    refine G_iload_n dX2_takeFirst_33 rfl ?_
    refine G_iload_n dX2_takeFirst_34 rfl ?_
    refine G_iconst (n := 1) dX2_takeFirst_35 ⟨by decide, by decide⟩ ?_
    refine G_cVq (ci := 2) dX2_takeFirst_36 rfl (by decide) rfl (c_X2_firstTight l (d + 0) nu u m n (hD.fr hfu (by decide)) (hB.fr hfu (by decide) (by decide) (by decide)) k (w 19 k) 1 ⟨hk.1, by omega⟩ ⟨by omega, by omega⟩) mcX2_92 rfl rfl (by show _ ≤ d + 2; omega) rfl rfl (Nat.le_refl _) (Nat.le_refl _) (fun r S2 u2 hq9 => ?_)
    obtain ⟨x, rfl, ⟨hx1, hx2, hx3⟩, rfl, rfl⟩ := hq9
    obtain ⟨hRI, hRL⟩ := RI_0 hH hk.1 (by omega) hQ hx1.1 hx3 hx1.2
    have hrx := hQ.2.2.2.2.1 x hx1.1 (by omega) hRI.2.2.2.2.1
    refine G_istore dX2_takeFirst_39 rfl rfl ?_
    refine G_iconst (n := 0) dX2_takeFirst_41 ⟨by decide, by decide⟩ ?_
    refine G_istore dX2_takeFirst_42 rfl rfl ?_
    have hqb := hQ.2.1
    exact loop u2 x rho hfu hQ.2.2.1.2 (FST_some hH hk.1 hk.2 hQP hx1.2 hx2) hRL (m + n) k x 0 _ _ u2 hRI (by omega) (by omega) (by omega)
  · exact G_vret dX2_takeFirst_23 rfl rfl rfl ⟨rfl, rfl, fr_rf, hH, fun _ _ _ => rfl, FST_none hH hk.1 hk.2 (fun c c0 c1 => hx9.2.1 c c0 (by omega))⟩
theorem PV_fr {ks : List Nat} {v w : VV} (hf : fr ks v w) (h : 18 ∉ ks) : PV w = PV v := by
  funext a b
  unfold PV
  rw [hf 18 h]
theorem FST_to {m n : Nat} {ks : List Nat} {v w : VV} {s x : Int} (h : FST m n v s x) (hf : fr ks v w) (h18 : 18 ∉ ks) (h19 : ∀ t : Int, 0 ≤ t → t < s → w 19 t = v 19 t) : FST m n w s x := by
  intro ok c hP b hb hab hk
  rw [PV_fr hf h18] at hP
  exact h ok c hP b hb (fun t t0 t1 => by rw [hab t t0 t1, h19 t t0 t1]) hk
set_option maxRecDepth 20000 in
set_option maxHeartbeats 1000000 in
theorem c_X2_settle (l : Launch) (d nu : Nat) (v : VV) (m n : Nat) (hH : HI m n 0 v) : Ct l yX2_settle cX2_settle none 2 (d + 4) 0 0 [ar (some 17)] (SG nu) v (fun r S2 w => r = none ∧ S2 = SG nu ∧ fr [19, 20, 21, 22, 23, 24, 25, 26] v w ∧ HF m n w ∧ ∀ s : Int, 0 ≤ s → s < m → FST m n w s (w 19 s)) := by
  refine Ct_of_G [some (ar (some 17)), none] (by decide) rfl rfl ?_
  have hD := hH.1
  obtain ⟨d9, d10, d11, hm, hn⟩ := id hD
  have loop2 : ∀ (N : Nat) (k : Int) (w : VV), 0 ≤ k → k + N = m → fr [19, 20, 21, 22, 23, 24, 25, 26] v w → HF m n w → (∀ s : Int, 0 ≤ s → s < k → FST m n w s (w 19 s)) → G l (yX2_settle, cX2_settle, none, 2, (d + 4), 0, 0, none) (fun r S2 w => r = none ∧ S2 = SG nu ∧ fr [19, 20, 21, 22, 23, 24, 25, 26] v w ∧ HF m n w ∧ ∀ s : Int, 0 ≤ s → s < m → FST m n w s (w 19 s)) 0 0 (SG nu) 23 [some (ar (some 17)), some (ai k)] [] w := by
    intro N
    induction N using Nat.strongRecOn with
    | ind N ih =>
    intro k w h0 h1 hf hF hs
    have d9w : w 17 9 = m := hF.1.1
    refine G_iload_n dX2_settle_23 rfl ?_
    refine G_aload_n dX2_settle_24 rfl ?_
    refine G_getIv ((m : Int)) (jj := 9) dX2_settle_25 flX2_49 rfl rfl rfl d9w ?_
    refine G_icmp_ge 42 dX2_settle_28 (by decide) (fun h28 => ?_) (fun h28 => ?_)
    · exact G_vret dX2_settle_42 rfl rfl rfl ⟨rfl, rfl, hf, hF, fun s s0 s1 => hs s s0 (by omega)⟩
    · refine G_aload_n dX2_settle_31 rfl ?_
      refine G_iload_n dX2_settle_32 rfl ?_
      refine G_cVq (ci := 2) dX2_settle_33 rfl (by decide) rfl (c_X2_takeFirst l (d + 1) nu w m n k ⟨h0, by omega⟩ hF) mcX2_68 rfl rfl (by show _ ≤ d + 4; omega) rfl rfl (Nat.le_refl _) (Nat.le_refl _) (fun r S2 w2 hq9 => ?_)
      obtain ⟨rfl, rfl, q1, q2, q3, q4⟩ := hq9
      refine G_iinc dX2_settle_36 rfl (iRm (by omega) (by omega)) rfl rfl ?_
      refine G_goto 23 dX2_settle_39 (by decide) ?_
      exact ih (N - 1) (by omega) (k + 1) w2 (by omega) (by omega) (fr_tr2 hf q1 (by decide)) q2 (fun s s0 s1 => by
        by_cases y : s = k
        · rw [y]; exact FST_to q4 q1 (by decide) (fun t t0 t1 => q3 t t0 t1)
        · rw [q3 s s0 (by omega)]; exact FST_to (hs s s0 (by omega)) q1 (by decide) (fun t t0 t1 => q3 t t0 (by omega)))
  have loop1 : ∀ (N : Nat) (k : Int) (w : VV), 0 ≤ k → k + N = m → fr [19, 20, 21, 22, 23, 24, 25, 26] v w → HI m n k w → G l (yX2_settle, cX2_settle, none, 2, (d + 4), 0, 0, none) (fun r S2 w => r = none ∧ S2 = SG nu ∧ fr [19, 20, 21, 22, 23, 24, 25, 26] v w ∧ HF m n w ∧ ∀ s : Int, 0 ≤ s → s < m → FST m n w s (w 19 s)) 0 0 (SG nu) 2 [some (ar (some 17)), some (ai k)] [] w := by
    intro N
    induction N using Nat.strongRecOn with
    | ind N ih =>
    intro k w h0 h1 hf hI
    have d9w : w 17 9 = m := hI.1.1
    refine G_iload_n dX2_settle_2 rfl ?_
    refine G_aload_n dX2_settle_3 rfl ?_
    refine G_getIv ((m : Int)) (jj := 9) dX2_settle_4 flX2_49 rfl rfl rfl d9w ?_
    refine G_icmp_ge 21 dX2_settle_7 (by decide) (fun h7 => ?_) (fun h7 => ?_)
    · refine G_iconst (n := 0) dX2_settle_21 ⟨by decide, by decide⟩ ?_
      refine G_istore_n dX2_settle_22 rfl rfl ?_
      obtain rfl : k = (m : Int) := by omega
      exact loop2 m 0 w (by omega) (by omega) hf (HI_full hI) (fun s s0 s1 => by omega)
    · refine G_aload_n dX2_settle_10 rfl ?_
      refine G_iload_n dX2_settle_11 rfl ?_
      refine G_cVq (ci := 2) dX2_settle_12 rfl (by decide) rfl (c_X2_addSeat l (d + 0) nu w m n k ⟨h0, by omega⟩ hI) mcX2_64 rfl rfl (by show _ ≤ d + 4; omega) rfl rfl (Nat.le_refl _) (Nat.le_refl _) (fun r S2 w2 hq9 => ?_)
      obtain ⟨rfl, rfl, q1, q2⟩ := hq9
      refine G_iinc dX2_settle_15 rfl (iRm (by omega) (by omega)) rfl rfl ?_
      refine G_goto 2 dX2_settle_18 (by decide) ?_
      exact ih (N - 1) (by omega) (k + 1) w2 (by omega) (by omega) (fr_tr2 hf q1 (by decide)) q2
  refine G_iconst (n := 0) dX2_settle_0 ⟨by decide, by decide⟩ ?_
  refine G_istore_n dX2_settle_1 rfl rfl ?_
  exact loop1 m 0 v (by omega) (by omega) fr_rf hH
theorem settle_lex {m n : Nat} {w : VV} {ok : Int → Int → Prop} {c : Int → Int → Int} (hF : HF m n w) (hs : ∀ s : Int, 0 ≤ s → s < m → FST m n w s (w 19 s)) (hP : PK m n ok c (PV w)) : Lex 100000 m n ok c (fun s => rd n (w 19 s)) := by
  refine ⟨FM_opt hF.1.2.2.2.1 hP (HF_FM hF), fun s s0 s1 b hb hab hbs => ?_⟩
  have h1 := hs s s0 s1 ok c hP b hb hab hbs
  have h2 := opt_at hb s0 s1 hbs
  have h3 := (hF.2.2.1 s s0 (by omega)).1
  show rd n (w 19 s) ≠ -1 ∧ rd n (w 19 s) ≤ b s
  unfold rd
  rw [if_pos (by omega)]
  omega
