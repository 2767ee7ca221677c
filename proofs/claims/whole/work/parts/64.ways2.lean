def sat1 (v w : VV) (n : Nat) (k q : Int) : Prop := w 55 (pl (v 48) q) < 100000000 → sat1n v w q ∧ ∀ x : Int, 0 ≤ x → x < n → sat1x v w k q x
def sat2 (v w : VV) (k x : Int) : Prop := (v 53 x = -1 → w 55 x < 100000000 → w 55 21 ≤ w 55 x) ∧ (v 53 x ≠ -1 → ¬ heldF (v 48) k x → w 55 21 < 100000000 → w 55 x ≤ w 55 21)
def AQ (v w0 : VV) (n : Nat) (k q : Int) : Prop := ∀ p : Int, 0 ≤ p → p < q → k < p → sat1 v w0 n k p
def AX (v w0 : VV) (n m : Nat) (k x : Int) : Prop := AQ v w0 n k m ∧ ∀ y : Int, 0 ≤ y → y < x → sat2 v w0 k y
def WFA (v w : VV) (m n : Nat) (k : Int) : Prop := AX v w n m k n ∧ (w 55 20 < 100000000 → w 55 21 ≤ w 55 20) ∧ (w 55 21 < 100000000 → w 55 20 ≤ w 55 21)
theorem WI_45 {m n : Nat} {k u : Int} {v : VV} {ps : Int → Int} {tau : Int → Nat} {T : Nat} {w : VV} (h : WI m n k u v ps tau T w) (x : Int) : WI m n k u v ps tau T (up w 27 45 x) ∧ MSw n ps u (up w 27 45 x) = MSw n ps u w := by
  have e55 : up w 27 45 x 55 = w 55 := up_ne (by decide)
  refine ⟨⟨fw_45 h.1 x, ?_⟩, ?_⟩
  · rw [e55, show up w 27 45 x 56 = w 56 from up_ne (by decide), show up w 27 45 x 57 = w 57 from up_ne (by decide)]; exact h.2
  · unfold MSw; rw [e55]
theorem WI_0 {m n : Nat} {k u : Int} {v w : VV} {ph ps : Int → Int} (hC : WC m n k v ph ps) (hu : 0 ≤ u ∧ u < n) (hf : fw v w) (hp : ∀ x : Int, 0 ≤ x → x < 22 → w 55 x = 100000000) : WI m n k u v ps (fun _ => 0) 1 (up (up (up w 55 u 0) 56 u (-1)) 27 45 1) := by
  have hn := hC.1.2.1
  have e55 : ∀ x, up (up (up w 55 u 0) 56 u (-1)) 27 45 1 55 x = if x = u then 0 else w 55 x := fun x => by
    rw [up_c (show 55 ≠ 27 by decide), up_c (show 55 ≠ 56 by decide)]
    by_cases g : x = u
    · rw [g, up_self, if_pos rfl]
    · rw [up_nj g, if_neg g]
  refine ⟨fw_45 (fw_up (fw_up hf (by decide) _ _) (by decide) _ _) 1, fun x x0 x1 => ?_, by rw [e55, if_pos rfl], fun x nx hx hlt => ?_, fun _ => Nat.zero_lt_one⟩
  · rw [e55]
    by_cases g : x = u
    · rw [if_pos g, g, lb_node (Or.inl hu), show pN n ps u = ps u from if_pos hu.2]; omega
    · rw [if_neg g, hp x x0 x1]
      refine ⟨?_, Int.le_refl _⟩
      have b1 := hC.2.2.2.2 u hu.1 hu.2
      unfold lbN pN
      split
      · split
        · have := hC.2.2.2.1.2.2.2.1 x x0 (by assumption); omega
        · omega
      · omega
  · rw [e55, if_neg hx] at hlt
    have := hp x (node_bd hn nx).1 (node_bd hn nx).2
    omega
theorem ST1_lo {m n : Nat} {k u : Int} {v : VV} {ph ps : Int → Int} {w0 : VV} {A : Prop} {w : VV} (hC : WC m n k v ph ps) (hu : 0 ≤ u ∧ u < n) (h : ST1 m n k u v ps w0 A w) (x : Int) (x0 : 0 ≤ x) (x1 : x < 22) : -1000000 ≤ w 55 x ∧ w 55 x ≤ 100000000 := by
  have q := (ST1_wi h).2 x x0 x1
  have q2 := lb_bd hC hu x x0
  omega
set_option maxRecDepth 20000 in
set_option maxHeartbeats 1000000 in
theorem c_X6_ways (l : Launch) (d nu : Nat) (v : VV) (m n : Nat) (k u : Int) (ph ps : Int → Int) (hk : 0 ≤ k ∧ k < m) (hC : WC m n k v ph ps) (hu : 0 ≤ u ∧ u < n) : Ct l yX6_ways cX6_ways none 5 (d + 2) 0 0 [ar (some 27), ai u, ai k, ai (m : Int)] (SG nu) v (fun r S2 w => r = none ∧ S2 = SG nu ∧ ∃ tau T, WI m n k u v ps tau T w ∧ WFA v w m n k) := by
  refine Ct_of_G [some (ar (some 27)), some (ai u), some (ai k), some (ai (m : Int)), none] (by decide) rfl rfl ?_
  have hn20 := hC.1.2.1
  have hm16 := hC.1.2.2.1
  have fin : ∀ (w : VV) (Z4 : Option AV), (∃ tau T, WI m n k u v ps tau T w) → w 27 45 = 0 → WFA v w m n k → G l (yX6_ways, cX6_ways, none, 5, (d + 2), 0, 0, none) (fun r S2 w => r = none ∧ S2 = SG nu ∧ ∃ tau T, WI m n k u v ps tau T w ∧ WFA v w m n k) 0 0 (SG nu) 44 [some (ar (some 27)), some (ai u), some (ai k), some (ai (m : Int)), Z4] [] w := by
    intro w Z4 ⟨tau, T, hI⟩ h45 hA
    refine G_aload_n dX6_ways_44 rfl ?_
    refine G_getIv ((0 : Int)) (jj := 45) dX6_ways_45 flX6_232 rfl rfl rfl h45 ?_
    refine G_if_eq 279 dX6_ways_48 (by decide) (fun h48 => ?_) (fun h48 => absurd rfl h48)
    exact G_vret dX6_ways_279 rfl rfl rfl ⟨rfl, rfl, tau, T, hI, hA⟩
  have ql : ∀ (w0 : VV) (N : Nat) (q : Int) (w : VV), 0 ≤ q → q + N = m → ST1 m n k u v ps w0 (AQ v w0 n k q) w → (∀ (w2 : VV) (Y4 : Option AV), ST1 m n k u v ps w0 (AQ v w0 n k m) w2 → G l (yX6_ways, cX6_ways, none, 5, (d + 2), 0, 0, none) (fun r S2 w => r = none ∧ S2 = SG nu ∧ ∃ tau T, WI m n k u v ps tau T w ∧ WFA v w m n k) 0 0 (SG nu) 109 [some (ar (some 27)), some (ai u), some (ai k), some (ai (m : Int)), Y4] [] w2) → G l (yX6_ways, cX6_ways, none, 5, (d + 2), 0, 0, none) (fun r S2 w => r = none ∧ S2 = SG nu ∧ ∃ tau T, WI m n k u v ps tau T w ∧ WFA v w m n k) 0 0 (SG nu) 59 [some (ar (some 27)), some (ai u), some (ai k), some (ai (m : Int)), some (ai q)] [] w := by
    intro w0 N
    induction N using Nat.strongRecOn with
    | ind N ih =>
    intro q w h0 h1 hS K
    obtain ⟨hfw, hbd⟩ := ST1_wi hS
    have e33 : w 27 33 = n := by rw [hfw.2 33 (by decide)]; exact hC.1.1
    refine G_iload dX6_ways_59 rfl ?_
    refine G_iload_n dX6_ways_61 rfl ?_
    refine G_icmp_ge 109 dX6_ways_62 (by decide) (fun h62 => ?_) (fun h62 => ?_)
    · obtain rfl : q = m := by omega
      exact K w _ hS
    · have hpn := node_bd hn20 (pl_node hC.2.1 (q := q) h0 (by omega))
      refine G_iload dX6_ways_65 rfl ?_
      refine G_iload_n dX6_ways_67 rfl ?_
      refine G_icmp_eq 103 dX6_ways_68 (by decide) (fun h68 => ?_) (fun h68 => ?_)
      · refine G_iinc dX6_ways_103 rfl (iRm (by omega) (by omega)) rfl rfl ?_
        refine G_goto 59 dX6_ways_106 (by decide) ?_
        exact ih (N - 1) (by omega) (q + 1) w (by omega) (by omega) (ST1_imp hS (fun hw hA p p0 p1 p2 => by by_cases g : p = q; (omega); exact hA p p0 (by omega) p2)) K
      · refine G_aload_n dX6_ways_71 rfl ?_
        refine G_getR (jj := 41) dX6_ways_72 flX6_89 rfl rfl rfl ?_
        refine G_iload dX6_ways_75 rfl ?_
        refine G_zaldv ((if q < k then 1 else 0)) dX6_ways_77 rfl (by omega) (by omega) (by rw [hfw.1 54 (by decide)]; exact hC.2.2.1 q h0 (by omega)) ?_
        refine G_if_ne 103 dX6_ways_78 (by decide) (fun h78 => ?_) (fun h78 => ?_)
        · have hqk : q < k := by
            apply Classical.byContradiction
            intro g
            rw [if_neg g] at h78
            exact h78 rfl
          refine G_iinc dX6_ways_103 rfl (iRm (by omega) (by omega)) rfl rfl ?_
          refine G_goto 59 dX6_ways_106 (by decide) ?_
          exact ih (N - 1) (by omega) (q + 1) w (by omega) (by omega) (ST1_imp hS (fun hw hA p p0 p1 p2 => by by_cases g : p = q; (omega); exact hA p p0 (by omega) p2)) K
        · have hqk : k < q := by
            apply Classical.byContradiction
            intro g
            rw [if_pos (by omega)] at h78
            omega
          refine G_aload_n dX6_ways_81 rfl ?_
          refine G_getR (jj := 42) dX6_ways_82 flX6_92 rfl rfl rfl ?_
          refine G_aload_n dX6_ways_85 rfl ?_
          refine G_iload dX6_ways_86 rfl ?_
          refine G_cVi (ci := 6) dX6_ways_88 rfl (by decide) rfl (c_X6_placeOf l (d + 1) nu w q ⟨by omega, by omega⟩) mcX6_236 rfl rfl (by show _ ≤ d + 2; omega) rfl rfl (Nat.le_refl _) (Nat.le_refl _) ?_
          rw [show (if w 48 q = -1 then (20 : Int) else w 48 q) = pl (v 48) q from by unfold pl; rw [hfw.1 48 (by decide)]]
          refine G_iald dX6_ways_91 rfl (by omega) (by omega) ?_
          refine G_ldc (n := 100000000) dX6_ways_92 (show Cond.constant RX6 218 (Int32.ofInt 100000000) ∈ lw_good by decide +kernel) ⟨by decide, by decide⟩ ?_
          refine G_icmp_ge 103 dX6_ways_94 (by decide) (fun h94 => ?_) (fun h94 => ?_)
          · refine G_iinc dX6_ways_103 rfl (iRm (by omega) (by omega)) rfl rfl ?_
            refine G_goto 59 dX6_ways_106 (by decide) ?_
            exact ih (N - 1) (by omega) (q + 1) w (by omega) (by omega) (ST1_imp hS (fun hw hA p p0 p1 p2 => by by_cases g : p = q; ((rw [g]; intro g2; rw [hw] at h94; omega)); exact hA p p0 (by omega) p2)) K
          · obtain ⟨tau, T, hWI, hst⟩ := id hS
            refine G_aload_n dX6_ways_97 rfl ?_
            refine G_iload dX6_ways_98 rfl ?_
            refine G_cVq (ci := 6) dX6_ways_100 rfl (by decide) rfl (c_X6_moves l (d + 0) nu w v m n k u ph ps hk.1 (by omega) hC hu tau T hWI q ⟨hqk, by omega⟩ (by omega)) mcX6_239 rfl rfl (by show _ ≤ d + 2; omega) rfl rfl (Nat.le_refl _) (Nat.le_refl _) (fun r S2 w2 hq9 => ?_)
            obtain ⟨rfl, rfl, -, hS2⟩ := hq9
            refine G_iinc dX6_ways_103 rfl (iRm (by omega) (by omega)) rfl rfl ?_
            refine G_goto 59 dX6_ways_106 (by decide) ?_
            exact ih (N - 1) (by omega) (q + 1) w2 (by omega) (by omega) (ST1_tr hS hS2 (fun hw hA hB p p0 p1 p2 => by by_cases g : p = q; (rw [g]; intro g2; rw [hw] at hB; exact hB); exact hA p p0 (by omega) p2)) K
  have ul : ∀ (w0 : VV) (N : Nat) (x : Int) (w : VV), 0 ≤ x → x + N = n → ST1 m n k u v ps w0 (AX v w0 n m k x) w → (∀ (w2 : VV) (Y4 : Option AV), ST1 m n k u v ps w0 (AX v w0 n m k n) w2 → G l (yX6_ways, cX6_ways, none, 5, (d + 2), 0, 0, none) (fun r S2 w => r = none ∧ S2 = SG nu ∧ ∃ tau T, WI m n k u v ps tau T w ∧ WFA v w m n k) 0 0 (SG nu) 220 [some (ar (some 27)), some (ai u), some (ai k), some (ai (m : Int)), Y4] [] w2) → G l (yX6_ways, cX6_ways, none, 5, (d + 2), 0, 0, none) (fun r S2 w => r = none ∧ S2 = SG nu ∧ ∃ tau T, WI m n k u v ps tau T w ∧ WFA v w m n k) 0 0 (SG nu) 112 [some (ar (some 27)), some (ai u), some (ai k), some (ai (m : Int)), some (ai x)] [] w := by
    intro w0 N
    induction N using Nat.strongRecOn with
    | ind N ih =>
    intro x w h0 h1 hS K
    obtain ⟨hfw, hbd⟩ := ST1_wi hS
    have e33 : w 27 33 = n := by rw [hfw.2 33 (by decide)]; exact hC.1.1
    refine G_iload dX6_ways_112 rfl ?_
    refine G_aload_n dX6_ways_114 rfl ?_
    refine G_getIv ((n : Int)) (jj := 33) dX6_ways_115 flX6_181 rfl rfl rfl e33 ?_
    refine G_icmp_ge 220 dX6_ways_118 (by decide) (fun h118 => ?_) (fun h118 => ?_)
    · obtain rfl : x = n := by omega
      exact K w _ hS
    · refine G_aload_n dX6_ways_121 rfl ?_
      refine G_getR (jj := 40) dX6_ways_122 flX6_86 rfl rfl rfl ?_
      refine G_iload dX6_ways_125 rfl ?_
      refine G_ialdv (v 53 x) dX6_ways_127 rfl (by omega) (by omega) (by rw [hfw.1 53 (by decide)]) ?_
      refine G_iconst (n := (-1)) dX6_ways_128 ⟨by decide, by decide⟩ ?_
      refine G_icmp_ne 160 dX6_ways_129 (by decide) (fun h129 => ?_) (fun h129 => ?_)
      · have hbx : (0 ≤ v 53 x ∧ v 53 x < m) := by rcases hC.2.1.2 x h0 (by omega) with g | g; exact absurd g h129; exact g.1
        have hif := held_iff hC.2.1 (k := k) (by omega) h0 (by omega) h129
        refine G_aload_n dX6_ways_160 rfl ?_
        refine G_getR (jj := 40) dX6_ways_161 flX6_86 rfl rfl rfl ?_
        refine G_iload dX6_ways_164 rfl ?_
        refine G_ialdv (v 53 x) dX6_ways_166 rfl (by omega) (by omega) (by first | (rw [hfw.1 53 (by decide)]; done) | (exact congrFun (hfw2.1 53 (by decide)) x)) ?_
        refine G_iconst (n := (-1)) dX6_ways_167 ⟨by decide, by decide⟩ ?_
        refine G_icmp_eq 214 dX6_ways_168 (by decide) (fun h168 => by omega) (fun h168 => ?_)
        refine G_aload_n dX6_ways_171 rfl ?_
        refine G_getR (jj := 41) dX6_ways_172 flX6_89 rfl rfl rfl ?_
        refine G_aload_n dX6_ways_175 rfl ?_
        refine G_getR (jj := 40) dX6_ways_176 flX6_86 rfl rfl rfl ?_
        refine G_iload dX6_ways_179 rfl ?_
        refine G_ialdv (v 53 x) dX6_ways_181 rfl (by omega) (by omega) (by rw [hfw.1 53 (by decide)]) ?_
        refine G_zaldv ((if v 53 x < k then 1 else 0)) dX6_ways_182 rfl (by omega) (by omega) (by rw [hfw.1 54 (by decide)]; exact hC.2.2.1 (v 53 x) hbx.1 hbx.2) ?_
        refine G_if_ne 214 dX6_ways_183 (by decide) (fun h183 => ?_) (fun h183 => ?_)
        · have hyf : heldF (v 48) k x := hif.mpr (by
            apply Classical.byContradiction
            intro g
            rw [if_neg g] at h183
            exact h183 rfl)
          refine G_iinc dX6_ways_214 rfl (iRm (by omega) (by omega)) rfl rfl ?_
          refine G_goto 112 dX6_ways_217 (by decide) ?_
          exact ih (N - 1) (by omega) (x + 1) w (by omega) (by omega) (ST1_imp hS (fun hw hA => ⟨hA.1, fun y y0 y1 => by by_cases g : y = x; (rw [g]; exact ⟨fun g2 => absurd g2 h129, fun _ g2 => absurd hyf g2⟩); exact hA.2 y y0 (by omega)⟩)) K
        · have hnf : ¬ heldF (v 48) k x := fun g => by rw [if_pos (hif.mp g)] at h183; omega
          refine G_aload_n dX6_ways_186 rfl ?_
          refine G_getR (jj := 42) dX6_ways_187 flX6_92 rfl rfl rfl ?_
          refine G_bipush (n := 21) dX6_ways_190 (by decide) ⟨by decide, by decide⟩ ?_
          refine G_iald dX6_ways_192 rfl (by omega) (by omega) ?_
          refine G_ldc (n := 100000000) dX6_ways_193 (show Cond.constant RX6 218 (Int32.ofInt 100000000) ∈ lw_good by decide +kernel) ⟨by decide, by decide⟩ ?_
          refine G_icmp_ge 214 dX6_ways_195 (by decide) (fun h195 => ?_) (fun h195 => ?_)
          · refine G_iinc dX6_ways_214 rfl (iRm (by omega) (by omega)) rfl rfl ?_
            refine G_goto 112 dX6_ways_217 (by decide) ?_
            exact ih (N - 1) (by omega) (x + 1) w (by omega) (by omega) (ST1_imp hS (fun hw hA => ⟨hA.1, fun y y0 y1 => by by_cases g : y = x; (rw [g]; exact ⟨fun g2 => absurd g2 h129, fun _ _ g2 => by rw [← hw] at g2; omega⟩); exact hA.2 y y0 (by omega)⟩)) K
          · refine G_aload_n dX6_ways_198 rfl ?_
            refine G_iload dX6_ways_199 rfl ?_
            refine G_aload_n dX6_ways_201 rfl ?_
            refine G_getR (jj := 42) dX6_ways_202 flX6_92 rfl rfl rfl ?_
            refine G_bipush (n := 21) dX6_ways_205 (by decide) ⟨by decide, by decide⟩ ?_
            refine G_iald dX6_ways_207 rfl (by omega) (by omega) ?_
            refine G_bipush (n := 21) dX6_ways_208 (by decide) ⟨by decide, by decide⟩ ?_
            refine G_iconst (n := (-1)) dX6_ways_210 ⟨by decide, by decide⟩ ?_
            refine G_cVv (ci := 6) dX6_ways_211 rfl (by decide) rfl (c_X6_offer l (d + 1) nu w x (w 55 21) 21 (-1) ⟨by omega, by omega⟩) mcX6_242 rfl rfl (by show _ ≤ d + 2; omega) rfl rfl (Nat.le_refl _) (Nat.le_refl _) ?_
            have hS3 : ST1 m n k u v ps w0 (AX v w0 n m k (x + 1)) (ofr w x (w 55 21) 21 (-1)) := by
              obtain ⟨tau, T, hWI, hst⟩ := id hS
              refine ST1_off hk.1 hC hu (A := AX v w0 n m k x ∧ w = w0) ⟨tau, T, hWI, hst.imp (fun g => ⟨g.1, g.2, g.1⟩) id⟩ (wt := 0) (Or.inr ⟨rfl, rfl, Or.inr (Or.inl ⟨rfl, ⟨h0, by omega⟩, h129, hnf⟩)⟩) (by omega) (by omega) (fun hA hle => ⟨hA.1.1, fun y y0 y1 => ?_⟩)
              by_cases g : y = x
              · rw [g]; exact ⟨fun g2 => absurd g2 h129, fun _ _ _ => by rw [← hA.2] at hle ⊢; exact hle⟩
              · exact hA.1.2 y y0 (by omega)
            refine G_iinc dX6_ways_214 rfl (iRm (by omega) (by omega)) rfl rfl ?_
            refine G_goto 112 dX6_ways_217 (by decide) ?_
            exact ih (N - 1) (by omega) (x + 1) _ (by omega) (by omega) hS3 K
      · refine G_aload_n dX6_ways_132 rfl ?_
        refine G_getR (jj := 42) dX6_ways_133 flX6_92 rfl rfl rfl ?_
        refine G_iload dX6_ways_136 rfl ?_
        refine G_iald dX6_ways_138 rfl (by omega) (by omega) ?_
        refine G_ldc (n := 100000000) dX6_ways_139 (show Cond.constant RX6 218 (Int32.ofInt 100000000) ∈ lw_good by decide +kernel) ⟨by decide, by decide⟩ ?_
        refine G_icmp_ge 160 dX6_ways_141 (by decide) (fun h141 => ?_) (fun h141 => ?_)
        · refine G_aload_n dX6_ways_160 rfl ?_
          refine G_getR (jj := 40) dX6_ways_161 flX6_86 rfl rfl rfl ?_
          refine G_iload dX6_ways_164 rfl ?_
          refine G_ialdv (v 53 x) dX6_ways_166 rfl (by omega) (by omega) (by first | (rw [hfw.1 53 (by decide)]; done) | (exact congrFun (hfw2.1 53 (by decide)) x)) ?_
          refine G_iconst (n := (-1)) dX6_ways_167 ⟨by decide, by decide⟩ ?_
          refine G_icmp_eq 214 dX6_ways_168 (by decide) (fun h168 => ?_) (fun h168 => by omega)
          refine G_iinc dX6_ways_214 rfl (iRm (by omega) (by omega)) rfl rfl ?_
          refine G_goto 112 dX6_ways_217 (by decide) ?_
          exact ih (N - 1) (by omega) (x + 1) w (by omega) (by omega) (ST1_imp hS (fun hw hA => ⟨hA.1, fun y y0 y1 => by by_cases g : y = x; (rw [g]; exact ⟨fun _ g2 => by rw [← hw] at g2; omega, fun g2 => absurd h129 g2⟩); exact hA.2 y y0 (by omega)⟩)) K
        · refine G_aload_n dX6_ways_144 rfl ?_
          refine G_bipush (n := 21) dX6_ways_145 (by decide) ⟨by decide, by decide⟩ ?_
          refine G_aload_n dX6_ways_147 rfl ?_
          refine G_getR (jj := 42) dX6_ways_148 flX6_92 rfl rfl rfl ?_
          refine G_iload dX6_ways_151 rfl ?_
          refine G_iald dX6_ways_153 rfl (by omega) (by omega) ?_
          refine G_iload dX6_ways_154 rfl ?_
          refine G_iconst (n := (-1)) dX6_ways_156 ⟨by decide, by decide⟩ ?_
          refine G_cVv (ci := 6) dX6_ways_157 rfl (by decide) rfl (c_X6_offer l (d + 1) nu w 21 (w 55 x) x (-1) ⟨by omega, by omega⟩) mcX6_242 rfl rfl (by show _ ≤ d + 2; omega) rfl rfl (Nat.le_refl _) (Nat.le_refl _) ?_
          have hS2 : ST1 m n k u v ps w0 (AX v w0 n m k (x + 1)) (ofr w 21 (w 55 x) x (-1)) := by
            obtain ⟨tau, T, hWI, hst⟩ := id hS
            refine ST1_off hk.1 hC hu (A := AX v w0 n m k x ∧ w = w0) ⟨tau, T, hWI, hst.imp (fun g => ⟨g.1, g.2, g.1⟩) id⟩ (wt := 0) (Or.inr ⟨rfl, rfl, Or.inl ⟨⟨h0, by omega⟩, h129, rfl⟩⟩) (by omega) (by omega) (fun hA hle => ⟨hA.1.1, fun y y0 y1 => ?_⟩)
            by_cases g : y = x
            · rw [g]; exact ⟨fun _ _ => by rw [← hA.2] at hle ⊢; exact hle, fun g2 => absurd h129 g2⟩
            · exact hA.1.2 y y0 (by omega)
          have hfw2 := (ST1_wi hS2).1
          refine G_aload_n dX6_ways_160 rfl ?_
          refine G_getR (jj := 40) dX6_ways_161 flX6_86 rfl rfl rfl ?_
          refine G_iload dX6_ways_164 rfl ?_
          refine G_ialdv (v 53 x) dX6_ways_166 rfl (by omega) (by omega) (by first | (rw [hfw.1 53 (by decide)]; done) | (exact congrFun (hfw2.1 53 (by decide)) x)) ?_
          refine G_iconst (n := (-1)) dX6_ways_167 ⟨by decide, by decide⟩ ?_
          refine G_icmp_eq 214 dX6_ways_168 (by decide) (fun h168 => ?_) (fun h168 => by omega)
          refine G_iinc dX6_ways_214 rfl (iRm (by omega) (by omega)) rfl rfl ?_
          refine G_goto 112 dX6_ways_217 (by decide) ?_
          exact ih (N - 1) (by omega) (x + 1) _ (by omega) (by omega) hS2 K
  have whl : ∀ (N : Nat) (w : VV) (Z4 : Option AV), (∃ tau T, WI m n k u v ps tau T w) → (w 27 45 = 1 ∨ (w 27 45 = 0 ∧ WFA v w m n k)) → MSw n ps u w < N → G l (yX6_ways, cX6_ways, none, 5, (d + 2), 0, 0, none) (fun r S2 w => r = none ∧ S2 = SG nu ∧ ∃ tau T, WI m n k u v ps tau T w ∧ WFA v w m n k) 0 0 (SG nu) 44 [some (ar (some 27)), some (ai u), some (ai k), some (ai (m : Int)), Z4] [] w := by
    intro N
    induction N using Nat.strongRecOn with
    | ind N ih =>
    intro w Z4 hW9 h45 hN
    rcases h45 with h45 | h45
    · obtain ⟨tau, T, hI⟩ := hW9
      obtain ⟨hI0, hms⟩ := WI_45 hI 0
      refine G_aload_n dX6_ways_44 rfl ?_
      refine G_getIv ((1 : Int)) (jj := 45) dX6_ways_45 flX6_232 rfl rfl rfl h45 ?_
      refine G_if_eq 279 dX6_ways_48 (by decide) (fun h48 => by omega) (fun h48 => ?_)
      refine G_aload_n dX6_ways_51 rfl ?_
      refine G_iconst (n := 0) dX6_ways_52 ⟨by decide, by decide⟩ ?_
      refine G_putZ (jj := 45) dX6_ways_53 flX6_232 rfl rfl rfl rfl (Or.inl rfl) ?_
      refine G_iconst (n := 0) dX6_ways_56 ⟨by decide, by decide⟩ ?_
      refine G_istore dX6_ways_57 rfl rfl ?_
      refine ql (up w 27 45 0) m 0 (up w 27 45 0) (by omega) (by omega) ⟨tau, T, hI0, Or.inl ⟨rfl, fun p p0 p1 => by omega⟩⟩ (fun w1 Y4 hY1 => ?_)
      refine G_iconst (n := 0) dX6_ways_109 ⟨by decide, by decide⟩ ?_
      refine G_istore dX6_ways_110 rfl rfl ?_
      refine ul (up w 27 45 0) n 0 w1 (by omega) (by omega) (ST1_imp hY1 (fun _ hA => ⟨hA, fun y y0 y1 => by omega⟩)) (fun w2 Y4 hY => ?_)
      have hlo1 := ST1_lo hC hu hY 20 (by omega) (by omega)
      have hlo2 := ST1_lo hC hu hY 21 (by omega) (by omega)
      refine G_aload_n dX6_ways_220 rfl ?_
      refine G_getR (jj := 42) dX6_ways_221 flX6_92 rfl rfl rfl ?_
      refine G_bipush (n := 20) dX6_ways_224 (by decide) ⟨by decide, by decide⟩ ?_
      refine G_iald dX6_ways_226 rfl (by omega) (by omega) ?_
      refine G_ldc (n := 100000000) dX6_ways_227 (show Cond.constant RX6 218 (Int32.ofInt 100000000) ∈ lw_good by decide +kernel) ⟨by decide, by decide⟩ ?_
      refine G_icmp_ge 248 dX6_ways_229 (by decide) (fun h229 => ?_) (fun h229 => ?_)
      · have hX : ST1 m n k u v ps (up w 27 45 0) (AX v (up w 27 45 0) n m k n ∧ ((up w 27 45 0) 55 20 < 100000000 → (up w 27 45 0) 55 21 ≤ (up w 27 45 0) 55 20)) w2 := ST1_imp hY (fun hw hA => ⟨hA, fun g => by rw [← hw] at g; omega⟩)
        refine G_aload_n dX6_ways_248 rfl ?_
        refine G_getR (jj := 42) dX6_ways_249 flX6_92 rfl rfl rfl ?_
        refine G_bipush (n := 21) dX6_ways_252 (by decide) ⟨by decide, by decide⟩ ?_
        refine G_iald dX6_ways_254 rfl (by omega) (by omega) ?_
        refine G_ldc (n := 100000000) dX6_ways_255 (show Cond.constant RX6 218 (Int32.ofInt 100000000) ∈ lw_good by decide +kernel) ⟨by decide, by decide⟩ ?_
        refine G_icmp_ge 44 dX6_ways_257 (by decide) (fun h257 => ?_) (fun h257 => ?_)
        · have hZ : ST1 m n k u v ps (up w 27 45 0) (AX v (up w 27 45 0) n m k n ∧ ((up w 27 45 0) 55 20 < 100000000 → (up w 27 45 0) 55 21 ≤ (up w 27 45 0) 55 20) ∧ ((up w 27 45 0) 55 21 < 100000000 → (up w 27 45 0) 55 20 ≤ (up w 27 45 0) 55 21)) w2 := ST1_imp hX (fun hw hA => ⟨hA.1, hA.2, fun g => by rw [← hw] at g; omega⟩)
          obtain ⟨tau9, T9, hWI9, hst9⟩ := hZ
          rcases hst9 with ⟨g1, g2⟩ | ⟨g1, g2⟩
          · exact fin _ _ ⟨tau9, T9, hWI9⟩ (by rw [g1, up_self]) (by rw [g1]; exact g2)
          · have nn := MS_nn hWI9
            exact ih (MSw n ps u w).toNat (by omega) _ _ ⟨tau9, T9, hWI9⟩ (Or.inl g2) (by rw [hms] at g1; omega)
        · refine G_aload_n dX6_ways_260 rfl ?_
          refine G_bipush (n := 20) dX6_ways_261 (by decide) ⟨by decide, by decide⟩ ?_
          refine G_aload_n dX6_ways_263 rfl ?_
          refine G_getR (jj := 42) dX6_ways_264 flX6_92 rfl rfl rfl ?_
          refine G_bipush (n := 21) dX6_ways_267 (by decide) ⟨by decide, by decide⟩ ?_
          refine G_iald dX6_ways_269 rfl (by omega) (by omega) ?_
          refine G_bipush (n := 21) dX6_ways_270 (by decide) ⟨by decide, by decide⟩ ?_
          refine G_iconst (n := (-1)) dX6_ways_272 ⟨by decide, by decide⟩ ?_
          refine G_cVv (ci := 6) dX6_ways_273 rfl (by decide) rfl (c_X6_offer l (d + 1) nu w2 20 (w2 55 21) 21 (-1) ⟨by omega, by omega⟩) mcX6_242 rfl rfl (by show _ ≤ d + 2; omega) rfl rfl (Nat.le_refl _) (Nat.le_refl _) ?_
          have hZ : ST1 m n k u v ps (up w 27 45 0) (AX v (up w 27 45 0) n m k n ∧ ((up w 27 45 0) 55 20 < 100000000 → (up w 27 45 0) 55 21 ≤ (up w 27 45 0) 55 20) ∧ ((up w 27 45 0) 55 21 < 100000000 → (up w 27 45 0) 55 20 ≤ (up w 27 45 0) 55 21)) (ofr w2 20 (w2 55 21) 21 (-1)) := by
            obtain ⟨tau, T, hWI, hst⟩ := id hX
            refine ST1_off hk.1 hC hu (A := (AX v (up w 27 45 0) n m k n ∧ ((up w 27 45 0) 55 20 < 100000000 → (up w 27 45 0) 55 21 ≤ (up w 27 45 0) 55 20)) ∧ w2 = up w 27 45 0) ⟨tau, T, hWI, hst.imp (fun g => ⟨g.1, g.2, g.1⟩) id⟩ (wt := 0) (Or.inr ⟨rfl, rfl, Or.inr (Or.inr (Or.inr ⟨rfl, rfl⟩))⟩) (by omega) (by omega) (fun hA hle => ⟨hA.1.1, hA.1.2, fun _ => ?_⟩)
            rw [← hA.2] at hle ⊢; exact hle
          rw [show (if w2 55 20 ≤ w2 55 21 then w2 else up (up (up (up w2 55 20 (w2 55 21)) 56 20 21) 57 20 (-1)) 27 45 1) = ofr w2 20 (w2 55 21) 21 (-1) from rfl]
          generalize ofr w2 20 (w2 55 21) 21 (-1) = w2 at hZ ⊢
          refine G_goto 44 dX6_ways_276 (by decide) ?_
          obtain ⟨tau9, T9, hWI9, hst9⟩ := hZ
          rcases hst9 with ⟨g1, g2⟩ | ⟨g1, g2⟩
          · exact fin _ _ ⟨tau9, T9, hWI9⟩ (by rw [g1, up_self]) (by rw [g1]; exact g2)
          · have nn := MS_nn hWI9
            exact ih (MSw n ps u w).toNat (by omega) _ _ ⟨tau9, T9, hWI9⟩ (Or.inl g2) (by rw [hms] at g1; omega)
      · refine G_aload_n dX6_ways_232 rfl ?_
        refine G_bipush (n := 21) dX6_ways_233 (by decide) ⟨by decide, by decide⟩ ?_
        refine G_aload_n dX6_ways_235 rfl ?_
        refine G_getR (jj := 42) dX6_ways_236 flX6_92 rfl rfl rfl ?_
        refine G_bipush (n := 20) dX6_ways_239 (by decide) ⟨by decide, by decide⟩ ?_
        refine G_iald dX6_ways_241 rfl (by omega) (by omega) ?_
        refine G_bipush (n := 20) dX6_ways_242 (by decide) ⟨by decide, by decide⟩ ?_
        refine G_iconst (n := (-1)) dX6_ways_244 ⟨by decide, by decide⟩ ?_
        refine G_cVv (ci := 6) dX6_ways_245 rfl (by decide) rfl (c_X6_offer l (d + 1) nu w2 21 (w2 55 20) 20 (-1) ⟨by omega, by omega⟩) mcX6_242 rfl rfl (by show _ ≤ d + 2; omega) rfl rfl (Nat.le_refl _) (Nat.le_refl _) ?_
        have hX : ST1 m n k u v ps (up w 27 45 0) (AX v (up w 27 45 0) n m k n ∧ ((up w 27 45 0) 55 20 < 100000000 → (up w 27 45 0) 55 21 ≤ (up w 27 45 0) 55 20)) (ofr w2 21 (w2 55 20) 20 (-1)) := by
          obtain ⟨tau, T, hWI, hst⟩ := id hY
          refine ST1_off hk.1 hC hu (A := AX v (up w 27 45 0) n m k n ∧ w2 = up w 27 45 0) ⟨tau, T, hWI, hst.imp (fun g => ⟨g.1, g.2, g.1⟩) id⟩ (wt := 0) (Or.inr ⟨rfl, rfl, Or.inr (Or.inr (Or.inl ⟨rfl, rfl⟩))⟩) (by omega) (by omega) (fun hA hle => ⟨hA.1, fun _ => ?_⟩)
          rw [← hA.2] at hle ⊢; exact hle
        rw [show (if w2 55 21 ≤ w2 55 20 then w2 else up (up (up (up w2 55 21 (w2 55 20)) 56 21 20) 57 21 (-1)) 27 45 1) = ofr w2 21 (w2 55 20) 20 (-1) from rfl]
        generalize ofr w2 21 (w2 55 20) 20 (-1) = w2 at hX ⊢
        have hlo2 := ST1_lo hC hu hX 21 (by omega) (by omega)
        refine G_aload_n dX6_ways_248 rfl ?_
        refine G_getR (jj := 42) dX6_ways_249 flX6_92 rfl rfl rfl ?_
        refine G_bipush (n := 21) dX6_ways_252 (by decide) ⟨by decide, by decide⟩ ?_
        refine G_iald dX6_ways_254 rfl (by omega) (by omega) ?_
        refine G_ldc (n := 100000000) dX6_ways_255 (show Cond.constant RX6 218 (Int32.ofInt 100000000) ∈ lw_good by decide +kernel) ⟨by decide, by decide⟩ ?_
        refine G_icmp_ge 44 dX6_ways_257 (by decide) (fun h257 => ?_) (fun h257 => ?_)
        · have hZ : ST1 m n k u v ps (up w 27 45 0) (AX v (up w 27 45 0) n m k n ∧ ((up w 27 45 0) 55 20 < 100000000 → (up w 27 45 0) 55 21 ≤ (up w 27 45 0) 55 20) ∧ ((up w 27 45 0) 55 21 < 100000000 → (up w 27 45 0) 55 20 ≤ (up w 27 45 0) 55 21)) w2 := ST1_imp hX (fun hw hA => ⟨hA.1, hA.2, fun g => by rw [← hw] at g; omega⟩)
          obtain ⟨tau9, T9, hWI9, hst9⟩ := hZ
          rcases hst9 with ⟨g1, g2⟩ | ⟨g1, g2⟩
          · exact fin _ _ ⟨tau9, T9, hWI9⟩ (by rw [g1, up_self]) (by rw [g1]; exact g2)
          · have nn := MS_nn hWI9
            exact ih (MSw n ps u w).toNat (by omega) _ _ ⟨tau9, T9, hWI9⟩ (Or.inl g2) (by rw [hms] at g1; omega)
        · refine G_aload_n dX6_ways_260 rfl ?_
          refine G_bipush (n := 20) dX6_ways_261 (by decide) ⟨by decide, by decide⟩ ?_
          refine G_aload_n dX6_ways_263 rfl ?_
          refine G_getR (jj := 42) dX6_ways_264 flX6_92 rfl rfl rfl ?_
          refine G_bipush (n := 21) dX6_ways_267 (by decide) ⟨by decide, by decide⟩ ?_
          refine G_iald dX6_ways_269 rfl (by omega) (by omega) ?_
          refine G_bipush (n := 21) dX6_ways_270 (by decide) ⟨by decide, by decide⟩ ?_
          refine G_iconst (n := (-1)) dX6_ways_272 ⟨by decide, by decide⟩ ?_
          refine G_cVv (ci := 6) dX6_ways_273 rfl (by decide) rfl (c_X6_offer l (d + 1) nu w2 20 (w2 55 21) 21 (-1) ⟨by omega, by omega⟩) mcX6_242 rfl rfl (by show _ ≤ d + 2; omega) rfl rfl (Nat.le_refl _) (Nat.le_refl _) ?_
          have hZ : ST1 m n k u v ps (up w 27 45 0) (AX v (up w 27 45 0) n m k n ∧ ((up w 27 45 0) 55 20 < 100000000 → (up w 27 45 0) 55 21 ≤ (up w 27 45 0) 55 20) ∧ ((up w 27 45 0) 55 21 < 100000000 → (up w 27 45 0) 55 20 ≤ (up w 27 45 0) 55 21)) (ofr w2 20 (w2 55 21) 21 (-1)) := by
            obtain ⟨tau, T, hWI, hst⟩ := id hX
            refine ST1_off hk.1 hC hu (A := (AX v (up w 27 45 0) n m k n ∧ ((up w 27 45 0) 55 20 < 100000000 → (up w 27 45 0) 55 21 ≤ (up w 27 45 0) 55 20)) ∧ w2 = up w 27 45 0) ⟨tau, T, hWI, hst.imp (fun g => ⟨g.1, g.2, g.1⟩) id⟩ (wt := 0) (Or.inr ⟨rfl, rfl, Or.inr (Or.inr (Or.inr ⟨rfl, rfl⟩))⟩) (by omega) (by omega) (fun hA hle => ⟨hA.1.1, hA.1.2, fun _ => ?_⟩)
            rw [← hA.2] at hle ⊢; exact hle
          rw [show (if w2 55 20 ≤ w2 55 21 then w2 else up (up (up (up w2 55 20 (w2 55 21)) 56 20 21) 57 20 (-1)) 27 45 1) = ofr w2 20 (w2 55 21) 21 (-1) from rfl]
          generalize ofr w2 20 (w2 55 21) 21 (-1) = w2 at hZ ⊢
          refine G_goto 44 dX6_ways_276 (by decide) ?_
          obtain ⟨tau9, T9, hWI9, hst9⟩ := hZ
          rcases hst9 with ⟨g1, g2⟩ | ⟨g1, g2⟩
          · exact fin _ _ ⟨tau9, T9, hWI9⟩ (by rw [g1, up_self]) (by rw [g1]; exact g2)
          · have nn := MS_nn hWI9
            exact ih (MSw n ps u w).toNat (by omega) _ _ ⟨tau9, T9, hWI9⟩ (Or.inl g2) (by rw [hms] at g1; omega)
    · exact fin w Z4 hW9 h45.1 h45.2
  have ini : ∀ (N : Nat) (x : Int) (w : VV), 0 ≤ x → x + N = 22 → fw v w → (∀ y : Int, 0 ≤ y → y < x → w 55 y = 100000000) → G l (yX6_ways, cX6_ways, none, 5, (d + 2), 0, 0, none) (fun r S2 w => r = none ∧ S2 = SG nu ∧ ∃ tau T, WI m n k u v ps tau T w ∧ WFA v w m n k) 0 0 (SG nu) 3 [some (ar (some 27)), some (ai u), some (ai k), some (ai (m : Int)), some (ai x)] [] w := by
    intro N
    induction N using Nat.strongRecOn with
    | ind N ih =>
    intro x w h0 h1 hf hp9
    refine G_iload dX6_ways_3 rfl ?_
    refine G_bipush (n := 22) dX6_ways_5 (by decide) ⟨by decide, by decide⟩ ?_
    refine G_icmp_ge 25 dX6_ways_7 (by decide) (fun h7 => ?_) (fun h7 => ?_)
    · refine G_aload_n dX6_ways_25 rfl ?_
      refine G_getR (jj := 42) dX6_ways_26 flX6_92 rfl rfl rfl ?_
      refine G_iload_n dX6_ways_29 rfl ?_
      refine G_iconst (n := 0) dX6_ways_30 ⟨by decide, by decide⟩ ?_
      refine G_iast dX6_ways_31 rfl (by omega) (by omega) ?_
      refine G_aload_n dX6_ways_32 rfl ?_
      refine G_getR (jj := 43) dX6_ways_33 flX6_95 rfl rfl rfl ?_
      refine G_iload_n dX6_ways_36 rfl ?_
      refine G_iconst (n := (-1)) dX6_ways_37 ⟨by decide, by decide⟩ ?_
      refine G_iast dX6_ways_38 rfl (by omega) (by omega) ?_
      refine G_aload_n dX6_ways_39 rfl ?_
      refine G_iconst (n := 1) dX6_ways_40 ⟨by decide, by decide⟩ ?_
      refine G_putZ (jj := 45) dX6_ways_41 flX6_232 rfl rfl rfl rfl (Or.inr rfl) ?_
      have hI := WI_0 (k := k) hC hu hf (fun y y0 y1 => hp9 y y0 (by omega))
      exact whl ((MSw n ps u (up (up (up w 55 u 0) 56 u (-1)) 27 45 1)).toNat + 1) _ _ ⟨_, _, hI⟩ (Or.inl (by rw [up_self])) (by omega)
    · refine G_aload_n dX6_ways_10 rfl ?_
      refine G_getR (jj := 42) dX6_ways_11 flX6_92 rfl rfl rfl ?_
      refine G_iload dX6_ways_14 rfl ?_
      refine G_ldc (n := 100000000) dX6_ways_16 (show Cond.constant RX6 218 (Int32.ofInt 100000000) ∈ lw_good by decide +kernel) ⟨by decide, by decide⟩ ?_
      refine G_iast dX6_ways_18 rfl (by omega) (by omega) ?_
      refine G_iinc dX6_ways_19 rfl (iRm (by omega) (by omega)) rfl rfl ?_
      refine G_goto 3 dX6_ways_22 (by decide) ?_
      exact ih (N - 1) (by omega) (x + 1) _ (by omega) (by omega) (fw_up hf (by decide) _ _) (fun y y0 y1 => by by_cases g : y = x; (rw [g, up_self]); (rw [up_nj g]; exact hp9 y y0 (by omega)))
  refine G_iconst (n := 0) dX6_ways_0 ⟨by decide, by decide⟩ ?_
  refine G_istore dX6_ways_1 rfl rfl ?_
  exact ini 22 0 v (by omega) (by omega) fw_rf (fun y y0 y1 => by omega)
