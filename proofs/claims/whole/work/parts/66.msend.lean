def fz (v w : VV) : Prop := (∀ k, k ∉ [27, 48, 50, 51, 52, 53, 54, 55, 56, 57] → w k = v k) ∧ ∀ j : Int, j ≠ 45 → w 27 j = v 27 j
theorem fz_rf {v : VV} : fz v v := ⟨fun _ _ => rfl, fun _ _ => rfl⟩
theorem fz_tr {a b c : VV} (h : fz a b) (h2 : fz b c) : fz a c := ⟨fun k hk => (h2.1 k hk).trans (h.1 k hk), fun j hj => (h2.2 j hj).trans (h.2 j hj)⟩
theorem fz_fr {ks : List Nat} {v w : VV} (h : fr ks v w) (hs : ∀ k ∈ ks, k ∈ [48, 50, 51, 52, 53, 54, 55, 56, 57]) : fz v w := by
  refine ⟨fun k hk => h k (fun z => hk (List.mem_cons_of_mem _ (hs k z))), fun j _ => ?_⟩
  rw [h 27 (fun z => by have := hs 27 z; revert this; decide)]
theorem fz_up {v w : VV} (h : fz v w) {k : Nat} (hk : k ∈ [48, 50, 51, 52, 53, 54, 55, 56, 57]) (j x : Int) : fz v (up w k j x) := fz_tr h (fz_fr (fr_up (ks := [k]) fr_rf (List.mem_singleton.mpr rfl) j x) (fun a ha => by rw [List.mem_singleton.mp ha]; exact hk))
theorem fz_fl {v w : VV} (h : fl v w) : fz v w := ⟨fun k hk => h.1 k (fun z => hk (by revert z; simp; omega)), h.2⟩
theorem fz_may {v w : VV} (h : fz v w) (u s : Int) : mayP w u s ↔ mayP v u s := by
  unfold mayP milesS rowP againP
  rw [h.2 35 (by decide), h.1 43 (by decide), h.1 37 (by decide), h.1 46 (by decide), h.1 36 (by decide), h.1 47 (by decide), h.1 34 (by decide), h.1 35 (by decide), h.1 44 (by decide), h.1 45 (by decide), h.1 29 (by decide), h.1 42 (by decide)]
theorem fz_cost {v w : VV} (h : fz v w) (u s : Int) : costS w u s = costS v u s := by
  unfold costS milesS
  rw [h.1 34 (by decide), h.1 35 (by decide), h.1 44 (by decide), h.1 45 (by decide), h.1 29 (by decide), h.1 41 (by decide)]
theorem fz_MBx {nu : Nat} {b : Int} {v w : VV} (hB : MBx nu b v) (h : fz v w) (hw : ∀ s : Int, 0 ≤ s → s < 2 * v 27 34 → -1 ≤ w 48 s ∧ w 48 s < nu) : MBx nu b w := by
  unfold MBx RB
  rw [h.2 33 (by decide), h.2 34 (by decide), h.2 35 (by decide), h.1 29 (by decide), h.1 34 (by decide), h.1 35 (by decide), h.1 36 (by decide), h.1 37 (by decide), h.1 41 (by decide), h.1 44 (by decide), h.1 45 (by decide), h.1 46 (by decide), h.1 47 (by decide)]
  exact ⟨hB.1, hB.2.1, hB.2.2.1, hB.2.2.2.1, hB.2.2.2.2.1, hB.2.2.2.2.2.1, hw⟩
theorem fz_MB {nu : Nat} {v w : VV} (hB : MB nu v) (h : fz v w) (hw : ∀ s : Int, 0 ≤ s → s < 2 * v 27 34 → -1 ≤ w 48 s ∧ w 48 s < nu) : MB nu w := by
  unfold MB
  rw [h.2 35 (by decide)]
  exact fz_MBx hB h hw
def CLs (m n : Nat) (v : VV) (s u : Int) (w : VV) : Prop := ∀ t x : Int, 0 ≤ t → t < m → 0 ≤ x → x < n → (t < s ∨ (t = s ∧ x < u)) → (mayP v x t ∧ Cl w t x = costS v x t) ∨ (¬ mayP v x t ∧ Cl w t x = 100000000)
theorem CLs_put {m n : Nat} {v w : VV} {s u c : Int} (hn : n ≤ 20) (u0 : 0 ≤ u) (u1 : u < n) (h : CLs m n v s u w) (hc : (mayP v u s ∧ c = costS v u s) ∨ (¬ mayP v u s ∧ c = 100000000)) : CLs m n v s (u + 1) (up w 52 (20 * s + u) c) := by
  intro t x t0 t1 x0 x1 g
  unfold Cl
  rw [up_get]
  by_cases y : t = s ∧ x = u
  · rw [if_pos ⟨rfl, by omega⟩, y.1, y.2]; exact hc
  · rw [if_neg (fun z => y (by omega))]
    exact h t x t0 t1 x0 x1 (by omega)
theorem CLs_fr {m n : Nat} {v w y : VV} {s u : Int} (h : CLs m n v s u w) (e : y 52 = w 52) : CLs m n v s u y := by
  unfold CLs Cl
  rw [e]
  exact h
theorem Val_iff {m n : Nat} {ok ok2 : Int → Int → Prop} (h : ∀ s u : Int, 0 ≤ s → s < m → 0 ≤ u → u < n → (ok s u ↔ ok2 s u)) {w : Int → Int} (hv : Val m n ok w) : Val m n ok2 w := by
  refine ⟨fun s s0 s1 => ?_, hv.2⟩
  rcases hv.1 s s0 s1 with g | g
  · exact Or.inl g
  · exact Or.inr ⟨g.1, (h s (w s) s0 s1 g.1.1 g.1.2).mp g.2⟩
theorem cE_iff {E : Int} {m n : Nat} {ok : Int → Int → Prop} {c c2 : Int → Int → Int} (hc : ∀ s u : Int, 0 ≤ s → s < m → 0 ≤ u → u < n → ok s u → c s u = c2 s u) {w : Int → Int} (hv : Val m n ok w) : cE E c w m = cE E c2 w m := by
  refine sg_congr m (fun s s0 s1 => ?_)
  show (if w s = -1 then E else c s (w s)) = (if w s = -1 then E else c2 s (w s))
  rcases hv.1 s s0 s1 with g | g
  · rw [if_pos g, if_pos g]
  · rw [hc s (w s) s0 s1 g.1.1 g.1.2 g.2]
theorem Opt_iff {E : Int} {m n : Nat} {ok ok2 : Int → Int → Prop} {c c2 : Int → Int → Int} (h : ∀ s u : Int, 0 ≤ s → s < m → 0 ≤ u → u < n → (ok s u ↔ ok2 s u)) (hc : ∀ s u : Int, 0 ≤ s → s < m → 0 ≤ u → u < n → ok s u → c s u = c2 s u) {w : Int → Int} (ho : Opt E m n ok c w) : Opt E m n ok2 c2 w := by
  refine ⟨Val_iff h ho.1, fun b hb => ?_⟩
  have hb2 : Val m n ok b := Val_iff (fun s u a1 a2 a3 a4 => (h s u a1 a2 a3 a4).symm) hb
  rw [← cE_iff hc ho.1, ← cE_iff hc hb2]
  exact ho.2 b hb2
theorem Lex_iff {E : Int} {m n : Nat} {ok ok2 : Int → Int → Prop} {c c2 : Int → Int → Int} (h : ∀ s u : Int, 0 ≤ s → s < m → 0 ≤ u → u < n → (ok s u ↔ ok2 s u)) (hc : ∀ s u : Int, 0 ≤ s → s < m → 0 ≤ u → u < n → ok s u → c s u = c2 s u) {w : Int → Int} (hl : Lex E m n ok c w) : Lex E m n ok2 c2 w :=
  ⟨Opt_iff h hc hl.1, fun s s0 s1 b hb ht hs => hl.2 s s0 s1 b (Opt_iff (fun s u a1 a2 a3 a4 => (h s u a1 a2 a3 a4).symm) (fun s u a1 a2 a3 a4 a5 => (hc s u a1 a2 a3 a4 ((h s u a1 a2 a3 a4).mpr a5)).symm) hb) ht hs⟩
theorem P1_fr {m n : Nat} {k : Int} {v w : VV} {ph : Int → Int} (h : P1 m n k v ph) (h27 : w 27 33 = v 27 33) (h48 : w 48 = v 48) (h52 : w 52 = v 52) (h53 : w 53 = v 53) : P1 m n k w ph := by
  unfold P1 ML WH py hp py Cl at h ⊢
  rw [h27, h48, h52, h53]
  exact h
theorem WC_54 {m n : Nat} {k : Int} {v : VV} {ph ps : Int → Int} (h : WC m n k v ph ps) (k0 : 0 ≤ k) : WC m n (k + 1) (up v 54 k 1) ph ps := by
  obtain ⟨h1, h2, h3, h4, h5⟩ := h
  refine ⟨h1, h2, fun s s0 s1 => ?_, h4, h5⟩
  by_cases y : s = k
  · rw [y, up_self, if_pos (by omega)]
  · rw [up_nj y, h3 s s0 s1]
    by_cases z : s < k
    · rw [if_pos z, if_pos (by omega)]
    · rw [if_neg z, if_neg (by omega)]
/-- the SEATS ahead of k have who they shall have -/
def LXk (m n : Nat) (k : Int) (w : VV) : Prop := ∀ s : Int, 0 ≤ s → s < k → ∀ b, Opt 1000000 m n (fun s u => Cl w s u ≠ 100000000) (Cl w) b → (∀ t : Int, 0 ≤ t → t < s → b t = w 48 t) → b s ≠ -1 → w 48 s ≠ -1 ∧ w 48 s ≤ b s
theorem LXk_54 {m n : Nat} {k : Int} {v : VV} (h : LXk m n k v) {j x : Int} : LXk m n k (up v 54 j x) := by
  have e : Cl (up v 54 j x) = Cl v := by funext s u; unfold Cl; rw [up_ne (by decide)]
  unfold LXk
  rw [e, show up v 54 j x 48 = v 48 from up_ne (by decide)]
  exact h
theorem LXk_next {m n : Nat} {k : Int} {v w : VV} {ph ps : Int → Int} (h : LXk m n k v) (hL : LSP m n k v ph ps w) : LXk m n (k + 1) w := by
  obtain ⟨h1, -, h3, h4⟩ := hL
  have eC : Cl w = Cl v := by funext s u; unfold Cl; rw [h1.1 52 (by decide)]
  intro s s0 s1 b hb hab hs
  rw [eC] at hb
  by_cases y : s = k
  · subst y
    exact h4 b hb (fun t t0 t1 => by rw [hab t t0 t1, h3 t t0 t1]) hs
  · rw [h3 s s0 (by omega)]
    exact h s s0 (by omega) b hb (fun t t0 t1 => by rw [hab t t0 t1, h3 t t0 (by omega)]) hs
set_option maxRecDepth 20000 in
set_option maxHeartbeats 1000000 in
theorem c_X6_settle (l : Launch) (d nu : Nat) (v : VV) (m : Nat) (hB : MB nu v) (hm0 : (m : Int) = 2 * v 27 34) : Ct l yX6_settle cX6_settle none 4 (d + 4) 0 0 [ar (some 27)] (SG nu) v (fun r S2 w => r = none ∧ S2 = SG nu ∧ fz v w ∧ Lex 1000000 m nu (fun s u => mayP v u s) (fun s u => costS v u s) (w 48)) := by
  refine Ct_of_G [some (ar (some 27)), none, none, none] (by decide) rfl rfl ?_
  have hn20 := hB.1.1
  have hg8 := hB.2.1
  have lD : ∀ (ph ps : Int → Int) (N : Nat) (s : Int) (w : VV) (Z3 : Option AV), 0 ≤ s → s + N = m → fz v w → (∀ s u : Int, 0 ≤ s → s < m → 0 ≤ u → u < nu → (mayP v u s ∧ Cl w s u = costS v u s) ∨ (¬ mayP v u s ∧ Cl w s u = 100000000)) → WC m nu s w ph ps → LXk m nu s w → G l (yX6_settle, cX6_settle, none, 4, (d + 4), 0, 0, none) (fun r S2 w => r = none ∧ S2 = SG nu ∧ fz v w ∧ Lex 1000000 m nu (fun s u => mayP v u s) (fun s u => costS v u s) (w 48)) 0 0 (SG nu) 136 [some (ar (some 27)), some (ai (m : Int)), some (ai s), Z3] [] w := by
    intro ph ps N
    induction N using Nat.strongRecOn with
    | ind N ih =>
    intro s w Z3 h0 h1 hfz hcl hC hLX
    refine G_iload_n dX6_settle_136 rfl ?_
    refine G_iload_n dX6_settle_137 rfl ?_
    refine G_icmp_ge 160 dX6_settle_138 (by decide) (fun h138 => ?_) (fun h138 => ?_)
    · exact G_vret dX6_settle_160 rfl rfl rfl ⟨rfl, rfl, hfz, Lex_iff (fun s u s0 s1 u0 u1 => by
          rcases hcl s u s0 s1 u0 u1 with g | g
          · have := MB.cost hB (u := u) (s := s) ⟨u0, u1⟩ ⟨s0, by omega⟩
            exact ⟨fun _ => g.1, fun _ => by rw [g.2]; omega⟩
          · exact ⟨fun z => absurd g.2 z, fun z => absurd z g.1⟩) (fun s u s0 s1 u0 u1 hok => by
          rcases hcl s u s0 s1 u0 u1 with g | g
          · exact g.2
          · exact absurd g.2 hok) ⟨MC_opt hC.2.2.2.1, fun s s0 s1 b hb hab hs => hLX s s0 (by omega) b hb hab hs⟩⟩
    · refine G_aload_n dX6_settle_141 rfl ?_
      refine G_iload_n dX6_settle_142 rfl ?_
      refine G_iload_n dX6_settle_143 rfl ?_
      refine G_cVq (ci := 6) dX6_settle_144 rfl (by decide) rfl (c_X6_lessen l (d + 0) nu w m nu s ph ps ⟨h0, by omega⟩ hC) mcX6_228 rfl rfl (by show _ ≤ d + 4; omega) rfl rfl (Nat.le_refl _) (Nat.le_refl _) (fun r S2 y hq9 => ?_)
      obtain ⟨rfl, rfl, hL⟩ := hq9
      refine G_aload_n dX6_settle_147 rfl ?_
      refine G_getR (jj := 41) dX6_settle_148 flX6_89 rfl rfl rfl ?_
      refine G_iload_n dX6_settle_151 rfl ?_
      refine G_iconst (n := 1) dX6_settle_152 ⟨by decide, by decide⟩ ?_
      refine G_zast dX6_settle_153 rfl (by omega) (by omega) (Or.inr rfl) ?_
      refine G_iinc dX6_settle_154 rfl (iRm (by omega) (by omega)) rfl rfl ?_
      refine G_goto 136 dX6_settle_157 (by decide) ?_
      have e52 : up y 54 s 1 52 = w 52 := by rw [up_ne (by decide), hL.1.1 52 (by decide)]
      refine ih (N - 1) (by omega) (s + 1) _ _ (by omega) (by omega) (fz_up (fz_tr hfz (fz_fl hL.1)) (by decide) _ _) (fun t u a1 a2 a3 a4 => ?_) (WC_54 hL.2.1 h0) (show LXk m nu (s + 1) (up y 54 s 1) from LXk_54 (LXk_next hLX hL))
      have := hcl t u a1 a2 a3 a4
      unfold Cl at this ⊢
      rw [e52]; exact this
  have lC : ∀ (N : Nat) (s : Int) (ph : Int → Int) (w : VV) (Z3 : Option AV), 0 ≤ s → s + N = m → fz v w → (∀ s u : Int, 0 ≤ s → s < m → 0 ≤ u → u < nu → (mayP v u s ∧ Cl w s u = costS v u s) ∨ (¬ mayP v u s ∧ Cl w s u = 100000000)) → P1 m nu s w ph → (∀ t : Int, 0 ≤ t → t < m → w 54 t = if t < s then 0 else 1) → G l (yX6_settle, cX6_settle, none, 4, (d + 4), 0, 0, none) (fun r S2 w => r = none ∧ S2 = SG nu ∧ fz v w ∧ Lex 1000000 m nu (fun s u => mayP v u s) (fun s u => costS v u s) (w 48)) 0 0 (SG nu) 106 [some (ar (some 27)), some (ai (m : Int)), some (ai s), Z3] [] w := by
    intro N
    induction N using Nat.strongRecOn with
    | ind N ih =>
    intro s ph w Z3 h0 h1 hfz hcl hP hx
    refine G_iload_n dX6_settle_106 rfl ?_
    refine G_iload_n dX6_settle_107 rfl ?_
    refine G_icmp_ge 134 dX6_settle_108 (by decide) (fun h108 => ?_) (fun h108 => ?_)
    · refine G_iconst (n := 0) dX6_settle_134 ⟨by decide, by decide⟩ ?_
      refine G_istore_n dX6_settle_135 rfl rfl ?_
      obtain rfl : s = m := by omega
      obtain ⟨hMC, hps⟩ := P1_MC hP
      exact lD ph (psi w ph) m 0 w _ (by omega) (by omega) hfz hcl ⟨hP.1, hP.2.1, fun t t0 t1 => by rw [hx t t0 t1, if_pos (by omega), if_neg (by omega)], hMC, hps⟩ (fun t t0 t1 => by omega)
    · refine G_aload_n dX6_settle_111 rfl ?_
      refine G_getR (jj := 41) dX6_settle_112 flX6_89 rfl rfl rfl ?_
      refine G_iload_n dX6_settle_115 rfl ?_
      refine G_iconst (n := 0) dX6_settle_116 ⟨by decide, by decide⟩ ?_
      refine G_zast dX6_settle_117 rfl (by omega) (by omega) (Or.inl rfl) ?_
      have hP1 : P1 m nu s (up w 54 s 0) ph := P1_fr hP rfl (up_ne (by decide)) (up_ne (by decide)) (up_ne (by decide))
      have hF1 : FX1 m (s + 1) (up w 54 s 0) := fun t t0 t1 => ⟨by
        by_cases y : t = s
        · rw [y, up_self, if_pos (by omega)]
        · rw [up_nj y, hx t t0 t1]
          by_cases z : t < s
          · rw [if_pos z, if_pos (by omega)]
          · rw [if_neg z, if_neg (by omega)], fun g => hP1.2.2.1 t (by omega) t1⟩
      refine G_aload_n dX6_settle_118 rfl ?_
      refine G_iload_n dX6_settle_119 rfl ?_
      refine G_cVq (ci := 6) dX6_settle_120 rfl (by decide) rfl (c_X6_seek l (d + 2) nu (up w 54 s 0) m nu (s + 1) (by omega) _ hP1.1 hP1.2.1 hF1 (P1_PHI hP1 h0 (by omega))) mcX6_222 rfl rfl (by show _ ≤ d + 4; omega) rfl rfl (Nat.le_refl _) (Nat.le_refl _) (fun r S2 y hq9 => ?_)
      obtain ⟨rfl, rfl, tau, T, hT, hSI, hRE⟩ := hq9
      obtain ⟨rank, hTK, hCH⟩ := seek_TK hP1 h0 (by omega) hT hSI hRE
      refine G_aload_n dX6_settle_123 rfl ?_
      refine G_iload_n dX6_settle_124 rfl ?_
      refine G_cVq (ci := 6) dX6_settle_125 rfl (by decide) rfl (c_X6_change l (d + 3) nu y m nu ⟨hP.1.2.2.1, hP.1.2.1⟩ (s + 1) s (by omega) rank hTK hCH) mcX6_225 rfl rfl (by show _ ≤ d + 4; omega) rfl rfl (Nat.le_refl _) (Nat.le_refl _) (fun r S2 y2 hq9 => ?_)
      obtain ⟨rfl, rfl, hCP⟩ := hq9
      have hP2 := P1_next hP1 h0 (by omega) hSI hRE hCP
      refine G_iinc dX6_settle_128 rfl (iRm (by omega) (by omega)) rfl rfl ?_
      refine G_goto 106 dX6_settle_131 (by decide) ?_
      have e52 : y2 52 = w 52 := by rw [hCP.1 52 (by decide), hSI.1 52 (by decide), up_ne (by decide)]
      refine ih (N - 1) (by omega) (s + 1) (y 50) y2 _ (by omega) (by omega) (fz_tr (fz_tr (fz_up hfz (by decide) _ _) (fz_fr hSI.1 (by decide))) (fz_fr hCP.1 (by decide))) (fun t u a1 a2 a3 a4 => ?_) hP2 (fun t t0 t1 => ?_)
      · have := hcl t u a1 a2 a3 a4
        unfold Cl at this ⊢
        rw [e52]; exact this
      · rw [hCP.1 54 (by decide), hSI.1 54 (by decide)]; exact (hF1 t t0 t1).1
  have lB : ∀ (N : Nat) (x : Int) (w : VV) (Z3 : Option AV), 0 ≤ x → x + N = nu → fz v w → (∀ s u : Int, 0 ≤ s → s < m → 0 ≤ u → u < nu → (mayP v u s ∧ Cl w s u = costS v u s) ∨ (¬ mayP v u s ∧ Cl w s u = 100000000)) → (∀ t : Int, 0 ≤ t → t < m → w 48 t = -1 ∧ w 54 t = 1) → (∀ c : Int, 0 ≤ c → c < x → w 53 c = -1) → G l (yX6_settle, cX6_settle, none, 4, (d + 4), 0, 0, none) (fun r S2 w => r = none ∧ S2 = SG nu ∧ fz v w ∧ Lex 1000000 m nu (fun s u => mayP v u s) (fun s u => costS v u s) (w 48)) 0 0 (SG nu) 83 [some (ar (some 27)), some (ai (m : Int)), some (ai x), Z3] [] w := by
    intro N
    induction N using Nat.strongRecOn with
    | ind N ih =>
    intro x w Z3 h0 h1 hfz hcl hx hp9
    have e33 : w 27 33 = nu := by rw [hfz.2 33 (by decide)]; exact hB.1.2
    refine G_iload_n dX6_settle_83 rfl ?_
    refine G_aload_n dX6_settle_84 rfl ?_
    refine G_getIv ((nu : Int)) (jj := 33) dX6_settle_85 flX6_181 rfl rfl rfl e33 ?_
    refine G_icmp_ge 104 dX6_settle_88 (by decide) (fun h88 => ?_) (fun h88 => ?_)
    · refine G_iconst (n := 0) dX6_settle_104 ⟨by decide, by decide⟩ ?_
      refine G_istore_n dX6_settle_105 rfl rfl ?_
      refine lC m 0 (fun _ => 0) w _ (by omega) (by omega) hfz hcl ⟨⟨e33, hB.1.1, by omega, fun t u a1 a2 a3 a4 => ?_⟩, ⟨fun t t0 t1 => Or.inl (hx t t0 t1).1, fun u u0 u1 => Or.inl (hp9 u u0 (by omega))⟩, fun t t0 t1 => (hx t t0 t1).1, fun t t0 t1 => by omega, fun t u a1 a2 => by omega⟩ (fun t t0 t1 => by rw [(hx t t0 t1).2, if_neg (by omega)])
      rcases hcl t u a1 a2 a3 a4 with g | g
      · have := MB.cost hB (u := u) (s := t) ⟨a3, a4⟩ ⟨a1, by omega⟩
        rw [g.2]; exact Or.inr this
      · exact Or.inl g.2
    · refine G_aload_n dX6_settle_91 rfl ?_
      refine G_getR (jj := 40) dX6_settle_92 flX6_86 rfl rfl rfl ?_
      refine G_iload_n dX6_settle_95 rfl ?_
      refine G_iconst (n := (-1)) dX6_settle_96 ⟨by decide, by decide⟩ ?_
      refine G_iast dX6_settle_97 rfl (by omega) (by omega) ?_
      refine G_iinc dX6_settle_98 rfl (iRm (by omega) (by omega)) rfl rfl ?_
      refine G_goto 83 dX6_settle_101 (by decide) ?_
      exact ih (N - 1) (by omega) (x + 1) _ _ (by omega) (by omega) (fz_up hfz (by decide) _ _) (fun t u a1 a2 a3 a4 => hcl t u a1 a2 a3 a4) (fun t t0 t1 => hx t t0 t1) (fun c c0 c1 => by by_cases g : c = x; (rw [g, up_self]); (rw [up_nj g]; exact hp9 c c0 (by omega)))
  have lI : ∀ (s : Int), 0 ≤ s → s < m → ∀ (N : Nat) (u : Int) (w : VV), 0 ≤ u → u + N = nu → fz v w → (∀ t : Int, 0 ≤ t → t < s + 1 → w 48 t = -1 ∧ w 54 t = 1) → (∀ t : Int, s + 1 ≤ t → w 48 t = v 48 t) → CLs m nu v s u w → (∀ w2 : VV, fz v w2 → (∀ t : Int, 0 ≤ t → t < s + 1 → w2 48 t = -1 ∧ w2 54 t = 1) → (∀ t : Int, s + 1 ≤ t → w2 48 t = v 48 t) → CLs m nu v s nu w2 → G l (yX6_settle, cX6_settle, none, 4, (d + 4), 0, 0, none) (fun r S2 w => r = none ∧ S2 = SG nu ∧ fz v w ∧ Lex 1000000 m nu (fun s u => mayP v u s) (fun s u => costS v u s) (w 48)) 0 0 (SG nu) 75 [some (ar (some 27)), some (ai (m : Int)), some (ai s), some (ai (nu : Int))] [] w2) → G l (yX6_settle, cX6_settle, none, 4, (d + 4), 0, 0, none) (fun r S2 w => r = none ∧ S2 = SG nu ∧ fz v w ∧ Lex 1000000 m nu (fun s u => mayP v u s) (fun s u => costS v u s) (w 48)) 0 0 (SG nu) 30 [some (ar (some 27)), some (ai (m : Int)), some (ai s), some (ai u)] [] w := by
    intro s s0 s1 N
    induction N using Nat.strongRecOn with
    | ind N ih =>
    intro u w h0 h1 hfz hx hx2 hcl K
    have e33 : w 27 33 = nu := by rw [hfz.2 33 (by decide)]; exact hB.1.2
    have e34 : w 27 34 = v 27 34 := hfz.2 34 (by decide)
    have hBw : MB nu w := fz_MB hB hfz (fun t t0 t1 => by
      by_cases g : t < s + 1
      · rw [(hx t t0 g).1]; omega
      · rw [hx2 t (by omega)]; exact hB.2.2.2.2.2.2 t t0 t1)
    refine G_iload_n dX6_settle_30 rfl ?_
    refine G_aload_n dX6_settle_31 rfl ?_
    refine G_getIv ((nu : Int)) (jj := 33) dX6_settle_32 flX6_181 rfl rfl rfl e33 ?_
    refine G_icmp_ge 75 dX6_settle_35 (by decide) (fun h35 => ?_) (fun h35 => ?_)
    · obtain rfl : u = nu := by omega
      exact K w hfz hx hx2 hcl
    · refine G_aload_n dX6_settle_38 rfl ?_
      refine G_getR (jj := 39) dX6_settle_39 flX6_83 rfl rfl rfl ?_
      refine G_bipush (n := 20) dX6_settle_42 (by decide) ⟨by decide, by decide⟩ ?_
      refine G_iload_n dX6_settle_44 rfl ?_
      refine G_imul dX6_settle_45 (iRm (by omega) (by omega)) ?_
      refine G_iload_n dX6_settle_46 rfl ?_
      refine G_iadd dX6_settle_47 (iRm (by omega) (by omega)) ?_
      refine G_aload_n dX6_settle_48 rfl ?_
      refine G_iload_n dX6_settle_49 rfl ?_
      refine G_iload_n dX6_settle_50 rfl ?_
      refine G_cVi (ci := 6) dX6_settle_51 rfl (by decide) rfl (c_X6_mayHave l (d + 1) nu w hBw u s ⟨h0, by omega⟩ ⟨s0, by omega⟩) mcX6_210 rfl rfl (by show _ ≤ d + 4; omega) rfl rfl (Nat.le_refl _) (Nat.le_refl _) ?_
      refine G_if_eq 66 dX6_settle_54 (by decide) (fun h54 => ?_) (fun h54 => ?_)
      · have hno : ¬ mayP v u s := fun q => bP_0.mp h54 ((fz_may hfz u s).mpr q)
        refine G_ldc (n := 100000000) dX6_settle_66 (show Cond.constant RX6 218 (Int32.ofInt 100000000) ∈ lw_good by decide +kernel) ⟨by decide, by decide⟩ ?_
        refine G_iast dX6_settle_68 rfl (by omega) (by omega) ?_
        refine G_iinc dX6_settle_69 rfl (iRm (by omega) (by omega)) rfl rfl ?_
        refine G_goto 30 dX6_settle_72 (by decide) ?_
        exact ih (N - 1) (by omega) (u + 1) _ (by omega) (by omega) (fz_up hfz (by decide) _ _) (fun t t0 t1 => hx t t0 t1) (fun t t0 => hx2 t t0) (CLs_put hB.1.1 h0 (by omega) hcl (Or.inr ⟨hno, rfl⟩)) K
      · have hyes : mayP v u s := (fz_may hfz u s).mp (bP_1.mp (by rcases bP_01 (mayP w u s) with q | q; exact absurd q h54; exact q))
        refine G_aload_n dX6_settle_57 rfl ?_
        refine G_iload_n dX6_settle_58 rfl ?_
        refine G_iload_n dX6_settle_59 rfl ?_
        refine G_cVi (ci := 6) dX6_settle_60 rfl (by decide) rfl (c_X6_costOf l (d + 1) nu w hBw u s ⟨h0, by omega⟩ ⟨s0, by omega⟩) mcX6_214 rfl rfl (by show _ ≤ d + 4; omega) rfl rfl (Nat.le_refl _) (Nat.le_refl _) ?_
        rw [fz_cost hfz]
        refine G_goto 68 dX6_settle_63 (by decide) ?_
        refine G_iast dX6_settle_68 rfl (by omega) (by omega) ?_
        refine G_iinc dX6_settle_69 rfl (iRm (by omega) (by omega)) rfl rfl ?_
        refine G_goto 30 dX6_settle_72 (by decide) ?_
        exact ih (N - 1) (by omega) (u + 1) _ (by omega) (by omega) (fz_up hfz (by decide) _ _) (fun t t0 t1 => hx t t0 t1) (fun t t0 => hx2 t t0) (CLs_put hB.1.1 h0 (by omega) hcl (Or.inl ⟨hyes, rfl⟩)) K
  have lA : ∀ (N : Nat) (s : Int) (w : VV) (Z3 : Option AV), 0 ≤ s → s + N = m → fz v w → (∀ t : Int, 0 ≤ t → t < s → w 48 t = -1 ∧ w 54 t = 1) → (∀ t : Int, s ≤ t → w 48 t = v 48 t) → CLs m nu v s 0 w → G l (yX6_settle, cX6_settle, none, 4, (d + 4), 0, 0, none) (fun r S2 w => r = none ∧ S2 = SG nu ∧ fz v w ∧ Lex 1000000 m nu (fun s u => mayP v u s) (fun s u => costS v u s) (w 48)) 0 0 (SG nu) 9 [some (ar (some 27)), some (ai (m : Int)), some (ai s), Z3] [] w := by
    intro N
    induction N using Nat.strongRecOn with
    | ind N ih =>
    intro s w Z3 h0 h1 hfz hx hx2 hcl
    refine G_iload_n dX6_settle_9 rfl ?_
    refine G_iload_n dX6_settle_10 rfl ?_
    refine G_icmp_ge 81 dX6_settle_11 (by decide) (fun h11 => ?_) (fun h11 => ?_)
    · refine G_iconst (n := 0) dX6_settle_81 ⟨by decide, by decide⟩ ?_
      refine G_istore_n dX6_settle_82 rfl rfl ?_
      obtain rfl : s = m := by omega
      exact lB nu 0 w _ (by omega) (by omega) hfz (fun t u a1 a2 a3 a4 => hcl t u a1 a2 a3 a4 (by omega)) hx (fun c c0 c1 => by omega)
    · refine G_aload_n dX6_settle_14 rfl ?_
      refine G_getR (jj := 31) dX6_settle_15 flX6_71 rfl rfl rfl ?_
      refine G_iload_n dX6_settle_18 rfl ?_
      refine G_iconst (n := (-1)) dX6_settle_19 ⟨by decide, by decide⟩ ?_
      refine G_iast dX6_settle_20 rfl (by omega) (by omega) ?_
      refine G_aload_n dX6_settle_21 rfl ?_
      refine G_getR (jj := 41) dX6_settle_22 flX6_89 rfl rfl rfl ?_
      refine G_iload_n dX6_settle_25 rfl ?_
      refine G_iconst (n := 1) dX6_settle_26 ⟨by decide, by decide⟩ ?_
      refine G_zast dX6_settle_27 rfl (by omega) (by omega) (Or.inr rfl) ?_
      refine G_iconst (n := 0) dX6_settle_28 ⟨by decide, by decide⟩ ?_
      refine G_istore_n dX6_settle_29 rfl rfl ?_
      refine lI s h0 (by omega) nu 0 _ (by omega) (by omega) (fz_up (fz_up hfz (by decide) _ _) (by decide) _ _) (fun t t0 t1 => ?_) (fun t t0 => ?_) (CLs_fr hcl rfl) (fun w2 a1 a2 a3 a4 => ?_)
      · by_cases y : t = s
        · subst y; rw [up_self, up_c (show 48 ≠ 54 by decide), up_self]; exact ⟨rfl, rfl⟩
        · rw [up_c (show 48 ≠ 54 by decide), up_nj y, up_nj y, up_c (show 54 ≠ 48 by decide)]; exact hx t t0 (by omega)
      · rw [up_c (show 48 ≠ 54 by decide), up_nj (by omega)]; exact hx2 t (by omega)
      refine G_iinc dX6_settle_75 rfl (iRm (by omega) (by omega)) rfl rfl ?_
      refine G_goto 9 dX6_settle_78 (by decide) ?_
      exact ih (N - 1) (by omega) (s + 1) w2 _ (by omega) (by omega) a1 a2 a3 (fun t x t0 t1 x0 x1 g => a4 t x t0 t1 x0 x1 (by omega))
  refine G_iconst (n := 2) dX6_settle_0 ⟨by decide, by decide⟩ ?_
  refine G_aload_n dX6_settle_1 rfl ?_
  refine G_getI (jj := 34) dX6_settle_2 flX6_184 rfl rfl rfl ?_
  
  refine G_imul dX6_settle_5 (iRm (by omega) (by omega)) ?_
  rw [← hm0]
  refine G_istore_n dX6_settle_6 rfl rfl ?_
  refine G_iconst (n := 0) dX6_settle_7 ⟨by decide, by decide⟩ ?_
  refine G_istore_n dX6_settle_8 rfl rfl ?_
  exact lA m 0 v none (by omega) (by omega) fz_rf (fun t t0 t1 => by omega) (fun _ _ => rfl) (fun t x t0 t1 x0 x1 g => by omega)
set_option maxRecDepth 20000 in
set_option maxHeartbeats 1000000 in
theorem c_X6_send (l : Launch) (d nu : Nat) (v : VV) (w : VV) (hw : up v 27 0 0 = w) (hB : MB nu w) (m : Nat) (hm0 : (m : Int) = 2 * w 27 34) (hk : 0 ≤ w 27 36) : Ct l yX6_send cX6_send (some .int) 1 (d + 5) 0 0 [ar (some 27)] (SG nu) v (fun r S2 v2 => ∃ x, r = some (ai x) ∧ S2 = SG nu ∧ ((w 27 36 ≠ 0 ∧ x = -1 ∧ v2 = w) ∨ (w 27 36 = 0 ∧ fz w v2 ∧ Lex 1000000 m nu (fun s u => mayP w u s) (fun s u => costS w u s) (v2 48) ∧ x = filledS v2))) := by
  refine Ct_of_G [some (ar (some 27))] (by decide) rfl rfl ?_
  refine G_aload_n dX6_send_0 rfl ?_
  refine G_iconst (n := 0) dX6_send_1 ⟨by decide, by decide⟩ ?_
  refine G_putI (jj := 0) dX6_send_2 flX6_101 rfl rfl rfl rfl ?_
  rw [hw]
  refine G_aload_n dX6_send_5 rfl ?_
  refine G_getI (jj := 36) dX6_send_6 flX6_250 rfl rfl rfl ?_
  refine G_if_le 14 dX6_send_9 (by decide) (fun h9 => ?_) (fun h9 => ?_)
  · refine G_aload_n dX6_send_14 rfl ?_
    refine G_cVq (ci := 6) dX6_send_15 rfl (by decide) rfl (c_X6_settle l (d + 0) nu w m hB hm0) mcX6_253 rfl rfl (by show _ ≤ d + 5; omega) rfl rfl (Nat.le_refl _) (Nat.le_refl _) (fun r S2 y hq9 => ?_)
    obtain ⟨rfl, rfl, hfz, hlx⟩ := hq9
    refine G_aload_n dX6_send_18 rfl ?_
    refine G_cVi (ci := 6) dX6_send_19 rfl (by decide) rfl (c_X6_filled l (d + 4) nu y (by rw [hfz.2 34 (by decide)]; exact hB.2.1)) mcX6_256 rfl rfl (by show _ ≤ d + 5; omega) rfl rfl (Nat.le_refl _) (Nat.le_refl _) ?_
    exact G_iret dX6_send_22 rfl rfl rfl ⟨_, rfl, rfl, Or.inr ⟨by omega, hfz, hlx, rfl⟩⟩
  · refine G_iconst (n := (-1)) dX6_send_12 ⟨by decide, by decide⟩ ?_
    exact G_iret dX6_send_13 rfl rfl rfl ⟨_, rfl, rfl, Or.inl ⟨by omega, rfl, rfl⟩⟩
