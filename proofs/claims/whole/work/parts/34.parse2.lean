-- go()
set_option maxRecDepth 20000 in
set_option maxHeartbeats 1000000 in
theorem c_X6_go (l : Launch) (d nu : Nat) (v : VV) (hs : 0 ≤ v 27 8 ∧ v 27 8 ≤ 180) (hi : 0 ≤ v 27 9 ∧ v 27 9 ≤ v 27 8) (ht : ∀ i, 0 ≤ v 28 i ∧ v 28 i ≤ 255) : Ct l yX6_go cX6_go none 5 (d + 2) 0 0 [ar (some 27)] (SG nu) v (fun r S2 v2 => r = none ∧ S2 = SG nu ∧ GoK v v2 ∧ GoP (v 28) (v 27 8) (v 27 9) (v2 27 11) (v2 27 10) (v2 27 9) (v2 27 16) (v2 27 12)) := by
  refine Ct_of_G [some (ar (some 27)), none, none, none, none] (by decide) rfl rfl ?_
  have loopT : ∀ (N : Nat) (p q gd : Int) (w : VV) (Z : Option AV), q + N = v 27 8 → SKP (v 28) (v 27 8) (v 27 9) p → p < v 27 8 → ¬ (160 < v 27 8 ∧ 160 ≤ p) → p ≤ q → (isL (v 28 p) ∨ isD (v 28 p)) → (∀ j, p ≤ j → j < q → isL (v 28 j) ∨ isD (v 28 j)) → (gd = 0 ∨ gd = 1) → (gd = 1 ↔ GOOD (v 28) p q) → GoK v w → w 27 9 = q → w 27 10 = p → w 27 16 = (if q - p ≤ 6 then hrn (v 28) p (q - p).toNat else -1) → w 27 12 = hr10 (v 28) p (if q - p ≤ 3 then (q - p).toNat else 3) → G l (yX6_go, cX6_go, none, 5, (d + 2), 0, 0, none) (fun r S2 v2 => r = none ∧ S2 = SG nu ∧ GoK v v2 ∧ GoP (v 28) (v 27 8) (v 27 9) (v2 27 11) (v2 27 10) (v2 27 9) (v2 27 16) (v2 27 12)) 0 0 (SG nu) 177 [some (ar (some 27)), some (ai (v 28 p)), some (ai (if 97 ≤ v 28 p ∧ v 28 p ≤ 122 then 1 else 0)), some (ai gd), Z] [] w := by
    intro N
    induction N using Nat.strongRecOn with
    | ind N ih =>
    intro p q gd w Z h1 hsk hpn h160 hpq hld hall hgd hgood hw h9 h10 h16 h12
    have w28 : w 28 = v 28 := hw.1 28 (by decide)
    have w8 : w 27 8 = v 27 8 := hw.2 8 (by decide) (by decide) (by decide) (by decide) (by decide)
    have hp0 : 0 ≤ p := by have := hsk.1; omega
    have hB := hrn_bd (v 28) p ht (q - p).toNat
    have hB10 := hr10_bd (v 28) p ht
    refine G_aload_n dX6_go_177 rfl ?_
    refine G_aload_n dX6_go_178 rfl ?_
    refine G_getIv (q) (jj := 9) dX6_go_179 flX6_115 rfl rfl rfl (by simp [up_get, h9]) ?_
    refine G_cVi (ci := 6) dX6_go_182 rfl (by decide) rfl (c_X6_byteAt l (d + 1) nu w q (by omega) (by omega)) mcX6_138 rfl rfl (by show _ ≤ d + 2; omega) rfl rfl (Nat.le_refl _) (Nat.le_refl _) ?_
    rw [w8, w28]
    refine G_cSi dX6_go_185 (c_X6_isLetter l (d + 1) nu w (if q < v 27 8 then v 28 q else 0)) mcX6_124 rfl rfl (by show _ ≤ d + 2; omega) rfl rfl (Nat.le_refl _) (Nat.le_refl _) ?_
    refine G_if_ne 205 dX6_go_188 (by decide) (fun h188 => ?_) (fun h188 => ?_)
    · have hqn : q < v 27 8 := by omega
      have hqld : isL (v 28 q) ∨ isD (v 28 q) := by unfold isL isD; omega
      have htq := ht q
      have hall2 : ∀ j, p ≤ j → j < q + 1 → isL (v 28 j) ∨ isD (v 28 j) := fun j j1 j2 => by by_cases e : j = q; rw [e]; exact hqld; exact hall j j1 (by omega)
      have K : ∀ g2 : Int, (g2 = 0 ∨ g2 = 1) → (g2 = 1 ↔ GOOD (v 28) p (q + 1)) → G l (yX6_go, cX6_go, none, 5, (d + 2), 0, 0, none) (fun r S2 v2 => r = none ∧ S2 = SG nu ∧ GoK v v2 ∧ GoP (v 28) (v 27 8) (v 27 9) (v2 27 11) (v2 27 10) (v2 27 9) (v2 27 16) (v2 27 12)) 0 0 (SG nu) 235 [some (ar (some 27)), some (ai (v 28 p)), some (ai (if 97 ≤ v 28 p ∧ v 28 p ≤ 122 then 1 else 0)), some (ai g2), some (ai (v 28 q))] [] w := by
        intro g2 hg2 hg3
        refine G_aload_n dX6_go_235 rfl ?_
        refine G_aload_n dX6_go_236 rfl ?_
        refine G_getIv (q) (jj := 9) dX6_go_237 flX6_115 rfl rfl rfl (by simp [up_get, h9]) ?_
        refine G_aload_n dX6_go_240 rfl ?_
        refine G_getIv (p) (jj := 10) dX6_go_241 flX6_118 rfl rfl rfl (by simp [up_get, h10]) ?_
        refine G_isub dX6_go_244 (iRm (by omega) (by omega)) ?_
        refine G_bipush (n := 6) dX6_go_245 (by decide) ⟨by decide, by decide⟩ ?_
        refine G_icmp_ge 269 dX6_go_247 (by decide) (fun h247 => ?_) (fun h247 => ?_)
        · refine G_ldc2 (n := (-1)) dX6_go_269 (show Cond.constantLong RX6 146 (Int64.ofInt (-1)) ∈ lw_good by decide +kernel) ⟨by decide, by decide⟩ ?_
          refine G_putL (jj := 16) dX6_go_272 flX6_131 rfl rfl rfl rfl ?_
          refine G_aload_n dX6_go_275 rfl ?_
          refine G_getIv (q) (jj := 9) dX6_go_276 flX6_115 rfl rfl rfl (by simp [up_get, h9]) ?_
          refine G_aload_n dX6_go_279 rfl ?_
          refine G_getIv (p) (jj := 10) dX6_go_280 flX6_118 rfl rfl rfl (by simp [up_get, h10]) ?_
          refine G_isub dX6_go_283 (iRm (by omega) (by omega)) ?_
          refine G_iconst (n := 3) dX6_go_284 ⟨by decide, by decide⟩ ?_
          refine G_icmp_ge 305 dX6_go_285 (by decide) (fun h285 => ?_) (fun h285 => ?_)
          · refine G_aload_n dX6_go_305 rfl ?_
            refine G_dup_a dX6_go_306 ?_
            refine G_getIv (q) (jj := 9) dX6_go_307 flX6_115 rfl rfl rfl (by simp [up_get, h9]) ?_
            refine G_iconst (n := 1) dX6_go_310 ⟨by decide, by decide⟩ ?_
            refine G_iadd dX6_go_311 (iRm (by omega) (by omega)) ?_
            refine G_putI (jj := 9) dX6_go_312 flX6_115 rfl rfl rfl rfl ?_
            refine G_goto 177 dX6_go_315 (by decide) ?_
            exact ih (N - 1) (by omega) p (q + 1) g2 _ _ (by omega) hsk hpn h160 (by omega) hld hall2 hg2 hg3 ((hw.up (Or.inr (Or.inr (Or.inr (Or.inr rfl))))).up (Or.inl rfl)) (up_self _ _ _ _) (by simp [up_get, h10]) (by rw [if_neg (by omega)]; simp [up_get]) (by rw [if_neg (show ¬ q + 1 - p ≤ 3 by omega)]; simp only [up_get]; simp; rw [h12]; by_cases e : q - p ≤ 3; rw [if_pos e, show (q - p).toNat = 3 by omega]; rw [if_neg e])
          · refine G_aload_n dX6_go_288 rfl ?_
            refine G_bipush (n := 10) dX6_go_289 (by decide) ⟨by decide, by decide⟩ ?_
            refine G_aload_n dX6_go_291 rfl ?_
            refine G_getIv (hr10 (v 28) p (q - p).toNat) (jj := 12) dX6_go_292 flX6_135 rfl rfl rfl (by simp only [up_get]; simp; rw [h12, if_pos (by omega)]) ?_
            have hB3 := hB10 (q - p).toNat (by omega)
            refine G_imul dX6_go_295 (iRm (by omega) (by omega)) ?_
            refine G_iload dX6_go_296 rfl ?_
            refine G_iadd dX6_go_298 (iRm (by omega) (by omega)) ?_
            refine G_bipush (n := 48) dX6_go_299 (by decide) ⟨by decide, by decide⟩ ?_
            refine G_isub dX6_go_301 (iRm (by omega) (by omega)) ?_
            refine G_putI (jj := 12) dX6_go_302 flX6_135 rfl rfl rfl rfl ?_
            refine G_aload_n dX6_go_305 rfl ?_
            refine G_dup_a dX6_go_306 ?_
            refine G_getIv (q) (jj := 9) dX6_go_307 flX6_115 rfl rfl rfl (by simp [up_get, h9]) ?_
            refine G_iconst (n := 1) dX6_go_310 ⟨by decide, by decide⟩ ?_
            refine G_iadd dX6_go_311 (iRm (by omega) (by omega)) ?_
            refine G_putI (jj := 9) dX6_go_312 flX6_115 rfl rfl rfl rfl ?_
            refine G_goto 177 dX6_go_315 (by decide) ?_
            exact ih (N - 1) (by omega) p (q + 1) g2 _ _ (by omega) hsk hpn h160 (by omega) hld hall2 hg2 hg3 (((hw.up (Or.inr (Or.inr (Or.inr (Or.inr rfl))))).up (Or.inr (Or.inr (Or.inr (Or.inl rfl))))).up (Or.inl rfl)) (up_self _ _ _ _) (by simp [up_get, h10]) (by rw [if_neg (by omega)]; simp [up_get]) (by rw [if_pos (by omega), show (q + 1 - p).toNat = (q - p).toNat + 1 by omega, hr10_s (v 28) p q _ (by omega)]; simp [up_get])
        · refine G_ldc2 (n := 27) dX6_go_250 (show Cond.constantLong RX6 142 (Int64.ofInt 27) ∈ lw_good by decide +kernel) ⟨by decide, by decide⟩ ?_
          refine G_aload_n dX6_go_253 rfl ?_
          refine G_getL (jj := 16) dX6_go_254 flX6_131 rfl rfl rfl ?_
          rw [h16, if_pos (show q - p ≤ 6 by omega)]
          have hB6 := hB (by omega)
          refine G_lmul dX6_go_257 ⟨by omega, by omega⟩ ?_
          refine G_iload dX6_go_258 rfl ?_
          refine G_i2l dX6_go_260 ?_
          refine G_ladd dX6_go_261 ⟨by omega, by omega⟩ ?_
          refine G_ldc2 (n := 96) dX6_go_262 (show Cond.constantLong RX6 144 (Int64.ofInt 96) ∈ lw_good by decide +kernel) ⟨by decide, by decide⟩ ?_
          refine G_lsub dX6_go_265 ⟨by omega, by omega⟩ ?_
          refine G_goto 272 dX6_go_266 (by decide) ?_
          refine G_putL (jj := 16) dX6_go_272 flX6_131 rfl rfl rfl rfl ?_
          refine G_aload_n dX6_go_275 rfl ?_
          refine G_getIv (q) (jj := 9) dX6_go_276 flX6_115 rfl rfl rfl (by simp [up_get, h9]) ?_
          refine G_aload_n dX6_go_279 rfl ?_
          refine G_getIv (p) (jj := 10) dX6_go_280 flX6_118 rfl rfl rfl (by simp [up_get, h10]) ?_
          refine G_isub dX6_go_283 (iRm (by omega) (by omega)) ?_
          refine G_iconst (n := 3) dX6_go_284 ⟨by decide, by decide⟩ ?_
          refine G_icmp_ge 305 dX6_go_285 (by decide) (fun h285 => ?_) (fun h285 => ?_)
          · refine G_aload_n dX6_go_305 rfl ?_
            refine G_dup_a dX6_go_306 ?_
            refine G_getIv (q) (jj := 9) dX6_go_307 flX6_115 rfl rfl rfl (by simp [up_get, h9]) ?_
            refine G_iconst (n := 1) dX6_go_310 ⟨by decide, by decide⟩ ?_
            refine G_iadd dX6_go_311 (iRm (by omega) (by omega)) ?_
            refine G_putI (jj := 9) dX6_go_312 flX6_115 rfl rfl rfl rfl ?_
            refine G_goto 177 dX6_go_315 (by decide) ?_
            exact ih (N - 1) (by omega) p (q + 1) g2 _ _ (by omega) hsk hpn h160 (by omega) hld hall2 hg2 hg3 ((hw.up (Or.inr (Or.inr (Or.inr (Or.inr rfl))))).up (Or.inl rfl)) (up_self _ _ _ _) (by simp [up_get, h10]) (by rw [if_pos (by omega), show (q + 1 - p).toNat = (q - p).toNat + 1 by omega, hrn_s (v 28) p q _ (by omega)]; simp [up_get]) (by rw [if_neg (show ¬ q + 1 - p ≤ 3 by omega)]; simp only [up_get]; simp; rw [h12]; by_cases e : q - p ≤ 3; rw [if_pos e, show (q - p).toNat = 3 by omega]; rw [if_neg e])
          · refine G_aload_n dX6_go_288 rfl ?_
            refine G_bipush (n := 10) dX6_go_289 (by decide) ⟨by decide, by decide⟩ ?_
            refine G_aload_n dX6_go_291 rfl ?_
            refine G_getIv (hr10 (v 28) p (q - p).toNat) (jj := 12) dX6_go_292 flX6_135 rfl rfl rfl (by simp only [up_get]; simp; rw [h12, if_pos (by omega)]) ?_
            have hB3 := hB10 (q - p).toNat (by omega)
            refine G_imul dX6_go_295 (iRm (by omega) (by omega)) ?_
            refine G_iload dX6_go_296 rfl ?_
            refine G_iadd dX6_go_298 (iRm (by omega) (by omega)) ?_
            refine G_bipush (n := 48) dX6_go_299 (by decide) ⟨by decide, by decide⟩ ?_
            refine G_isub dX6_go_301 (iRm (by omega) (by omega)) ?_
            refine G_putI (jj := 12) dX6_go_302 flX6_135 rfl rfl rfl rfl ?_
            refine G_aload_n dX6_go_305 rfl ?_
            refine G_dup_a dX6_go_306 ?_
            refine G_getIv (q) (jj := 9) dX6_go_307 flX6_115 rfl rfl rfl (by simp [up_get, h9]) ?_
            refine G_iconst (n := 1) dX6_go_310 ⟨by decide, by decide⟩ ?_
            refine G_iadd dX6_go_311 (iRm (by omega) (by omega)) ?_
            refine G_putI (jj := 9) dX6_go_312 flX6_115 rfl rfl rfl rfl ?_
            refine G_goto 177 dX6_go_315 (by decide) ?_
            exact ih (N - 1) (by omega) p (q + 1) g2 _ _ (by omega) hsk hpn h160 (by omega) hld hall2 hg2 hg3 (((hw.up (Or.inr (Or.inr (Or.inr (Or.inr rfl))))).up (Or.inr (Or.inr (Or.inr (Or.inl rfl))))).up (Or.inl rfl)) (up_self _ _ _ _) (by simp [up_get, h10]) (by rw [if_pos (by omega), show (q + 1 - p).toNat = (q - p).toNat + 1 by omega, hrn_s (v 28) p q _ (by omega)]; simp [up_get]) (by rw [if_pos (by omega), show (q + 1 - p).toNat = (q - p).toNat + 1 by omega, hr10_s (v 28) p q _ (by omega)]; simp [up_get])
      refine G_aload_n dX6_go_205 rfl ?_
      refine G_getR (jj := 1) dX6_go_206 flX6_7 rfl rfl rfl ?_
      refine G_aload_n dX6_go_209 rfl ?_
      refine G_getIv (q) (jj := 9) dX6_go_210 flX6_115 rfl rfl rfl (by simp [up_get, h9]) ?_
      refine G_ialdv (v 28 q) dX6_go_213 rfl (by omega) (by omega) (by simp [up_get, w28]) ?_
      refine G_istore dX6_go_214 rfl rfl ?_
      refine G_iload_n dX6_go_216 rfl ?_
      refine G_if_eq 233 dX6_go_217 (by decide) (fun h217 => ?_) (fun h217 => ?_)
      · refine G_iconst (n := 0) dX6_go_233 ⟨by decide, by decide⟩ ?_
        refine G_istore_n dX6_go_234 rfl rfl ?_
        exact K _ (by omega) (by rw [h217] at hgood; constructor; intro y; omega; intro y; exact absurd (hgood.mpr (fun j j1 j2 => y j j1 (by omega))) (by omega))
      · refine G_iload dX6_go_220 rfl ?_
        refine G_cSi dX6_go_222 (c_X6_isLetter l (d + 1) nu w (v 28 q)) mcX6_124 rfl rfl (by show _ ≤ d + 2; omega) rfl rfl (Nat.le_refl _) (Nat.le_refl _) ?_
        refine G_iload_n dX6_go_225 rfl ?_
        refine G_icmp_ne 233 dX6_go_226 (by decide) (fun h226 => ?_) (fun h226 => ?_)
        · refine G_iconst (n := 0) dX6_go_233 ⟨by decide, by decide⟩ ?_
          refine G_istore_n dX6_go_234 rfl rfl ?_
          exact K _ (by omega) (by constructor; intro y; omega; intro y; have y1 := y q (by omega) (by omega); unfold isL at y1; omega)
        · refine G_iconst (n := 1) dX6_go_229 ⟨by decide, by decide⟩ ?_
          refine G_goto 234 dX6_go_230 (by decide) ?_
          refine G_istore_n dX6_go_234 rfl rfl ?_
          exact K _ (by omega) (by constructor; intro _ j j1 j2; by_cases e : j = q; rw [e]; unfold isL; omega; exact (hgood.mp (by omega)) j j1 (by omega); intro _; rfl)
    · refine G_aload_n dX6_go_191 rfl ?_
      refine G_aload_n dX6_go_192 rfl ?_
      refine G_getIv (q) (jj := 9) dX6_go_193 flX6_115 rfl rfl rfl (by simp [up_get, h9]) ?_
      refine G_cVi (ci := 6) dX6_go_196 rfl (by decide) rfl (c_X6_byteAt l (d + 1) nu w q (by omega) (by omega)) mcX6_138 rfl rfl (by show _ ≤ d + 2; omega) rfl rfl (Nat.le_refl _) (Nat.le_refl _) ?_
      rw [w8, w28]
      refine G_cSi dX6_go_199 (c_X6_isDigit l (d + 1) nu w (if q < v 27 8 then v 28 q else 0)) mcX6_128 rfl rfl (by show _ ≤ d + 2; omega) rfl rfl (Nat.le_refl _) (Nat.le_refl _) ?_
      refine G_if_eq 318 dX6_go_202 (by decide) (fun h202 => ?_) (fun h202 => ?_)
      · have hend : q = v 27 8 ∨ ¬ (isL (v 28 q) ∨ isD (v 28 q)) := by by_cases e : q = v 27 8; exact Or.inl e; exact Or.inr (by unfold isL isD; omega)
        have hlt : p < q := by by_cases e : p = q; subst e; rcases hend with y | y; omega; exact absurd hld y; omega
        have htk : TKN (v 28) (v 27 8) p q := ⟨hlt, by omega, hall, hend⟩
        have hgg : gd = 1 ↔ GOOD (v 28) p q := hgood
        refine G_aload_n dX6_go_318 rfl ?_
        refine G_iload_n dX6_go_319 rfl ?_
        refine G_if_eq 340 dX6_go_320 (by decide) (fun h320 => ?_) (fun h320 => ?_)
        · refine G_iconst (n := 1) dX6_go_340 ⟨by decide, by decide⟩ ?_
          refine G_goto 353 dX6_go_341 (by decide) ?_
          refine G_putI (jj := 11) dX6_go_353 flX6_121 rfl rfl rfl rfl ?_
          exact G_vret dX6_go_356 rfl rfl rfl (by
             have e9 : ∀ x, up w 27 11 x 27 9 = q := fun x => by simp [up_get, h9]
             have e11 : ∀ x, up w 27 11 x 27 11 = x := fun x => up_self _ _ _ _
             refine ⟨rfl, rfl, hw.up (Or.inr (Or.inr (Or.inl rfl))), p, hsk, Or.inr ⟨h160, Or.inr ⟨hpn, by simp [up_get, h10], Or.inr ?_⟩⟩⟩
             rw [e9, e11]
             refine ⟨htk, by rw [up_nj (by decide)]; exact h16, by rw [up_nj (by decide)]; exact h12, ?_⟩
             unfold isL
             first | exact Or.inl ⟨fun y => by have := hgood.mpr y; omega, rfl⟩ | exact Or.inr (Or.inl ⟨hgood.mp (by omega), by omega, rfl⟩) | exact Or.inr (Or.inr (Or.inl ⟨hgood.mp (by omega), by omega, by omega, rfl⟩)) | exact Or.inr (Or.inr (Or.inr ⟨hgood.mp (by omega), by omega, by omega, rfl⟩)) | (exfalso; omega))
        · refine G_iload_n dX6_go_323 rfl ?_
          refine G_if_ne 344 dX6_go_324 (by decide) (fun h324 => ?_) (fun h324 => ?_)
          · refine G_iload_n dX6_go_344 rfl ?_
            refine G_if_eq 352 dX6_go_345 (by decide) (fun h345 => ?_) (fun h345 => ?_)
            · refine G_iconst (n := 3) dX6_go_352 ⟨by decide, by decide⟩ ?_
              refine G_putI (jj := 11) dX6_go_353 flX6_121 rfl rfl rfl rfl ?_
              exact G_vret dX6_go_356 rfl rfl rfl (by
                 have e9 : ∀ x, up w 27 11 x 27 9 = q := fun x => by simp [up_get, h9]
                 have e11 : ∀ x, up w 27 11 x 27 11 = x := fun x => up_self _ _ _ _
                 refine ⟨rfl, rfl, hw.up (Or.inr (Or.inr (Or.inl rfl))), p, hsk, Or.inr ⟨h160, Or.inr ⟨hpn, by simp [up_get, h10], Or.inr ?_⟩⟩⟩
                 rw [e9, e11]
                 refine ⟨htk, by rw [up_nj (by decide)]; exact h16, by rw [up_nj (by decide)]; exact h12, ?_⟩
                 unfold isL
                 first | exact Or.inl ⟨fun y => by have := hgood.mpr y; omega, rfl⟩ | exact Or.inr (Or.inl ⟨hgood.mp (by omega), by omega, rfl⟩) | exact Or.inr (Or.inr (Or.inl ⟨hgood.mp (by omega), by omega, by omega, rfl⟩)) | exact Or.inr (Or.inr (Or.inr ⟨hgood.mp (by omega), by omega, by omega, rfl⟩)) | (exfalso; omega))
            · refine G_iconst (n := 2) dX6_go_348 ⟨by decide, by decide⟩ ?_
              refine G_goto 353 dX6_go_349 (by decide) ?_
              refine G_putI (jj := 11) dX6_go_353 flX6_121 rfl rfl rfl rfl ?_
              exact G_vret dX6_go_356 rfl rfl rfl (by
                 have e9 : ∀ x, up w 27 11 x 27 9 = q := fun x => by simp [up_get, h9]
                 have e11 : ∀ x, up w 27 11 x 27 11 = x := fun x => up_self _ _ _ _
                 refine ⟨rfl, rfl, hw.up (Or.inr (Or.inr (Or.inl rfl))), p, hsk, Or.inr ⟨h160, Or.inr ⟨hpn, by simp [up_get, h10], Or.inr ?_⟩⟩⟩
                 rw [e9, e11]
                 refine ⟨htk, by rw [up_nj (by decide)]; exact h16, by rw [up_nj (by decide)]; exact h12, ?_⟩
                 unfold isL
                 first | exact Or.inl ⟨fun y => by have := hgood.mpr y; omega, rfl⟩ | exact Or.inr (Or.inl ⟨hgood.mp (by omega), by omega, rfl⟩) | exact Or.inr (Or.inr (Or.inl ⟨hgood.mp (by omega), by omega, by omega, rfl⟩)) | exact Or.inr (Or.inr (Or.inr ⟨hgood.mp (by omega), by omega, by omega, rfl⟩)) | (exfalso; omega))
          · refine G_aload_n dX6_go_327 rfl ?_
            refine G_getIv (q) (jj := 9) dX6_go_328 flX6_115 rfl rfl rfl (by simp [up_get, h9]) ?_
            refine G_aload_n dX6_go_331 rfl ?_
            refine G_getIv (p) (jj := 10) dX6_go_332 flX6_118 rfl rfl rfl (by simp [up_get, h10]) ?_
            refine G_isub dX6_go_335 (iRm (by omega) (by omega)) ?_
            refine G_iconst (n := 3) dX6_go_336 ⟨by decide, by decide⟩ ?_
            refine G_icmp_le 344 dX6_go_337 (by decide) (fun h337 => ?_) (fun h337 => ?_)
            · refine G_iload_n dX6_go_344 rfl ?_
              refine G_if_eq 352 dX6_go_345 (by decide) (fun h345 => ?_) (fun h345 => ?_)
              · refine G_iconst (n := 3) dX6_go_352 ⟨by decide, by decide⟩ ?_
                refine G_putI (jj := 11) dX6_go_353 flX6_121 rfl rfl rfl rfl ?_
                exact G_vret dX6_go_356 rfl rfl rfl (by
                   have e9 : ∀ x, up w 27 11 x 27 9 = q := fun x => by simp [up_get, h9]
                   have e11 : ∀ x, up w 27 11 x 27 11 = x := fun x => up_self _ _ _ _
                   refine ⟨rfl, rfl, hw.up (Or.inr (Or.inr (Or.inl rfl))), p, hsk, Or.inr ⟨h160, Or.inr ⟨hpn, by simp [up_get, h10], Or.inr ?_⟩⟩⟩
                   rw [e9, e11]
                   refine ⟨htk, by rw [up_nj (by decide)]; exact h16, by rw [up_nj (by decide)]; exact h12, ?_⟩
                   unfold isL
                   first | exact Or.inl ⟨fun y => by have := hgood.mpr y; omega, rfl⟩ | exact Or.inr (Or.inl ⟨hgood.mp (by omega), by omega, rfl⟩) | exact Or.inr (Or.inr (Or.inl ⟨hgood.mp (by omega), by omega, by omega, rfl⟩)) | exact Or.inr (Or.inr (Or.inr ⟨hgood.mp (by omega), by omega, by omega, rfl⟩)) | (exfalso; omega))
              · refine G_iconst (n := 2) dX6_go_348 ⟨by decide, by decide⟩ ?_
                refine G_goto 353 dX6_go_349 (by decide) ?_
                refine G_putI (jj := 11) dX6_go_353 flX6_121 rfl rfl rfl rfl ?_
                exact G_vret dX6_go_356 rfl rfl rfl (by
                   have e9 : ∀ x, up w 27 11 x 27 9 = q := fun x => by simp [up_get, h9]
                   have e11 : ∀ x, up w 27 11 x 27 11 = x := fun x => up_self _ _ _ _
                   refine ⟨rfl, rfl, hw.up (Or.inr (Or.inr (Or.inl rfl))), p, hsk, Or.inr ⟨h160, Or.inr ⟨hpn, by simp [up_get, h10], Or.inr ?_⟩⟩⟩
                   rw [e9, e11]
                   refine ⟨htk, by rw [up_nj (by decide)]; exact h16, by rw [up_nj (by decide)]; exact h12, ?_⟩
                   unfold isL
                   first | exact Or.inl ⟨fun y => by have := hgood.mpr y; omega, rfl⟩ | exact Or.inr (Or.inl ⟨hgood.mp (by omega), by omega, rfl⟩) | exact Or.inr (Or.inr (Or.inl ⟨hgood.mp (by omega), by omega, by omega, rfl⟩)) | exact Or.inr (Or.inr (Or.inr ⟨hgood.mp (by omega), by omega, by omega, rfl⟩)) | (exfalso; omega))
            · refine G_iconst (n := 1) dX6_go_340 ⟨by decide, by decide⟩ ?_
              refine G_goto 353 dX6_go_341 (by decide) ?_
              refine G_putI (jj := 11) dX6_go_353 flX6_121 rfl rfl rfl rfl ?_
              exact G_vret dX6_go_356 rfl rfl rfl (by
                 have e9 : ∀ x, up w 27 11 x 27 9 = q := fun x => by simp [up_get, h9]
                 have e11 : ∀ x, up w 27 11 x 27 11 = x := fun x => up_self _ _ _ _
                 refine ⟨rfl, rfl, hw.up (Or.inr (Or.inr (Or.inl rfl))), p, hsk, Or.inr ⟨h160, Or.inr ⟨hpn, by simp [up_get, h10], Or.inr ?_⟩⟩⟩
                 rw [e9, e11]
                 refine ⟨htk, by rw [up_nj (by decide)]; exact h16, by rw [up_nj (by decide)]; exact h12, ?_⟩
                 unfold isL
                 first | exact Or.inl ⟨fun y => by have := hgood.mpr y; omega, rfl⟩ | exact Or.inr (Or.inl ⟨hgood.mp (by omega), by omega, rfl⟩) | exact Or.inr (Or.inr (Or.inl ⟨hgood.mp (by omega), by omega, by omega, rfl⟩)) | exact Or.inr (Or.inr (Or.inr ⟨hgood.mp (by omega), by omega, by omega, rfl⟩)) | (exfalso; omega))
      · have hqn : q < v 27 8 := by omega
        have hqld : isL (v 28 q) ∨ isD (v 28 q) := by unfold isL isD; omega
        have htq := ht q
        have hall2 : ∀ j, p ≤ j → j < q + 1 → isL (v 28 j) ∨ isD (v 28 j) := fun j j1 j2 => by by_cases e : j = q; rw [e]; exact hqld; exact hall j j1 (by omega)
        have K : ∀ g2 : Int, (g2 = 0 ∨ g2 = 1) → (g2 = 1 ↔ GOOD (v 28) p (q + 1)) → G l (yX6_go, cX6_go, none, 5, (d + 2), 0, 0, none) (fun r S2 v2 => r = none ∧ S2 = SG nu ∧ GoK v v2 ∧ GoP (v 28) (v 27 8) (v 27 9) (v2 27 11) (v2 27 10) (v2 27 9) (v2 27 16) (v2 27 12)) 0 0 (SG nu) 235 [some (ar (some 27)), some (ai (v 28 p)), some (ai (if 97 ≤ v 28 p ∧ v 28 p ≤ 122 then 1 else 0)), some (ai g2), some (ai (v 28 q))] [] w := by
          intro g2 hg2 hg3
          refine G_aload_n dX6_go_235 rfl ?_
          refine G_aload_n dX6_go_236 rfl ?_
          refine G_getIv (q) (jj := 9) dX6_go_237 flX6_115 rfl rfl rfl (by simp [up_get, h9]) ?_
          refine G_aload_n dX6_go_240 rfl ?_
          refine G_getIv (p) (jj := 10) dX6_go_241 flX6_118 rfl rfl rfl (by simp [up_get, h10]) ?_
          refine G_isub dX6_go_244 (iRm (by omega) (by omega)) ?_
          refine G_bipush (n := 6) dX6_go_245 (by decide) ⟨by decide, by decide⟩ ?_
          refine G_icmp_ge 269 dX6_go_247 (by decide) (fun h247 => ?_) (fun h247 => ?_)
          · refine G_ldc2 (n := (-1)) dX6_go_269 (show Cond.constantLong RX6 146 (Int64.ofInt (-1)) ∈ lw_good by decide +kernel) ⟨by decide, by decide⟩ ?_
            refine G_putL (jj := 16) dX6_go_272 flX6_131 rfl rfl rfl rfl ?_
            refine G_aload_n dX6_go_275 rfl ?_
            refine G_getIv (q) (jj := 9) dX6_go_276 flX6_115 rfl rfl rfl (by simp [up_get, h9]) ?_
            refine G_aload_n dX6_go_279 rfl ?_
            refine G_getIv (p) (jj := 10) dX6_go_280 flX6_118 rfl rfl rfl (by simp [up_get, h10]) ?_
            refine G_isub dX6_go_283 (iRm (by omega) (by omega)) ?_
            refine G_iconst (n := 3) dX6_go_284 ⟨by decide, by decide⟩ ?_
            refine G_icmp_ge 305 dX6_go_285 (by decide) (fun h285 => ?_) (fun h285 => ?_)
            · refine G_aload_n dX6_go_305 rfl ?_
              refine G_dup_a dX6_go_306 ?_
              refine G_getIv (q) (jj := 9) dX6_go_307 flX6_115 rfl rfl rfl (by simp [up_get, h9]) ?_
              refine G_iconst (n := 1) dX6_go_310 ⟨by decide, by decide⟩ ?_
              refine G_iadd dX6_go_311 (iRm (by omega) (by omega)) ?_
              refine G_putI (jj := 9) dX6_go_312 flX6_115 rfl rfl rfl rfl ?_
              refine G_goto 177 dX6_go_315 (by decide) ?_
              exact ih (N - 1) (by omega) p (q + 1) g2 _ _ (by omega) hsk hpn h160 (by omega) hld hall2 hg2 hg3 ((hw.up (Or.inr (Or.inr (Or.inr (Or.inr rfl))))).up (Or.inl rfl)) (up_self _ _ _ _) (by simp [up_get, h10]) (by rw [if_neg (by omega)]; simp [up_get]) (by rw [if_neg (show ¬ q + 1 - p ≤ 3 by omega)]; simp only [up_get]; simp; rw [h12]; by_cases e : q - p ≤ 3; rw [if_pos e, show (q - p).toNat = 3 by omega]; rw [if_neg e])
            · refine G_aload_n dX6_go_288 rfl ?_
              refine G_bipush (n := 10) dX6_go_289 (by decide) ⟨by decide, by decide⟩ ?_
              refine G_aload_n dX6_go_291 rfl ?_
              refine G_getIv (hr10 (v 28) p (q - p).toNat) (jj := 12) dX6_go_292 flX6_135 rfl rfl rfl (by simp only [up_get]; simp; rw [h12, if_pos (by omega)]) ?_
              have hB3 := hB10 (q - p).toNat (by omega)
              refine G_imul dX6_go_295 (iRm (by omega) (by omega)) ?_
              refine G_iload dX6_go_296 rfl ?_
              refine G_iadd dX6_go_298 (iRm (by omega) (by omega)) ?_
              refine G_bipush (n := 48) dX6_go_299 (by decide) ⟨by decide, by decide⟩ ?_
              refine G_isub dX6_go_301 (iRm (by omega) (by omega)) ?_
              refine G_putI (jj := 12) dX6_go_302 flX6_135 rfl rfl rfl rfl ?_
              refine G_aload_n dX6_go_305 rfl ?_
              refine G_dup_a dX6_go_306 ?_
              refine G_getIv (q) (jj := 9) dX6_go_307 flX6_115 rfl rfl rfl (by simp [up_get, h9]) ?_
              refine G_iconst (n := 1) dX6_go_310 ⟨by decide, by decide⟩ ?_
              refine G_iadd dX6_go_311 (iRm (by omega) (by omega)) ?_
              refine G_putI (jj := 9) dX6_go_312 flX6_115 rfl rfl rfl rfl ?_
              refine G_goto 177 dX6_go_315 (by decide) ?_
              exact ih (N - 1) (by omega) p (q + 1) g2 _ _ (by omega) hsk hpn h160 (by omega) hld hall2 hg2 hg3 (((hw.up (Or.inr (Or.inr (Or.inr (Or.inr rfl))))).up (Or.inr (Or.inr (Or.inr (Or.inl rfl))))).up (Or.inl rfl)) (up_self _ _ _ _) (by simp [up_get, h10]) (by rw [if_neg (by omega)]; simp [up_get]) (by rw [if_pos (by omega), show (q + 1 - p).toNat = (q - p).toNat + 1 by omega, hr10_s (v 28) p q _ (by omega)]; simp [up_get])
          · refine G_ldc2 (n := 27) dX6_go_250 (show Cond.constantLong RX6 142 (Int64.ofInt 27) ∈ lw_good by decide +kernel) ⟨by decide, by decide⟩ ?_
            refine G_aload_n dX6_go_253 rfl ?_
            refine G_getL (jj := 16) dX6_go_254 flX6_131 rfl rfl rfl ?_
            rw [h16, if_pos (show q - p ≤ 6 by omega)]
            have hB6 := hB (by omega)
            refine G_lmul dX6_go_257 ⟨by omega, by omega⟩ ?_
            refine G_iload dX6_go_258 rfl ?_
            refine G_i2l dX6_go_260 ?_
            refine G_ladd dX6_go_261 ⟨by omega, by omega⟩ ?_
            refine G_ldc2 (n := 96) dX6_go_262 (show Cond.constantLong RX6 144 (Int64.ofInt 96) ∈ lw_good by decide +kernel) ⟨by decide, by decide⟩ ?_
            refine G_lsub dX6_go_265 ⟨by omega, by omega⟩ ?_
            refine G_goto 272 dX6_go_266 (by decide) ?_
            refine G_putL (jj := 16) dX6_go_272 flX6_131 rfl rfl rfl rfl ?_
            refine G_aload_n dX6_go_275 rfl ?_
            refine G_getIv (q) (jj := 9) dX6_go_276 flX6_115 rfl rfl rfl (by simp [up_get, h9]) ?_
            refine G_aload_n dX6_go_279 rfl ?_
            refine G_getIv (p) (jj := 10) dX6_go_280 flX6_118 rfl rfl rfl (by simp [up_get, h10]) ?_
            refine G_isub dX6_go_283 (iRm (by omega) (by omega)) ?_
            refine G_iconst (n := 3) dX6_go_284 ⟨by decide, by decide⟩ ?_
            refine G_icmp_ge 305 dX6_go_285 (by decide) (fun h285 => ?_) (fun h285 => ?_)
            · refine G_aload_n dX6_go_305 rfl ?_
              refine G_dup_a dX6_go_306 ?_
              refine G_getIv (q) (jj := 9) dX6_go_307 flX6_115 rfl rfl rfl (by simp [up_get, h9]) ?_
              refine G_iconst (n := 1) dX6_go_310 ⟨by decide, by decide⟩ ?_
              refine G_iadd dX6_go_311 (iRm (by omega) (by omega)) ?_
              refine G_putI (jj := 9) dX6_go_312 flX6_115 rfl rfl rfl rfl ?_
              refine G_goto 177 dX6_go_315 (by decide) ?_
              exact ih (N - 1) (by omega) p (q + 1) g2 _ _ (by omega) hsk hpn h160 (by omega) hld hall2 hg2 hg3 ((hw.up (Or.inr (Or.inr (Or.inr (Or.inr rfl))))).up (Or.inl rfl)) (up_self _ _ _ _) (by simp [up_get, h10]) (by rw [if_pos (by omega), show (q + 1 - p).toNat = (q - p).toNat + 1 by omega, hrn_s (v 28) p q _ (by omega)]; simp [up_get]) (by rw [if_neg (show ¬ q + 1 - p ≤ 3 by omega)]; simp only [up_get]; simp; rw [h12]; by_cases e : q - p ≤ 3; rw [if_pos e, show (q - p).toNat = 3 by omega]; rw [if_neg e])
            · refine G_aload_n dX6_go_288 rfl ?_
              refine G_bipush (n := 10) dX6_go_289 (by decide) ⟨by decide, by decide⟩ ?_
              refine G_aload_n dX6_go_291 rfl ?_
              refine G_getIv (hr10 (v 28) p (q - p).toNat) (jj := 12) dX6_go_292 flX6_135 rfl rfl rfl (by simp only [up_get]; simp; rw [h12, if_pos (by omega)]) ?_
              have hB3 := hB10 (q - p).toNat (by omega)
              refine G_imul dX6_go_295 (iRm (by omega) (by omega)) ?_
              refine G_iload dX6_go_296 rfl ?_
              refine G_iadd dX6_go_298 (iRm (by omega) (by omega)) ?_
              refine G_bipush (n := 48) dX6_go_299 (by decide) ⟨by decide, by decide⟩ ?_
              refine G_isub dX6_go_301 (iRm (by omega) (by omega)) ?_
              refine G_putI (jj := 12) dX6_go_302 flX6_135 rfl rfl rfl rfl ?_
              refine G_aload_n dX6_go_305 rfl ?_
              refine G_dup_a dX6_go_306 ?_
              refine G_getIv (q) (jj := 9) dX6_go_307 flX6_115 rfl rfl rfl (by simp [up_get, h9]) ?_
              refine G_iconst (n := 1) dX6_go_310 ⟨by decide, by decide⟩ ?_
              refine G_iadd dX6_go_311 (iRm (by omega) (by omega)) ?_
              refine G_putI (jj := 9) dX6_go_312 flX6_115 rfl rfl rfl rfl ?_
              refine G_goto 177 dX6_go_315 (by decide) ?_
              exact ih (N - 1) (by omega) p (q + 1) g2 _ _ (by omega) hsk hpn h160 (by omega) hld hall2 hg2 hg3 (((hw.up (Or.inr (Or.inr (Or.inr (Or.inr rfl))))).up (Or.inr (Or.inr (Or.inr (Or.inl rfl))))).up (Or.inl rfl)) (up_self _ _ _ _) (by simp [up_get, h10]) (by rw [if_pos (by omega), show (q + 1 - p).toNat = (q - p).toNat + 1 by omega, hrn_s (v 28) p q _ (by omega)]; simp [up_get]) (by rw [if_pos (by omega), show (q + 1 - p).toNat = (q - p).toNat + 1 by omega, hr10_s (v 28) p q _ (by omega)]; simp [up_get])
        refine G_aload_n dX6_go_205 rfl ?_
        refine G_getR (jj := 1) dX6_go_206 flX6_7 rfl rfl rfl ?_
        refine G_aload_n dX6_go_209 rfl ?_
        refine G_getIv (q) (jj := 9) dX6_go_210 flX6_115 rfl rfl rfl (by simp [up_get, h9]) ?_
        refine G_ialdv (v 28 q) dX6_go_213 rfl (by omega) (by omega) (by simp [up_get, w28]) ?_
        refine G_istore dX6_go_214 rfl rfl ?_
        refine G_iload_n dX6_go_216 rfl ?_
        refine G_if_eq 233 dX6_go_217 (by decide) (fun h217 => ?_) (fun h217 => ?_)
        · refine G_iconst (n := 0) dX6_go_233 ⟨by decide, by decide⟩ ?_
          refine G_istore_n dX6_go_234 rfl rfl ?_
          exact K _ (by omega) (by rw [h217] at hgood; constructor; intro y; omega; intro y; exact absurd (hgood.mpr (fun j j1 j2 => y j j1 (by omega))) (by omega))
        · refine G_iload dX6_go_220 rfl ?_
          refine G_cSi dX6_go_222 (c_X6_isLetter l (d + 1) nu w (v 28 q)) mcX6_124 rfl rfl (by show _ ≤ d + 2; omega) rfl rfl (Nat.le_refl _) (Nat.le_refl _) ?_
          refine G_iload_n dX6_go_225 rfl ?_
          refine G_icmp_ne 233 dX6_go_226 (by decide) (fun h226 => ?_) (fun h226 => ?_)
          · refine G_iconst (n := 0) dX6_go_233 ⟨by decide, by decide⟩ ?_
            refine G_istore_n dX6_go_234 rfl rfl ?_
            exact K _ (by omega) (by constructor; intro y; omega; intro y; have y1 := y q (by omega) (by omega); unfold isL at y1; omega)
          · refine G_iconst (n := 1) dX6_go_229 ⟨by decide, by decide⟩ ?_
            refine G_goto 234 dX6_go_230 (by decide) ?_
            refine G_istore_n dX6_go_234 rfl rfl ?_
            exact K _ (by omega) (by constructor; intro _ j j1 j2; by_cases e : j = q; rw [e]; unfold isL; omega; exact (hgood.mp (by omega)) j j1 (by omega); intro _; rfl)
  have K52 : ∀ (p : Int) (w : VV), SKP (v 28) (v 27 8) (v 27 9) p → GoK v w → w 27 9 = p → G l (yX6_go, cX6_go, none, 5, (d + 2), 0, 0, none) (fun r S2 v2 => r = none ∧ S2 = SG nu ∧ GoK v v2 ∧ GoP (v 28) (v 27 8) (v 27 9) (v2 27 11) (v2 27 10) (v2 27 9) (v2 27 16) (v2 27 12)) 0 0 (SG nu) 52 [some (ar (some 27)), none, none, none, none] [] w := by
    intro p w hsk hw h9
    have w28 : w 28 = v 28 := hw.1 28 (by decide)
    have w8 : w 27 8 = v 27 8 := hw.2 8 (by decide) (by decide) (by decide) (by decide) (by decide)
    have hp0 : 0 ≤ p ∧ p ≤ v 27 8 := by have := hsk.1; have := hsk.2.1; omega
    refine G_aload_n dX6_go_52 rfl ?_
    refine G_aload_n dX6_go_53 rfl ?_
    refine G_getIv (p) (jj := 9) dX6_go_54 flX6_115 rfl rfl rfl (by simp [up_get, h9]) ?_
    refine G_putI (jj := 10) dX6_go_57 flX6_118 rfl rfl rfl rfl ?_
    refine G_aload_n dX6_go_60 rfl ?_
    refine G_getIv (v 27 8) (jj := 8) dX6_go_61 flX6_112 rfl rfl rfl (by simp [up_get, w8]) ?_
    refine G_sipush (n := 160) dX6_go_64 (by decide) ⟨by decide, by decide⟩ ?_
    refine G_icmp_le 93 dX6_go_67 (by decide) (fun h67 => ?_) (fun h67 => ?_)
    · refine G_aload_n dX6_go_93 rfl ?_
      refine G_getIv (p) (jj := 9) dX6_go_94 flX6_115 rfl rfl rfl (by simp [up_get, h9]) ?_
      refine G_aload_n dX6_go_97 rfl ?_
      refine G_getIv (v 27 8) (jj := 8) dX6_go_98 flX6_112 rfl rfl rfl (by simp [up_get, w8]) ?_
      refine G_icmp_lt 110 dX6_go_101 (by decide) (fun h101 => ?_) (fun h101 => ?_)
      · refine G_aload_n dX6_go_110 rfl ?_
        refine G_getR (jj := 1) dX6_go_111 flX6_7 rfl rfl rfl ?_
        refine G_aload_n dX6_go_114 rfl ?_
        refine G_getIv (p) (jj := 9) dX6_go_115 flX6_115 rfl rfl rfl (by simp [up_get, h9]) ?_
        refine G_ialdv (v 28 p) dX6_go_118 rfl (by omega) (by omega) (by simp [up_get, w28]) ?_
        refine G_istore_n dX6_go_119 rfl rfl ?_
        refine G_iload_n dX6_go_120 rfl ?_
        refine G_cSi dX6_go_121 (c_X6_isLetter l (d + 1) nu _ (v 28 p)) mcX6_124 rfl rfl (by show _ ≤ d + 2; omega) rfl rfl (Nat.le_refl _) (Nat.le_refl _) ?_
        refine G_if_ne 160 dX6_go_124 (by decide) (fun h124 => ?_) (fun h124 => ?_)
        · refine G_iload_n dX6_go_160 rfl ?_
          refine G_cSi dX6_go_161 (c_X6_isLetter l (d + 1) nu _ (v 28 p)) mcX6_124 rfl rfl (by show _ ≤ d + 2; omega) rfl rfl (Nat.le_refl _) (Nat.le_refl _) ?_
          refine G_istore_n dX6_go_164 rfl rfl ?_
          refine G_iconst (n := 1) dX6_go_165 ⟨by decide, by decide⟩ ?_
          refine G_istore_n dX6_go_166 rfl rfl ?_
          refine G_aload_n dX6_go_167 rfl ?_
          refine G_lconst0 dX6_go_168 ?_
          refine G_putL (jj := 16) dX6_go_169 flX6_131 rfl rfl rfl rfl ?_
          refine G_aload_n dX6_go_172 rfl ?_
          refine G_iconst (n := 0) dX6_go_173 ⟨by decide, by decide⟩ ?_
          refine G_putI (jj := 12) dX6_go_174 flX6_135 rfl rfl rfl rfl ?_
          exact loopT (v 27 8 - p).toNat p p 1 _ _ (by omega) hsk (by omega) (by omega) (by omega) (by unfold isL isD; omega) (fun j j1 j2 => by omega) (Or.inr rfl) ⟨fun _ j j1 j2 => by omega, fun _ => rfl⟩ ((((hw.up (Or.inr (Or.inl rfl)))).up (Or.inr (Or.inr (Or.inr (Or.inr rfl))))).up (Or.inr (Or.inr (Or.inr (Or.inl rfl))))) (by simp [up_get, h9]) (by simp [up_get]) (by simp [up_get, hrn]) (by simp [up_get, hr10])
        · refine G_iload_n dX6_go_127 rfl ?_
          refine G_cSi dX6_go_128 (c_X6_isDigit l (d + 1) nu _ (v 28 p)) mcX6_128 rfl rfl (by show _ ≤ d + 2; omega) rfl rfl (Nat.le_refl _) (Nat.le_refl _) ?_
          refine G_if_ne 160 dX6_go_131 (by decide) (fun h131 => ?_) (fun h131 => ?_)
          · refine G_iload_n dX6_go_160 rfl ?_
            refine G_cSi dX6_go_161 (c_X6_isLetter l (d + 1) nu _ (v 28 p)) mcX6_124 rfl rfl (by show _ ≤ d + 2; omega) rfl rfl (Nat.le_refl _) (Nat.le_refl _) ?_
            refine G_istore_n dX6_go_164 rfl rfl ?_
            refine G_iconst (n := 1) dX6_go_165 ⟨by decide, by decide⟩ ?_
            refine G_istore_n dX6_go_166 rfl rfl ?_
            refine G_aload_n dX6_go_167 rfl ?_
            refine G_lconst0 dX6_go_168 ?_
            refine G_putL (jj := 16) dX6_go_169 flX6_131 rfl rfl rfl rfl ?_
            refine G_aload_n dX6_go_172 rfl ?_
            refine G_iconst (n := 0) dX6_go_173 ⟨by decide, by decide⟩ ?_
            refine G_putI (jj := 12) dX6_go_174 flX6_135 rfl rfl rfl rfl ?_
            exact loopT (v 27 8 - p).toNat p p 1 _ _ (by omega) hsk (by omega) (by omega) (by omega) (by unfold isL isD; omega) (fun j j1 j2 => by omega) (Or.inr rfl) ⟨fun _ j j1 j2 => by omega, fun _ => rfl⟩ ((((hw.up (Or.inr (Or.inl rfl)))).up (Or.inr (Or.inr (Or.inr (Or.inr rfl))))).up (Or.inr (Or.inr (Or.inr (Or.inl rfl))))) (by simp [up_get, h9]) (by simp [up_get]) (by simp [up_get, hrn]) (by simp [up_get, hr10])
          · refine G_aload_n dX6_go_134 rfl ?_
            refine G_iload_n dX6_go_135 rfl ?_
            refine G_bipush (n := 59) dX6_go_136 (by decide) ⟨by decide, by decide⟩ ?_
            refine G_icmp_ne 145 dX6_go_138 (by decide) (fun h138 => ?_) (fun h138 => ?_)
            · refine G_iconst (n := 1) dX6_go_145 ⟨by decide, by decide⟩ ?_
              refine G_putI (jj := 11) dX6_go_146 flX6_121 rfl rfl rfl rfl ?_
              refine G_aload_n dX6_go_149 rfl ?_
              refine G_dup_a dX6_go_150 ?_
              refine G_getIv (p) (jj := 9) dX6_go_151 flX6_115 rfl rfl rfl (by simp [up_get, h9]) ?_
              refine G_iconst (n := 1) dX6_go_154 ⟨by decide, by decide⟩ ?_
              refine G_iadd dX6_go_155 (iRm (by omega) (by omega)) ?_
              refine G_putI (jj := 9) dX6_go_156 flX6_115 rfl rfl rfl rfl ?_
              exact G_vret dX6_go_159 rfl rfl rfl (by refine ⟨rfl, rfl, ((hw.up (Or.inr (Or.inl rfl))).up (Or.inr (Or.inr (Or.inl rfl)))).up (Or.inl rfl), p, hsk, Or.inr ⟨by omega, Or.inr ⟨by omega, by simp [up_get], Or.inl ⟨by unfold isL; omega, by unfold isD; omega, by simp [up_get], ?_⟩⟩⟩⟩; first | exact Or.inl ⟨h138, by simp [up_get]⟩ | exact Or.inr ⟨h138, by simp [up_get]⟩)
            · refine G_iconst (n := 4) dX6_go_141 ⟨by decide, by decide⟩ ?_
              refine G_goto 146 dX6_go_142 (by decide) ?_
              refine G_putI (jj := 11) dX6_go_146 flX6_121 rfl rfl rfl rfl ?_
              refine G_aload_n dX6_go_149 rfl ?_
              refine G_dup_a dX6_go_150 ?_
              refine G_getIv (p) (jj := 9) dX6_go_151 flX6_115 rfl rfl rfl (by simp [up_get, h9]) ?_
              refine G_iconst (n := 1) dX6_go_154 ⟨by decide, by decide⟩ ?_
              refine G_iadd dX6_go_155 (iRm (by omega) (by omega)) ?_
              refine G_putI (jj := 9) dX6_go_156 flX6_115 rfl rfl rfl rfl ?_
              exact G_vret dX6_go_159 rfl rfl rfl (by refine ⟨rfl, rfl, ((hw.up (Or.inr (Or.inl rfl))).up (Or.inr (Or.inr (Or.inl rfl)))).up (Or.inl rfl), p, hsk, Or.inr ⟨by omega, Or.inr ⟨by omega, by simp [up_get], Or.inl ⟨by unfold isL; omega, by unfold isD; omega, by simp [up_get], ?_⟩⟩⟩⟩; first | exact Or.inl ⟨h138, by simp [up_get]⟩ | exact Or.inr ⟨h138, by simp [up_get]⟩)
      · refine G_aload_n dX6_go_104 rfl ?_
        refine G_iconst (n := 0) dX6_go_105 ⟨by decide, by decide⟩ ?_
        refine G_putI (jj := 11) dX6_go_106 flX6_121 rfl rfl rfl rfl ?_
        exact G_vret dX6_go_109 rfl rfl rfl ⟨rfl, rfl, (hw.up (Or.inr (Or.inl rfl))).up (Or.inr (Or.inr (Or.inl rfl))), p, hsk, Or.inr ⟨by omega, Or.inl ⟨by have := hsk.2.1; omega, by simp [up_get], by simp [up_get], by simp [up_get, h9]⟩⟩⟩
    · refine G_aload_n dX6_go_70 rfl ?_
      refine G_getIv (p) (jj := 10) dX6_go_71 flX6_118 rfl rfl rfl (by simp [up_get, h9]) ?_
      refine G_sipush (n := 160) dX6_go_74 (by decide) ⟨by decide, by decide⟩ ?_
      refine G_icmp_lt 93 dX6_go_77 (by decide) (fun h77 => ?_) (fun h77 => ?_)
      · refine G_aload_n dX6_go_93 rfl ?_
        refine G_getIv (p) (jj := 9) dX6_go_94 flX6_115 rfl rfl rfl (by simp [up_get, h9]) ?_
        refine G_aload_n dX6_go_97 rfl ?_
        refine G_getIv (v 27 8) (jj := 8) dX6_go_98 flX6_112 rfl rfl rfl (by simp [up_get, w8]) ?_
        refine G_icmp_lt 110 dX6_go_101 (by decide) (fun h101 => ?_) (fun h101 => ?_)
        · refine G_aload_n dX6_go_110 rfl ?_
          refine G_getR (jj := 1) dX6_go_111 flX6_7 rfl rfl rfl ?_
          refine G_aload_n dX6_go_114 rfl ?_
          refine G_getIv (p) (jj := 9) dX6_go_115 flX6_115 rfl rfl rfl (by simp [up_get, h9]) ?_
          refine G_ialdv (v 28 p) dX6_go_118 rfl (by omega) (by omega) (by simp [up_get, w28]) ?_
          refine G_istore_n dX6_go_119 rfl rfl ?_
          refine G_iload_n dX6_go_120 rfl ?_
          refine G_cSi dX6_go_121 (c_X6_isLetter l (d + 1) nu _ (v 28 p)) mcX6_124 rfl rfl (by show _ ≤ d + 2; omega) rfl rfl (Nat.le_refl _) (Nat.le_refl _) ?_
          refine G_if_ne 160 dX6_go_124 (by decide) (fun h124 => ?_) (fun h124 => ?_)
          · refine G_iload_n dX6_go_160 rfl ?_
            refine G_cSi dX6_go_161 (c_X6_isLetter l (d + 1) nu _ (v 28 p)) mcX6_124 rfl rfl (by show _ ≤ d + 2; omega) rfl rfl (Nat.le_refl _) (Nat.le_refl _) ?_
            refine G_istore_n dX6_go_164 rfl rfl ?_
            refine G_iconst (n := 1) dX6_go_165 ⟨by decide, by decide⟩ ?_
            refine G_istore_n dX6_go_166 rfl rfl ?_
            refine G_aload_n dX6_go_167 rfl ?_
            refine G_lconst0 dX6_go_168 ?_
            refine G_putL (jj := 16) dX6_go_169 flX6_131 rfl rfl rfl rfl ?_
            refine G_aload_n dX6_go_172 rfl ?_
            refine G_iconst (n := 0) dX6_go_173 ⟨by decide, by decide⟩ ?_
            refine G_putI (jj := 12) dX6_go_174 flX6_135 rfl rfl rfl rfl ?_
            exact loopT (v 27 8 - p).toNat p p 1 _ _ (by omega) hsk (by omega) (by omega) (by omega) (by unfold isL isD; omega) (fun j j1 j2 => by omega) (Or.inr rfl) ⟨fun _ j j1 j2 => by omega, fun _ => rfl⟩ ((((hw.up (Or.inr (Or.inl rfl)))).up (Or.inr (Or.inr (Or.inr (Or.inr rfl))))).up (Or.inr (Or.inr (Or.inr (Or.inl rfl))))) (by simp [up_get, h9]) (by simp [up_get]) (by simp [up_get, hrn]) (by simp [up_get, hr10])
          · refine G_iload_n dX6_go_127 rfl ?_
            refine G_cSi dX6_go_128 (c_X6_isDigit l (d + 1) nu _ (v 28 p)) mcX6_128 rfl rfl (by show _ ≤ d + 2; omega) rfl rfl (Nat.le_refl _) (Nat.le_refl _) ?_
            refine G_if_ne 160 dX6_go_131 (by decide) (fun h131 => ?_) (fun h131 => ?_)
            · refine G_iload_n dX6_go_160 rfl ?_
              refine G_cSi dX6_go_161 (c_X6_isLetter l (d + 1) nu _ (v 28 p)) mcX6_124 rfl rfl (by show _ ≤ d + 2; omega) rfl rfl (Nat.le_refl _) (Nat.le_refl _) ?_
              refine G_istore_n dX6_go_164 rfl rfl ?_
              refine G_iconst (n := 1) dX6_go_165 ⟨by decide, by decide⟩ ?_
              refine G_istore_n dX6_go_166 rfl rfl ?_
              refine G_aload_n dX6_go_167 rfl ?_
              refine G_lconst0 dX6_go_168 ?_
              refine G_putL (jj := 16) dX6_go_169 flX6_131 rfl rfl rfl rfl ?_
              refine G_aload_n dX6_go_172 rfl ?_
              refine G_iconst (n := 0) dX6_go_173 ⟨by decide, by decide⟩ ?_
              refine G_putI (jj := 12) dX6_go_174 flX6_135 rfl rfl rfl rfl ?_
              exact loopT (v 27 8 - p).toNat p p 1 _ _ (by omega) hsk (by omega) (by omega) (by omega) (by unfold isL isD; omega) (fun j j1 j2 => by omega) (Or.inr rfl) ⟨fun _ j j1 j2 => by omega, fun _ => rfl⟩ ((((hw.up (Or.inr (Or.inl rfl)))).up (Or.inr (Or.inr (Or.inr (Or.inr rfl))))).up (Or.inr (Or.inr (Or.inr (Or.inl rfl))))) (by simp [up_get, h9]) (by simp [up_get]) (by simp [up_get, hrn]) (by simp [up_get, hr10])
            · refine G_aload_n dX6_go_134 rfl ?_
              refine G_iload_n dX6_go_135 rfl ?_
              refine G_bipush (n := 59) dX6_go_136 (by decide) ⟨by decide, by decide⟩ ?_
              refine G_icmp_ne 145 dX6_go_138 (by decide) (fun h138 => ?_) (fun h138 => ?_)
              · refine G_iconst (n := 1) dX6_go_145 ⟨by decide, by decide⟩ ?_
                refine G_putI (jj := 11) dX6_go_146 flX6_121 rfl rfl rfl rfl ?_
                refine G_aload_n dX6_go_149 rfl ?_
                refine G_dup_a dX6_go_150 ?_
                refine G_getIv (p) (jj := 9) dX6_go_151 flX6_115 rfl rfl rfl (by simp [up_get, h9]) ?_
                refine G_iconst (n := 1) dX6_go_154 ⟨by decide, by decide⟩ ?_
                refine G_iadd dX6_go_155 (iRm (by omega) (by omega)) ?_
                refine G_putI (jj := 9) dX6_go_156 flX6_115 rfl rfl rfl rfl ?_
                exact G_vret dX6_go_159 rfl rfl rfl (by refine ⟨rfl, rfl, ((hw.up (Or.inr (Or.inl rfl))).up (Or.inr (Or.inr (Or.inl rfl)))).up (Or.inl rfl), p, hsk, Or.inr ⟨by omega, Or.inr ⟨by omega, by simp [up_get], Or.inl ⟨by unfold isL; omega, by unfold isD; omega, by simp [up_get], ?_⟩⟩⟩⟩; first | exact Or.inl ⟨h138, by simp [up_get]⟩ | exact Or.inr ⟨h138, by simp [up_get]⟩)
              · refine G_iconst (n := 4) dX6_go_141 ⟨by decide, by decide⟩ ?_
                refine G_goto 146 dX6_go_142 (by decide) ?_
                refine G_putI (jj := 11) dX6_go_146 flX6_121 rfl rfl rfl rfl ?_
                refine G_aload_n dX6_go_149 rfl ?_
                refine G_dup_a dX6_go_150 ?_
                refine G_getIv (p) (jj := 9) dX6_go_151 flX6_115 rfl rfl rfl (by simp [up_get, h9]) ?_
                refine G_iconst (n := 1) dX6_go_154 ⟨by decide, by decide⟩ ?_
                refine G_iadd dX6_go_155 (iRm (by omega) (by omega)) ?_
                refine G_putI (jj := 9) dX6_go_156 flX6_115 rfl rfl rfl rfl ?_
                exact G_vret dX6_go_159 rfl rfl rfl (by refine ⟨rfl, rfl, ((hw.up (Or.inr (Or.inl rfl))).up (Or.inr (Or.inr (Or.inl rfl)))).up (Or.inl rfl), p, hsk, Or.inr ⟨by omega, Or.inr ⟨by omega, by simp [up_get], Or.inl ⟨by unfold isL; omega, by unfold isD; omega, by simp [up_get], ?_⟩⟩⟩⟩; first | exact Or.inl ⟨h138, by simp [up_get]⟩ | exact Or.inr ⟨h138, by simp [up_get]⟩)
        · refine G_aload_n dX6_go_104 rfl ?_
          refine G_iconst (n := 0) dX6_go_105 ⟨by decide, by decide⟩ ?_
          refine G_putI (jj := 11) dX6_go_106 flX6_121 rfl rfl rfl rfl ?_
          exact G_vret dX6_go_109 rfl rfl rfl ⟨rfl, rfl, (hw.up (Or.inr (Or.inl rfl))).up (Or.inr (Or.inr (Or.inl rfl))), p, hsk, Or.inr ⟨by omega, Or.inl ⟨by have := hsk.2.1; omega, by simp [up_get], by simp [up_get], by simp [up_get, h9]⟩⟩⟩
      · refine G_aload_n dX6_go_80 rfl ?_
        refine G_sipush (n := 160) dX6_go_81 (by decide) ⟨by decide, by decide⟩ ?_
        refine G_putI (jj := 10) dX6_go_84 flX6_118 rfl rfl rfl rfl ?_
        refine G_aload_n dX6_go_87 rfl ?_
        refine G_iconst (n := 1) dX6_go_88 ⟨by decide, by decide⟩ ?_
        refine G_putI (jj := 11) dX6_go_89 flX6_121 rfl rfl rfl rfl ?_
        exact G_vret dX6_go_92 rfl rfl rfl ⟨rfl, rfl, ((hw.up (Or.inr (Or.inl rfl))).up (Or.inr (Or.inl rfl))).up (Or.inr (Or.inr (Or.inl rfl))), p, hsk, Or.inl ⟨by omega, by omega, by simp [up_get], by simp [up_get], by simp [up_get, h9]⟩⟩
  have loopS : ∀ (N : Nat) (i : Int) (w : VV), i + N = v 27 8 → v 27 9 ≤ i → (∀ j, v 27 9 ≤ j → j < i → isB (v 28 j)) → GoK v w → w 27 9 = i → G l (yX6_go, cX6_go, none, 5, (d + 2), 0, 0, none) (fun r S2 v2 => r = none ∧ S2 = SG nu ∧ GoK v v2 ∧ GoP (v 28) (v 27 8) (v 27 9) (v2 27 11) (v2 27 10) (v2 27 9) (v2 27 16) (v2 27 12)) 0 0 (SG nu) 0 [some (ar (some 27)), none, none, none, none] [] w := by
    intro N
    induction N using Nat.strongRecOn with
    | ind N ih =>
    intro i w h1 hi0 hall hw h9
    have w28 : w 28 = v 28 := hw.1 28 (by decide)
    have w8 : w 27 8 = v 27 8 := hw.2 8 (by decide) (by decide) (by decide) (by decide) (by decide)
    refine G_aload_n dX6_go_0 rfl ?_
    refine G_getIv (i) (jj := 9) dX6_go_1 flX6_115 rfl rfl rfl (by simp [up_get, h9]) ?_
    refine G_aload_n dX6_go_4 rfl ?_
    refine G_getIv (v 27 8) (jj := 8) dX6_go_5 flX6_112 rfl rfl rfl w8 ?_
    refine G_icmp_ge 52 dX6_go_8 (by decide) (fun h8 => ?_) (fun h8 => ?_)
    · exact K52 i w ⟨by omega, by omega, hall, by unfold isB; omega⟩ hw h9
    · refine G_aload_n dX6_go_11 rfl ?_
      refine G_getR (jj := 1) dX6_go_12 flX6_7 rfl rfl rfl ?_
      refine G_aload_n dX6_go_15 rfl ?_
      refine G_getIv (i) (jj := 9) dX6_go_16 flX6_115 rfl rfl rfl (by simp [up_get, h9]) ?_
      refine G_ialdv (v 28 i) dX6_go_19 rfl (by omega) (by omega) (by simp [up_get, w28]) ?_
      refine G_bipush (n := 32) dX6_go_20 (by decide) ⟨by decide, by decide⟩ ?_
      refine G_icmp_eq 39 dX6_go_22 (by decide) (fun h22 => ?_) (fun h22 => ?_)
      · refine G_aload_n dX6_go_39 rfl ?_
        refine G_dup_a dX6_go_40 ?_
        refine G_getIv (i) (jj := 9) dX6_go_41 flX6_115 rfl rfl rfl (by simp [up_get, h9]) ?_
        refine G_iconst (n := 1) dX6_go_44 ⟨by decide, by decide⟩ ?_
        refine G_iadd dX6_go_45 (iRm (by omega) (by omega)) ?_
        refine G_putI (jj := 9) dX6_go_46 flX6_115 rfl rfl rfl rfl ?_
        refine G_goto 0 dX6_go_49 (by decide) ?_
        exact ih (N - 1) (by omega) (i + 1) _ (by omega) (by omega) (fun j j1 j2 => by by_cases e : j = i; rw [e]; unfold isB; omega; exact hall j j1 (by omega)) (hw.up (Or.inl rfl)) (up_self _ _ _ _)
      · refine G_aload_n dX6_go_25 rfl ?_
        refine G_getR (jj := 1) dX6_go_26 flX6_7 rfl rfl rfl ?_
        refine G_aload_n dX6_go_29 rfl ?_
        refine G_getIv (i) (jj := 9) dX6_go_30 flX6_115 rfl rfl rfl (by simp [up_get, h9]) ?_
        refine G_ialdv (v 28 i) dX6_go_33 rfl (by omega) (by omega) (by simp [up_get, w28]) ?_
        refine G_bipush (n := 10) dX6_go_34 (by decide) ⟨by decide, by decide⟩ ?_
        refine G_icmp_ne 52 dX6_go_36 (by decide) (fun h36 => ?_) (fun h36 => ?_)
        · exact K52 i w ⟨by omega, by omega, hall, by unfold isB; omega⟩ hw h9
        · refine G_aload_n dX6_go_39 rfl ?_
          refine G_dup_a dX6_go_40 ?_
          refine G_getIv (i) (jj := 9) dX6_go_41 flX6_115 rfl rfl rfl (by simp [up_get, h9]) ?_
          refine G_iconst (n := 1) dX6_go_44 ⟨by decide, by decide⟩ ?_
          refine G_iadd dX6_go_45 (iRm (by omega) (by omega)) ?_
          refine G_putI (jj := 9) dX6_go_46 flX6_115 rfl rfl rfl rfl ?_
          refine G_goto 0 dX6_go_49 (by decide) ?_
          exact ih (N - 1) (by omega) (i + 1) _ (by omega) (by omega) (fun j j1 j2 => by by_cases e : j = i; rw [e]; unfold isB; omega; exact hall j j1 (by omega)) (hw.up (Or.inl rfl)) (up_self _ _ _ _)
  exact loopS (v 27 8 - v 27 9).toNat (v 27 9) v (by omega) (by omega) (fun j j1 j2 => by omega) GoK.rf rfl
