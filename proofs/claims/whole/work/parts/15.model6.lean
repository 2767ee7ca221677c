/-- SEAT t can be left for s, at this change of COST -/
def mval (nu : Nat) (z : VV) (s t c : Int) : Prop := z 48 t ≠ -1 ∧ mayP z (z 48 t) s ∧ ∃ x, x ≠ -1 ∧ spU z t nu x ∧ c = costS z (z 48 t) s + costS z x t - costS z (z 48 t) t
theorem mval_one {nu : Nat} {z : VV} {s t c e : Int} (h : mval nu z s t c) (h2 : mval nu z s t e) : c = e := by
  obtain ⟨-, -, x, -, h1, h3⟩ := h
  obtain ⟨-, -, y, -, g1, g3⟩ := h2
  rw [h3, g3, spU_one h1 g1]
def mvU (nu : Nat) (z : VV) (s n C t : Int) : Prop := (t = -1 ∧ C = 100000000 ∧ ∀ q c, 0 ≤ q → q < n → ¬ mval nu z s q c) ∨ (0 ≤ t ∧ t < n ∧ mval nu z s t C ∧ ∀ q c, 0 ≤ q → q < n → mval nu z s q c → C ≤ c ∧ (c = C → t ≤ q))
theorem mvU_no {nu : Nat} {z : VV} {s n C t : Int} (h : mvU nu z s n C t) (hc : ∀ c, ¬ mval nu z s n c) : mvU nu z s (n + 1) C t := by
  rcases h with ⟨h1, h2, h3⟩ | ⟨h1, h2, h3, h4⟩
  · exact Or.inl ⟨h1, h2, fun q c q1 q2 => by by_cases e : q = n; rw [e]; exact hc c; exact h3 q c q1 (by omega)⟩
  · exact Or.inr ⟨h1, by omega, h3, fun q c q1 q2 => by by_cases e : q = n; rw [e]; exact fun z => absurd z (hc c); exact h4 q c q1 (by omega)⟩
theorem mvU_keep {nu : Nat} {z : VV} {s n C t c : Int} (h : mvU nu z s n C t) (hm : mval nu z s n c) (hc : C ≤ c) (hc2 : c < 100000000) : mvU nu z s (n + 1) C t := by
  rcases h with ⟨h1, h2, h3⟩ | ⟨h1, h2, h3, h4⟩
  · omega
  · exact Or.inr ⟨h1, by omega, h3, fun q e q1 q2 => by
      by_cases e2 : q = n
      · rw [e2]; exact fun z => by rw [mval_one z hm]; omega
      · exact h4 q e q1 (by omega)⟩
theorem mvU_new {nu : Nat} {z : VV} {s n C t c : Int} (hn : 0 ≤ n) (h : mvU nu z s n C t) (hm : mval nu z s n c) (hc : c < C) : mvU nu z s (n + 1) c n := by
  rcases h with ⟨h1, h2, h3⟩ | ⟨h1, h2, h3, h4⟩
  · exact Or.inr ⟨hn, by omega, hm, fun q e q1 q2 => by
      by_cases e2 : q = n
      · rw [e2]; exact fun z => by rw [mval_one z hm]; omega
      · exact fun z => absurd z (h3 q e q1 (by omega))⟩
  · exact Or.inr ⟨hn, by omega, hm, fun q e q1 q2 => by
      by_cases e2 : q = n
      · rw [e2]; exact fun z => by rw [mval_one z hm]; omega
      · exact fun z => by have := (h4 q e q1 (by omega) z).1; omega⟩
theorem mvU_one {nu : Nat} {z : VV} {s n C t C2 t2 : Int} (h : mvU nu z s n C t) (h2 : mvU nu z s n C2 t2) : t = t2 := by
  rcases h with ⟨h1, h3, h4⟩ | ⟨h1, h3, h4, h5⟩ <;> rcases h2 with ⟨g1, g3, g4⟩ | ⟨g1, g3, g4, g5⟩
  · omega
  · exact absurd g4 (h4 t2 C2 g1 g3)
  · exact absurd h4 (g4 t C h1 h3)
  · have a := h5 t2 C2 g1 g3 g4
    have b := g5 t C h1 h3 h4
    have : C2 = C := by omega
    have e1 := a.2 this
    have e2 := b.2 this.symm
    omega
/-- what off leaves ahead of filling -/
def offZ (w : VV) (u s : Int) : VV := up (up w 43 (100 * u + w 27 35) 1) 48 s (-1)
/-- the SEAT s of z is filled: r tells how, v2 is the world behind it -/
def offF (nu : Nat) (z : VV) (s r : Int) (v2 : VV) : Prop := ∃ b, spU z s nu b ∧ ((b ≠ -1 ∧ r = 1 ∧ v2 = up z 48 s b) ∨ (b = -1 ∧ ∃ C t, mvU nu z s (2 * z 27 34) C t ∧ ((t = -1 ∧ r = 0 ∧ v2 = z) ∨ (t ≠ -1 ∧ r = 2 ∧ ∃ x, x ≠ -1 ∧ spU z t nu x ∧ v2 = up (up z 48 s (z 48 t)) 48 t x))))
def offOk (nu : Nat) (w : VV) (u : Int) : Prop := (0 ≤ u ∧ u < nu) ∧ seatOfS w u ≠ -1 ∧ w 27 36 ≤ 0
def offP (nu : Nat) (w : VV) (u r : Int) (v2 : VV) : Prop := (¬ offOk nu w u ∧ r = -1 ∧ v2 = w) ∨ (offOk nu w u ∧ offF nu (offZ w u (seatOfS w u)) (seatOfS w u) r v2)
theorem MB_offZ {nu : Nat} {w : VV} (h : MB nu w) (u s : Int) : MB nu (offZ w u s) := by
  refine ⟨h.1, h.2.1, h.2.2.1, h.2.2.2.1, h.2.2.2.2.1, h.2.2.2.2.2.1, fun q q1 q2 => ?_⟩
  have a := h.2.2.2.2.2.2 q q1 q2
  unfold offZ
  simp only [up_get]
  by_cases e : q = s
  · simp [e]; omega
  · simp [e]; exact a
set_option maxRecDepth 20000 in
set_option maxHeartbeats 1000000 in
theorem c_X6_off (l : Launch) (d nu : Nat) (v : VV) (w : VV) (hw : up v 27 0 0 = w) (hB : MB nu w) (u : Int) : Ct l yX6_off cX6_off (some .int) 10 (d + 5) 0 0 [ar (some 27), ai u] (SG nu) v (fun r S2 v2 => ∃ x, r = some (ai x) ∧ S2 = SG nu ∧ offP nu w u x v2) := by
  refine Ct_of_G [some (ar (some 27)), some (ai u), none, none, none, none, none, none, none, none] (by decide) rfl rfl ?_
  have hn := hB.1
  have hgm := hB.2.1
  have hwk := hB.2.2.1
  have hso := seatOf_spec (v := w) u hgm.1
  have loop : ∀ (z : VV) (hz : MB nu z) (s : Int) (hs : 0 ≤ s ∧ s < 2 * z 27 34) (hb : spU z s nu (-1)) (hp : ∀ x v2, offF nu z s x v2 → ∃ y, some (ai x) = some (ai y) ∧ SG nu = SG nu ∧ offP nu w u y v2) (n : Nat) (C t q : Int) (Z7 Z8 Z9 : Option AV), 0 ≤ q → q + n = 2 * z 27 34 → mvU nu z s q C t → (-20000 ≤ C ∧ C ≤ 100000000) → G l (yX6_off, cX6_off, (some .int), 10, (d + 5), 0, 0, none) (fun r S2 v2 => ∃ x, r = some (ai x) ∧ S2 = SG nu ∧ offP nu w u x v2) 0 0 (SG nu) 89 [some (ar (some 27)), some (ai u), some (ai s), some (ai (-1)), some (ai C), some (ai t), some (ai q), Z7, Z8, Z9] [] z := by
    intro z hz s hs hb hp n
    induction n using Nat.strongRecOn with
    | ind n ih =>
    intro C t q Z7 Z8 Z9 h0 h1 hq hC
    have hnz := hz.1
    have hgz := hz.2.1
    refine G_iload dX6_off_89 rfl ?_
    refine G_iconst (n := 2) dX6_off_91 ⟨by decide, by decide⟩ ?_
    refine G_aload_n dX6_off_92 rfl ?_
    refine G_getI (jj := 34) dX6_off_93 flX6_184 rfl rfl rfl ?_
    refine G_imul dX6_off_96 (iRm (by omega) (by omega)) ?_
    refine G_icmp_ge 196 dX6_off_97 (by decide) (fun h97 => ?_) (fun h97 => ?_)
    · obtain rfl : q = 2 * z 27 34 := by omega
      refine G_iload dX6_off_196 rfl ?_
      refine G_iconst (n := (-1)) dX6_off_198 ⟨by decide, by decide⟩ ?_
      refine G_icmp_ne 204 dX6_off_199 (by decide) (fun h199 => ?_) (fun h199 => ?_)
      · have ht2 : 0 ≤ t ∧ t < 2 * z 27 34 := by rcases hq with ⟨e, -⟩ | ⟨e1, e2, -⟩; exact absurd e h199; exact ⟨e1, e2⟩
        refine G_aload_n dX6_off_204 rfl ?_
        refine G_iload dX6_off_205 rfl ?_
        refine G_cVq (ci := 6) dX6_off_207 rfl (by decide) rfl (c_X6_spare l (d + 0) nu z hz t ht2) mcX6_259 rfl rfl (by show _ ≤ d + 5; omega) rfl rfl (Nat.le_refl _) (Nat.le_refl _) (fun r S2 v2 hq9 => ?_)
        obtain ⟨x, rfl, hx, rfl, rfl⟩ := hq9
        have hx1 : x ≠ -1 := by
          rcases hq with ⟨e, -⟩ | ⟨-, -, ⟨-, -, y, y1, y2, -⟩, -⟩
          · exact absurd e h199
          · rw [spU_one hx y2]; exact y1
        refine G_istore dX6_off_210 rfl rfl ?_
        refine G_aload_n dX6_off_212 rfl ?_
        refine G_getR (jj := 31) dX6_off_213 flX6_71 rfl rfl rfl ?_
        refine G_iload_n dX6_off_216 rfl ?_
        refine G_aload_n dX6_off_217 rfl ?_
        refine G_getR (jj := 31) dX6_off_218 flX6_71 rfl rfl rfl ?_
        refine G_iload dX6_off_221 rfl ?_
        refine G_iald dX6_off_223 rfl (by omega) (by omega) ?_
        refine G_iast dX6_off_224 rfl (by omega) (by omega) ?_
        refine G_aload_n dX6_off_225 rfl ?_
        refine G_getR (jj := 31) dX6_off_226 flX6_71 rfl rfl rfl ?_
        refine G_iload dX6_off_229 rfl ?_
        refine G_iload dX6_off_231 rfl ?_
        refine G_iast dX6_off_233 rfl (by omega) (by omega) ?_
        refine G_iconst (n := 2) dX6_off_234 ⟨by decide, by decide⟩ ?_
        exact G_iret dX6_off_235 rfl rfl rfl (hp 2 _ ⟨-1, hb, Or.inr ⟨rfl, C, t, hq, Or.inr ⟨h199, rfl, x, hx1, hx, rfl⟩⟩⟩)
      · refine G_iconst (n := 0) dX6_off_202 ⟨by decide, by decide⟩ ?_
        exact G_iret dX6_off_203 rfl rfl rfl (hp 0 z ⟨-1, hb, Or.inr ⟨rfl, C, t, hq, Or.inl ⟨h199, rfl, rfl⟩⟩⟩)
    · have hwq := hz.2.2.2.2.2.2 q h0 (by omega)
      refine G_aload_n dX6_off_100 rfl ?_
      refine G_getR (jj := 31) dX6_off_101 flX6_71 rfl rfl rfl ?_
      refine G_iload dX6_off_104 rfl ?_
      refine G_iald dX6_off_106 rfl (by omega) (by omega) ?_
      refine G_istore dX6_off_107 rfl rfl ?_
      refine G_iload dX6_off_109 rfl ?_
      refine G_iconst (n := (-1)) dX6_off_111 ⟨by decide, by decide⟩ ?_
      refine G_icmp_eq 190 dX6_off_112 (by decide) (fun h112 => ?_) (fun h112 => ?_)
      · refine G_iinc dX6_off_190 rfl (iRm (by omega) (by omega)) rfl rfl ?_
        refine G_goto 89 dX6_off_193 (by decide) ?_
        exact ih (n - 1) (by omega) _ _ (q + 1) _ _ _ (by omega) (by omega) (mvU_no hq (fun c h => h.1 h112)) (by omega)
      · have hv : 0 ≤ z 48 q ∧ z 48 q < nu := by omega
        have hc1 := hz.cost hv hs
        have hc3 := hz.cost hv (s := q) (by omega)
        refine G_aload_n dX6_off_115 rfl ?_
        refine G_iload dX6_off_116 rfl ?_
        refine G_iload_n dX6_off_118 rfl ?_
        refine G_cVi (ci := 6) dX6_off_119 rfl (by decide) rfl (c_X6_mayHave l (d + 2) nu z hz (z 48 q) s hv hs) mcX6_210 rfl rfl (by show _ ≤ d + 5; omega) rfl rfl (Nat.le_refl _) (Nat.le_refl _) ?_
        refine G_if_ne 128 dX6_off_122 (by decide) (fun h122 => ?_) (fun h122 => ?_)
        · have hmt : mayP z (z 48 q) s := bP_1.mp (by rcases bP_01 (mayP z (z 48 q) s) with e | e; exact absurd e h122; exact e)
          refine G_aload_n dX6_off_128 rfl ?_
          refine G_iload dX6_off_129 rfl ?_
          refine G_cVq (ci := 6) dX6_off_131 rfl (by decide) rfl (c_X6_spare l (d + 0) nu z hz q (by omega)) mcX6_259 rfl rfl (by show _ ≤ d + 5; omega) rfl rfl (Nat.le_refl _) (Nat.le_refl _) (fun r S2 v2 hq9 => ?_)
          obtain ⟨x, rfl, hx, rfl, rfl⟩ := hq9
          refine G_istore dX6_off_134 rfl rfl ?_
          refine G_iload dX6_off_136 rfl ?_
          refine G_iconst (n := (-1)) dX6_off_138 ⟨by decide, by decide⟩ ?_
          refine G_icmp_ne 145 dX6_off_139 (by decide) (fun h139 => ?_) (fun h139 => ?_)
          · have hxx : 0 ≤ x ∧ x < nu := by rcases hx with ⟨e, -⟩ | ⟨e1, e2, -⟩; exact absurd e h139; exact ⟨e1, e2⟩
            have hc2 := hz.cost hxx (s := q) (by omega)
            refine G_aload_n dX6_off_145 rfl ?_
            refine G_iload dX6_off_146 rfl ?_
            refine G_iload_n dX6_off_148 rfl ?_
            refine G_cVi (ci := 6) dX6_off_149 rfl (by decide) rfl (c_X6_costOf l (d + 2) nu v2 hz (v2 48 q) s hv hs) mcX6_214 rfl rfl (by show _ ≤ d + 5; omega) rfl rfl (Nat.le_refl _) (Nat.le_refl _) ?_
            refine G_aload_n dX6_off_152 rfl ?_
            refine G_iload dX6_off_153 rfl ?_
            refine G_iload dX6_off_155 rfl ?_
            refine G_cVi (ci := 6) dX6_off_157 rfl (by decide) rfl (c_X6_costOf l (d + 2) nu v2 hz x q hxx (by omega)) mcX6_214 rfl rfl (by show _ ≤ d + 5; omega) rfl rfl (Nat.le_refl _) (Nat.le_refl _) ?_
            refine G_iadd dX6_off_160 (iRm (by omega) (by omega)) ?_
            refine G_aload_n dX6_off_161 rfl ?_
            refine G_iload dX6_off_162 rfl ?_
            refine G_iload dX6_off_164 rfl ?_
            refine G_cVi (ci := 6) dX6_off_166 rfl (by decide) rfl (c_X6_costOf l (d + 2) nu v2 hz (v2 48 q) q hv (by omega)) mcX6_214 rfl rfl (by show _ ≤ d + 5; omega) rfl rfl (Nat.le_refl _) (Nat.le_refl _) ?_
            refine G_isub dX6_off_169 (iRm (by omega) (by omega)) ?_
            refine G_istore dX6_off_170 rfl rfl ?_
            refine G_iload dX6_off_172 rfl ?_
            refine G_iload dX6_off_174 rfl ?_
            refine G_icmp_lt 182 dX6_off_176 (by decide) (fun h176 => ?_) (fun h176 => ?_)
            · refine G_iload dX6_off_182 rfl ?_
              refine G_istore dX6_off_184 rfl rfl ?_
              refine G_iload dX6_off_186 rfl ?_
              refine G_istore dX6_off_188 rfl rfl ?_
              refine G_iinc dX6_off_190 rfl (iRm (by omega) (by omega)) rfl rfl ?_
              refine G_goto 89 dX6_off_193 (by decide) ?_
              exact ih (n - 1) (by omega) _ _ (q + 1) _ _ _ (by omega) (by omega) (mvU_new h0 hq ⟨h112, hmt, x, h139, hx, rfl⟩ h176) (by omega)
            · refine G_goto 190 dX6_off_179 (by decide) ?_
              refine G_iinc dX6_off_190 rfl (iRm (by omega) (by omega)) rfl rfl ?_
              refine G_goto 89 dX6_off_193 (by decide) ?_
              exact ih (n - 1) (by omega) _ _ (q + 1) _ _ _ (by omega) (by omega) (mvU_keep hq ⟨h112, hmt, x, h139, hx, rfl⟩ (by omega) (by omega)) (by omega)
          · refine G_goto 190 dX6_off_142 (by decide) ?_
            refine G_iinc dX6_off_190 rfl (iRm (by omega) (by omega)) rfl rfl ?_
            refine G_goto 89 dX6_off_193 (by decide) ?_
            exact ih (n - 1) (by omega) _ _ (q + 1) _ _ _ (by omega) (by omega) (mvU_no hq (fun c h => by obtain ⟨-, -, y, y1, y2, -⟩ := h; exact y1 ((spU_one y2 hx).trans h139))) (by omega)
        · refine G_goto 190 dX6_off_125 (by decide) ?_
          refine G_iinc dX6_off_190 rfl (iRm (by omega) (by omega)) rfl rfl ?_
          refine G_goto 89 dX6_off_193 (by decide) ?_
          exact ih (n - 1) (by omega) _ _ (q + 1) _ _ _ (by omega) (by omega) (mvU_no hq (fun c h => bP_0.mp h122 h.2.1)) (by omega)
  have tail : offOk nu w u → (0 ≤ seatOfS w u ∧ seatOfS w u < 2 * w 27 34) → G l (yX6_off, cX6_off, (some .int), 10, (d + 5), 0, 0, none) (fun r S2 v2 => ∃ x, r = some (ai x) ∧ S2 = SG nu ∧ offP nu w u x v2) 0 0 (SG nu) 37 [some (ar (some 27)), some (ai u), some (ai (seatOfS w u)), none, none, none, none, none, none, none] [] w := by
    intro ho hs
    have ho1 := ho.1
    refine G_aload_n dX6_off_37 rfl ?_
    refine G_getR (jj := 26) dX6_off_38 flX6_55 rfl rfl rfl ?_
    refine G_bipush (n := 100) dX6_off_41 (by decide) ⟨by decide, by decide⟩ ?_
    refine G_iload_n dX6_off_43 rfl ?_
    refine G_imul dX6_off_44 (iRm (by omega) (by omega)) ?_
    refine G_aload_n dX6_off_45 rfl ?_
    refine G_getI (jj := 35) dX6_off_46 flX6_194 rfl rfl rfl ?_
    refine G_iadd dX6_off_49 (iRm (by omega) (by omega)) ?_
    refine G_iconst (n := 1) dX6_off_50 ⟨by decide, by decide⟩ ?_
    refine G_zast dX6_off_51 rfl (by omega) (by omega) (Or.inr rfl) ?_
    refine G_aload_n dX6_off_52 rfl ?_
    refine G_getR (jj := 31) dX6_off_53 flX6_71 rfl rfl rfl ?_
    refine G_iload_n dX6_off_56 rfl ?_
    refine G_iconst (n := (-1)) dX6_off_57 ⟨by decide, by decide⟩ ?_
    refine G_iast dX6_off_58 rfl (by omega) (by omega) ?_
    have hz : MB nu (offZ w u (seatOfS w u)) := MB_offZ hB u _
    have hs : 0 ≤ seatOfS w u ∧ seatOfS w u < 2 * (offZ w u (seatOfS w u)) 27 34 := hs
    have hp : ∀ x v2, offF nu (offZ w u (seatOfS w u)) (seatOfS w u) x v2 → ∃ y, some (ai x) = some (ai y) ∧ SG nu = SG nu ∧ offP nu w u y v2 := fun x v2 h => ⟨x, rfl, rfl, Or.inr ⟨ho, h⟩⟩
    change G _ _ _ _ _ _ _ _ _ (offZ w u (seatOfS w u))
    generalize hs9 : seatOfS w u = s at hz hs hp ⊢
    generalize offZ w u s = z at hz hs hp ⊢
    have hnz := hz.1
    have hgz := hz.2.1
    refine G_aload_n dX6_off_59 rfl ?_
    refine G_iload_n dX6_off_60 rfl ?_
    refine G_cVq (ci := 6) dX6_off_61 rfl (by decide) rfl (c_X6_spare l (d + 0) nu z hz s hs) mcX6_259 rfl rfl (by show _ ≤ d + 5; omega) rfl rfl (Nat.le_refl _) (Nat.le_refl _) (fun r S2 v2 hq9 => ?_)
    obtain ⟨b, rfl, hb, rfl, rfl⟩ := hq9
    refine G_istore_n dX6_off_64 rfl rfl ?_
    refine G_iload_n dX6_off_65 rfl ?_
    refine G_iconst (n := (-1)) dX6_off_66 ⟨by decide, by decide⟩ ?_
    refine G_icmp_eq 79 dX6_off_67 (by decide) (fun h67 => ?_) (fun h67 => ?_)
    · refine G_ldc (n := 100000000) dX6_off_79 (show Cond.constant RX6 218 (Int32.ofInt 100000000) ∈ lw_good by decide +kernel) ⟨by decide, by decide⟩ ?_
      refine G_istore dX6_off_81 rfl rfl ?_
      refine G_iconst (n := (-1)) dX6_off_83 ⟨by decide, by decide⟩ ?_
      refine G_istore dX6_off_84 rfl rfl ?_
      refine G_iconst (n := 0) dX6_off_86 ⟨by decide, by decide⟩ ?_
      refine G_istore dX6_off_87 rfl rfl ?_
      subst h67
      exact loop v2 hz s hs hb hp (2 * v2 27 34).toNat 100000000 (-1) 0 _ _ _ (by omega) (by omega) (Or.inl ⟨rfl, rfl, fun q c q1 q2 => by omega⟩) (by omega)
    · refine G_aload_n dX6_off_70 rfl ?_
      refine G_getR (jj := 31) dX6_off_71 flX6_71 rfl rfl rfl ?_
      refine G_iload_n dX6_off_74 rfl ?_
      refine G_iload_n dX6_off_75 rfl ?_
      refine G_iast dX6_off_76 rfl (by omega) (by omega) ?_
      refine G_iconst (n := 1) dX6_off_77 ⟨by decide, by decide⟩ ?_
      exact G_iret dX6_off_78 rfl rfl rfl (hp 1 _ ⟨b, hb, Or.inl ⟨h67, rfl, rfl⟩⟩)
  refine G_aload_n dX6_off_0 rfl ?_
  refine G_iconst (n := 0) dX6_off_1 ⟨by decide, by decide⟩ ?_
  refine G_putI (jj := 0) dX6_off_2 flX6_101 rfl rfl rfl rfl ?_
  rw [hw]
  refine G_aload_n dX6_off_5 rfl ?_
  refine G_iload_n dX6_off_6 rfl ?_
  refine G_cVi (ci := 6) dX6_off_7 rfl (by decide) rfl (c_X6_isUmpire l (d + 4) nu w u) mcX6_191 rfl rfl (by show _ ≤ d + 5; omega) rfl rfl (Nat.le_refl _) (Nat.le_refl _) ?_
  refine G_if_eq 21 dX6_off_10 (by decide) (fun h10 => ?_) (fun h10 => ?_)
  · refine G_iconst (n := (-1)) dX6_off_21 ⟨by decide, by decide⟩ ?_
    refine G_istore_n dX6_off_22 rfl rfl ?_
    refine G_iload_n dX6_off_23 rfl ?_
    refine G_iconst (n := (-1)) dX6_off_24 ⟨by decide, by decide⟩ ?_
    refine G_icmp_eq 35 dX6_off_25 (by decide) (fun h25 => ?_) (fun h25 => ?_)
    · refine G_iconst (n := (-1)) dX6_off_35 ⟨by decide, by decide⟩ ?_
      exact G_iret dX6_off_36 rfl rfl rfl ⟨-1, rfl, rfl, Or.inl ⟨by unfold offOk; omega, rfl, rfl⟩⟩
    · refine G_aload_n dX6_off_28 rfl ?_
      refine G_getI (jj := 36) dX6_off_29 flX6_250 rfl rfl rfl ?_
      refine G_if_le 37 dX6_off_32 (by decide) (fun h32 => ?_) (fun h32 => ?_)
      · omega
      · refine G_iconst (n := (-1)) dX6_off_35 ⟨by decide, by decide⟩ ?_
        exact G_iret dX6_off_36 rfl rfl rfl ⟨-1, rfl, rfl, Or.inl ⟨by unfold offOk; omega, rfl, rfl⟩⟩
  · refine G_aload_n dX6_off_13 rfl ?_
    refine G_iload_n dX6_off_14 rfl ?_
    refine G_cVi (ci := 6) dX6_off_15 rfl (by decide) rfl (c_X6_seatOf l (d + 4) nu w u hgm) mcX6_197 rfl rfl (by show _ ≤ d + 5; omega) rfl rfl (Nat.le_refl _) (Nat.le_refl _) ?_
    refine G_goto 22 dX6_off_18 (by decide) ?_
    refine G_istore_n dX6_off_22 rfl rfl ?_
    refine G_iload_n dX6_off_23 rfl ?_
    refine G_iconst (n := (-1)) dX6_off_24 ⟨by decide, by decide⟩ ?_
    refine G_icmp_eq 35 dX6_off_25 (by decide) (fun h25 => ?_) (fun h25 => ?_)
    · refine G_iconst (n := (-1)) dX6_off_35 ⟨by decide, by decide⟩ ?_
      exact G_iret dX6_off_36 rfl rfl rfl ⟨-1, rfl, rfl, Or.inl ⟨by unfold offOk; omega, rfl, rfl⟩⟩
    · refine G_aload_n dX6_off_28 rfl ?_
      refine G_getI (jj := 36) dX6_off_29 flX6_250 rfl rfl rfl ?_
      refine G_if_le 37 dX6_off_32 (by decide) (fun h32 => ?_) (fun h32 => ?_)
      · have ho : offOk nu w u := by unfold offOk; omega
        exact tail ho (by omega)
      · refine G_iconst (n := (-1)) dX6_off_35 ⟨by decide, by decide⟩ ?_
        exact G_iret dX6_off_36 rfl rfl rfl ⟨-1, rfl, rfl, Or.inl ⟨by unfold offOk; omega, rfl, rfl⟩⟩
