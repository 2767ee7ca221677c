set_option maxRecDepth 20000 in
set_option maxHeartbeats 1000000 in
theorem c_X6_next (l : Launch) (d nu : Nat) (v : VV) (w : VV) (hw : up v 27 0 0 = w) (hB : MB nu w) (t : Int) (hcb : CB nu t w) : Ct l yX6_next cX6_next (some .int) 3 (d + 0) 0 0 [ar (some 27)] (SG nu) v (rI (SG nu) (if w 27 35 = 99 then -1 else w 27 35 + 1) (if w 27 35 = 99 then w else nextV w nu)) := by
  refine Ct_of_G [some (ar (some 27)), none, none] (by decide) rfl rfl ?_
  have hn := hB.1
  have hgm := hB.2.1
  have hwk := hB.2.2.1
  have hrb := hB.2.2.2.1
  have ht := hcb.1
  have loopB : ∀ (n : Nat) (u : Int) (z : VV) (Z : Option AV), z 27 = w 27 → z 29 = w 29 → 0 ≤ u → u + n = nu → RGok nu t z → w 27 35 < 99 → G l (yX6_next, cX6_next, (some .int), 3, (d + 0), 0, 0, none) (rI (SG nu) (w 27 35 + 1) (up (up (up (rgL n u z) 27 34 0) 27 36 0) 27 35 (w 27 35 + 1))) 0 0 (SG nu) 91 [some (ar (some 27)), some (ai u), Z] [] z := by
    intro n
    induction n using Nat.strongRecOn with
    | ind n ih =>
    intro u z Z hz27 hz29 h0 h1 hz h99
    have e33 : z 27 33 = nu := by rw [hz27]; exact hn.2
    refine G_iload_n dX6_next_91 rfl ?_
    refine G_aload_n dX6_next_92 rfl ?_
    refine G_getIv ((nu : Int)) (jj := 33) dX6_next_93 flX6_181 rfl rfl rfl e33 ?_
    refine G_icmp_ge 253 dX6_next_96 (by decide) (fun h96 => ?_) (fun h96 => ?_)
    · obtain rfl : n = 0 := by omega
      refine G_aload_n dX6_next_253 rfl ?_
      refine G_iconst (n := 0) dX6_next_254 ⟨by decide, by decide⟩ ?_
      refine G_putI (jj := 34) dX6_next_255 flX6_184 rfl rfl rfl rfl ?_
      refine G_aload_n dX6_next_258 rfl ?_
      refine G_iconst (n := 0) dX6_next_259 ⟨by decide, by decide⟩ ?_
      refine G_putI (jj := 36) dX6_next_260 flX6_250 rfl rfl rfl rfl ?_
      refine G_aload_n dX6_next_263 rfl ?_
      refine G_dup_a dX6_next_264 ?_
      refine G_getIv (w 27 35) (jj := 35) dX6_next_265 flX6_194 rfl rfl rfl (by simp [up_get, hz27]) ?_
      refine G_iconst (n := 1) dX6_next_268 ⟨by decide, by decide⟩ ?_
      refine G_iadd dX6_next_269 (iRm (by omega) (by omega)) ?_
      refine G_putI (jj := 35) dX6_next_270 flX6_194 rfl rfl rfl rfl ?_
      refine G_aload_n dX6_next_273 rfl ?_
      refine G_getIv (w 27 35 + 1) (jj := 35) dX6_next_274 flX6_194 rfl rfl rfl (up_self _ _ _ _) ?_
      exact G_iret dX6_next_277 rfl rfl rfl ⟨rfl, rfl, rfl⟩
    · obtain ⟨n, rfl⟩ : ∃ k, n = k + 1 := ⟨n - 1, by omega⟩
      have hu := hz u h0 (by omega)
      have hr6 : 1 ≤ z 29 6 ∧ z 29 6 ≤ 101 := by rw [hz29]; exact hrb.2.2.2.2.2.2.1
      have hr7 : 0 ≤ z 29 7 ∧ z 29 7 ≤ 100 := by rw [hz29]; exact hrb.2.2.2.2.2.2.2.1
      have hm6 := mul_bd (show 0 ≤ z 29 6 ∧ z 29 6 ≤ 101 by omega) hu.2.2.1
      have hm7 := mul_bd hr7 hu.2.2.1
      show G l (yX6_next, cX6_next, (some .int), 3, (d + 0), 0, 0, none) (rI (SG nu) (w 27 35 + 1) (up (up (up (rgL n (u + 1) (rg1 z u)) 27 34 0) 27 36 0) 27 35 (w 27 35 + 1))) 0 0 (SG nu) 99 [some (ar (some 27)), some (ai u), Z] [] z
      have K : ∀ (g : Int), (1 ≤ g ∧ g ≤ 4) → ((¬ g = z 36 u → rg1 z u = clr (up z 36 u g) u) ∧ (g = z 36 u → rg1 z u = z)) → G l (yX6_next, cX6_next, (some .int), 3, (d + 0), 0, 0, none) (rI (SG nu) (w 27 35 + 1) (up (up (up (rgL n (u + 1) (rg1 z u)) 27 34 0) 27 36 0) 27 35 (w 27 35 + 1))) 0 0 (SG nu) 213 [some (ar (some 27)), some (ai u), some (ai (z 36 u))] [] (up z 36 u g) := by
        intro g hg hg2
        refine G_aload_n dX6_next_213 rfl ?_
        refine G_getR (jj := 19) dX6_next_214 flX6_34 rfl rfl rfl ?_
        refine G_iload_n dX6_next_217 rfl ?_
        refine G_ialdv (g) dX6_next_218 rfl (by omega) (by omega) (up_self _ _ _ _) ?_
        refine G_iload_n dX6_next_219 rfl ?_
        refine G_icmp_ne 226 dX6_next_220 (by decide) (fun h220 => ?_) (fun h220 => ?_)
        · refine G_aload_n dX6_next_226 rfl ?_
          refine G_getR (jj := 21) dX6_next_227 flX6_40 rfl rfl rfl ?_
          refine G_iload_n dX6_next_230 rfl ?_
          refine G_iconst (n := 0) dX6_next_231 ⟨by decide, by decide⟩ ?_
          refine G_iast dX6_next_232 rfl (by omega) (by omega) ?_
          refine G_aload_n dX6_next_233 rfl ?_
          refine G_getR (jj := 22) dX6_next_234 flX6_43 rfl rfl rfl ?_
          refine G_iload_n dX6_next_237 rfl ?_
          refine G_iconst (n := 0) dX6_next_238 ⟨by decide, by decide⟩ ?_
          refine G_iast dX6_next_239 rfl (by omega) (by omega) ?_
          refine G_aload_n dX6_next_240 rfl ?_
          refine G_getR (jj := 23) dX6_next_241 flX6_46 rfl rfl rfl ?_
          refine G_iload_n dX6_next_244 rfl ?_
          refine G_iconst (n := 0) dX6_next_245 ⟨by decide, by decide⟩ ?_
          refine G_iast dX6_next_246 rfl (by omega) (by omega) ?_
          refine G_iinc dX6_next_247 rfl (iRm (by omega) (by omega)) rfl rfl ?_
          refine G_goto 91 dX6_next_250 (by decide) ?_
          rw [(hg2.1 h220)]
          exact ih n (by omega) (u + 1) _ _ (by funext b; exact congrFun hz27 b) (by funext b; exact congrFun hz29 b) (by omega) (by omega) (RGok_step (by omega) hz hg) h99
        · refine G_goto 247 dX6_next_223 (by decide) ?_
          refine G_iinc dX6_next_247 rfl (iRm (by omega) (by omega)) rfl rfl ?_
          refine G_goto 91 dX6_next_250 (by decide) ?_
          rw [hg2.2 h220]
          refine G_at (show z = up z 36 u g by rw [h220]; exact (up_id z 36 u).symm) ?_
          exact ih n (by omega) (u + 1) z _ hz27 hz29 (by omega) (by omega) hz h99
      refine G_aload_n dX6_next_99 rfl ?_
      refine G_getR (jj := 21) dX6_next_100 flX6_40 rfl rfl rfl ?_
      refine G_iload_n dX6_next_103 rfl ?_
      refine G_iald dX6_next_104 rfl (by omega) (by omega) ?_
      refine G_aload_n dX6_next_105 rfl ?_
      refine G_getR (jj := 3) dX6_next_106 flX6_13 rfl rfl rfl ?_
      refine G_bipush (n := 8) dX6_next_109 (by decide) ⟨by decide, by decide⟩ ?_
      refine G_iald dX6_next_111 rfl (by omega) (by omega) ?_
      refine G_icmp_lt 247 dX6_next_112 (by decide) (fun h112 => ?_) (fun h112 => ?_)
      · refine G_iinc dX6_next_247 rfl (iRm (by omega) (by omega)) rfl rfl ?_
        refine G_goto 91 dX6_next_250 (by decide) ?_
        rw [show rg1 z u = z by unfold rg1; rw [if_pos (by omega)]]
        exact ih n (by omega) (u + 1) z _ hz27 hz29 (by omega) (by omega) hz h99
      · refine G_aload_n dX6_next_115 rfl ?_
        refine G_getR (jj := 22) dX6_next_116 flX6_43 rfl rfl rfl ?_
        refine G_iload_n dX6_next_119 rfl ?_
        refine G_iald dX6_next_120 rfl (by omega) (by omega) ?_
        refine G_if_ne 127 dX6_next_121 (by decide) (fun h121 => ?_) (fun h121 => ?_)
        · refine G_aload_n dX6_next_127 rfl ?_
          refine G_getR (jj := 19) dX6_next_128 flX6_34 rfl rfl rfl ?_
          refine G_iload_n dX6_next_131 rfl ?_
          refine G_iald dX6_next_132 rfl (by omega) (by omega) ?_
          refine G_istore_n dX6_next_133 rfl rfl ?_
          refine G_aload_n dX6_next_134 rfl ?_
          refine G_getR (jj := 23) dX6_next_135 flX6_46 rfl rfl rfl ?_
          refine G_iload_n dX6_next_138 rfl ?_
          refine G_iald dX6_next_139 rfl (by omega) (by omega) ?_
          refine G_aload_n dX6_next_140 rfl ?_
          refine G_getR (jj := 3) dX6_next_141 flX6_13 rfl rfl rfl ?_
          refine G_bipush (n := 6) dX6_next_144 (by decide) ⟨by decide, by decide⟩ ?_
          refine G_iald dX6_next_146 rfl (by omega) (by omega) ?_
          refine G_aload_n dX6_next_147 rfl ?_
          refine G_getR (jj := 22) dX6_next_148 flX6_43 rfl rfl rfl ?_
          refine G_iload_n dX6_next_151 rfl ?_
          refine G_iald dX6_next_152 rfl (by omega) (by omega) ?_
          refine G_imul dX6_next_153 (iRm (by omega) (by omega)) ?_
          refine G_icmp_lt 175 dX6_next_154 (by decide) (fun h154 => ?_) (fun h154 => ?_)
          · refine G_aload_n dX6_next_175 rfl ?_
            refine G_getR (jj := 23) dX6_next_176 flX6_46 rfl rfl rfl ?_
            refine G_iload_n dX6_next_179 rfl ?_
            refine G_iald dX6_next_180 rfl (by omega) (by omega) ?_
            refine G_aload_n dX6_next_181 rfl ?_
            refine G_getR (jj := 3) dX6_next_182 flX6_13 rfl rfl rfl ?_
            refine G_bipush (n := 7) dX6_next_185 (by decide) ⟨by decide, by decide⟩ ?_
            refine G_iald dX6_next_187 rfl (by omega) (by omega) ?_
            refine G_aload_n dX6_next_188 rfl ?_
            refine G_getR (jj := 22) dX6_next_189 flX6_43 rfl rfl rfl ?_
            refine G_iload_n dX6_next_192 rfl ?_
            refine G_iald dX6_next_193 rfl (by omega) (by omega) ?_
            refine G_imul dX6_next_194 (iRm (by omega) (by omega)) ?_
            refine G_icmp_gt 213 dX6_next_195 (by decide) (fun h195 => ?_) (fun h195 => ?_)
            · refine G_at (up_id z 36 u) ?_
              exact K (z 36 u) (by omega) ⟨fun q => absurd rfl q, fun _ => by unfold rg1; rw [if_neg (by omega), if_neg (by omega), if_neg (by omega)]⟩
            · refine G_iload_n dX6_next_198 rfl ?_
              refine G_iconst (n := 4) dX6_next_199 ⟨by decide, by decide⟩ ?_
              refine G_icmp_ge 213 dX6_next_200 (by decide) (fun h200 => ?_) (fun h200 => ?_)
              · refine G_at (up_id z 36 u) ?_
                exact K (z 36 u) (by omega) ⟨fun q => absurd rfl q, fun _ => by unfold rg1; rw [if_neg (by omega), if_neg (by omega), if_neg (by omega)]⟩
              · refine G_aload_n dX6_next_203 rfl ?_
                refine G_getR (jj := 19) dX6_next_204 flX6_34 rfl rfl rfl ?_
                refine G_iload_n dX6_next_207 rfl ?_
                refine G_dup2 dX6_next_208 ?_
                refine G_iald dX6_next_209 rfl (by omega) (by omega) ?_
                refine G_iconst (n := 1) dX6_next_210 ⟨by decide, by decide⟩ ?_
                refine G_iadd dX6_next_211 (iRm (by omega) (by omega)) ?_
                refine G_iast dX6_next_212 rfl (by omega) (by omega) ?_
                exact K (z 36 u + 1) (by omega) ⟨fun _ => by unfold rg1; rw [if_neg (by omega), if_neg (by omega), if_pos (by omega)], fun q => by omega⟩
          · refine G_iload_n dX6_next_157 rfl ?_
            refine G_iconst (n := 1) dX6_next_158 ⟨by decide, by decide⟩ ?_
            refine G_icmp_le 175 dX6_next_159 (by decide) (fun h159 => ?_) (fun h159 => ?_)
            · refine G_aload_n dX6_next_175 rfl ?_
              refine G_getR (jj := 23) dX6_next_176 flX6_46 rfl rfl rfl ?_
              refine G_iload_n dX6_next_179 rfl ?_
              refine G_iald dX6_next_180 rfl (by omega) (by omega) ?_
              refine G_aload_n dX6_next_181 rfl ?_
              refine G_getR (jj := 3) dX6_next_182 flX6_13 rfl rfl rfl ?_
              refine G_bipush (n := 7) dX6_next_185 (by decide) ⟨by decide, by decide⟩ ?_
              refine G_iald dX6_next_187 rfl (by omega) (by omega) ?_
              refine G_aload_n dX6_next_188 rfl ?_
              refine G_getR (jj := 22) dX6_next_189 flX6_43 rfl rfl rfl ?_
              refine G_iload_n dX6_next_192 rfl ?_
              refine G_iald dX6_next_193 rfl (by omega) (by omega) ?_
              refine G_imul dX6_next_194 (iRm (by omega) (by omega)) ?_
              refine G_icmp_gt 213 dX6_next_195 (by decide) (fun h195 => ?_) (fun h195 => ?_)
              · refine G_at (up_id z 36 u) ?_
                exact K (z 36 u) (by omega) ⟨fun q => absurd rfl q, fun _ => by unfold rg1; rw [if_neg (by omega), if_neg (by omega), if_neg (by omega)]⟩
              · refine G_iload_n dX6_next_198 rfl ?_
                refine G_iconst (n := 4) dX6_next_199 ⟨by decide, by decide⟩ ?_
                refine G_icmp_ge 213 dX6_next_200 (by decide) (fun h200 => ?_) (fun h200 => ?_)
                · refine G_at (up_id z 36 u) ?_
                  exact K (z 36 u) (by omega) ⟨fun q => absurd rfl q, fun _ => by unfold rg1; rw [if_neg (by omega), if_neg (by omega), if_neg (by omega)]⟩
                · refine G_aload_n dX6_next_203 rfl ?_
                  refine G_getR (jj := 19) dX6_next_204 flX6_34 rfl rfl rfl ?_
                  refine G_iload_n dX6_next_207 rfl ?_
                  refine G_dup2 dX6_next_208 ?_
                  refine G_iald dX6_next_209 rfl (by omega) (by omega) ?_
                  refine G_iconst (n := 1) dX6_next_210 ⟨by decide, by decide⟩ ?_
                  refine G_iadd dX6_next_211 (iRm (by omega) (by omega)) ?_
                  refine G_iast dX6_next_212 rfl (by omega) (by omega) ?_
                  exact K (z 36 u + 1) (by omega) ⟨fun _ => by unfold rg1; rw [if_neg (by omega), if_neg (by omega), if_pos (by omega)], fun q => by omega⟩
            · refine G_aload_n dX6_next_162 rfl ?_
              refine G_getR (jj := 19) dX6_next_163 flX6_34 rfl rfl rfl ?_
              refine G_iload_n dX6_next_166 rfl ?_
              refine G_dup2 dX6_next_167 ?_
              refine G_iald dX6_next_168 rfl (by omega) (by omega) ?_
              refine G_iconst (n := 1) dX6_next_169 ⟨by decide, by decide⟩ ?_
              refine G_isub dX6_next_170 (iRm (by omega) (by omega)) ?_
              refine G_iast dX6_next_171 rfl (by omega) (by omega) ?_
              refine G_goto 213 dX6_next_172 (by decide) ?_
              exact K (z 36 u - 1) (by omega) ⟨fun _ => by unfold rg1; rw [if_neg (by omega), if_pos (by omega)], fun q => by omega⟩
        · refine G_goto 247 dX6_next_124 (by decide) ?_
          refine G_iinc dX6_next_247 rfl (iRm (by omega) (by omega)) rfl rfl ?_
          refine G_goto 91 dX6_next_250 (by decide) ?_
          rw [show rg1 z u = z by unfold rg1; rw [if_pos (by omega)]]
          exact ih n (by omega) (u + 1) z _ hz27 hz29 (by omega) (by omega) hz h99
  have loopA : ∀ (n : Nat) (s : Int) (z : VV), (∀ k, k ≠ 41 → k ≠ 42 → z k = w k) → (∀ x : Int, 0 ≤ x → x < nu → 0 ≤ z 41 x ∧ z 41 x ≤ 99 + s) → 0 ≤ s → s + n = 2 * w 27 34 → w 27 35 < 99 → G l (yX6_next, cX6_next, (some .int), 3, (d + 0), 0, 0, none) (rI (SG nu) (w 27 35 + 1) (up (up (up (rgL nu 0 (stL n s z)) 27 34 0) 27 36 0) 27 35 (w 27 35 + 1))) 0 0 (SG nu) 18 [some (ar (some 27)), some (ai s), none] [] z := by
    intro n
    induction n using Nat.strongRecOn with
    | ind n ih =>
    intro s z hz h41 h0 h1 h99
    have z27 := hz 27 (by decide) (by decide)
    have z48 := hz 48 (by decide) (by decide)
    have e34 : z 27 34 = w 27 34 := by rw [z27]
    have e35 : z 27 35 = w 27 35 := by rw [z27]
    refine G_iload_n dX6_next_18 rfl ?_
    refine G_iconst (n := 2) dX6_next_19 ⟨by decide, by decide⟩ ?_
    refine G_aload_n dX6_next_20 rfl ?_
    refine G_getIv (w 27 34) (jj := 34) dX6_next_21 flX6_184 rfl rfl rfl e34 ?_
    refine G_imul dX6_next_24 (iRm (by omega) (by omega)) ?_
    refine G_icmp_ge 89 dX6_next_25 (by decide) (fun h25 => ?_) (fun h25 => ?_)
    · obtain rfl : n = 0 := by omega
      refine G_iconst (n := 0) dX6_next_89 ⟨by decide, by decide⟩ ?_
      refine G_istore_n dX6_next_90 rfl rfl ?_
      exact loopB nu 0 z _ z27 (hz 29 (by decide) (by decide)) (by omega) (by omega) (fun x x1 x2 => by rw [hz 36 (by decide) (by decide), hz 38 (by decide) (by decide), hz 39 (by decide) (by decide), hz 40 (by decide) (by decide)]; have a := hB.2.2.2.2.1 x x1 x2; have b := hcb.2.2 x x1 x2; exact ⟨a.2.2.1, b⟩) h99
    · obtain ⟨n, rfl⟩ : ∃ k, n = k + 1 := ⟨n - 1, by omega⟩
      have hws : -1 ≤ z 48 s ∧ z 48 s < nu := by rw [z48]; exact hB.2.2.2.2.2.2 s (by omega) (by omega)
      refine G_aload_n dX6_next_28 rfl ?_
      refine G_getR (jj := 31) dX6_next_29 flX6_71 rfl rfl rfl ?_
      refine G_iload_n dX6_next_32 rfl ?_
      refine G_iald dX6_next_33 rfl (by omega) (by omega) ?_
      refine G_iconst (n := (-1)) dX6_next_34 ⟨by decide, by decide⟩ ?_
      refine G_icmp_ne 41 dX6_next_35 (by decide) (fun h35 => ?_) (fun h35 => ?_)
      · have h4 := h41 (z 48 s) (by omega) (by omega)
        refine G_aload_n dX6_next_41 rfl ?_
        refine G_getR (jj := 25) dX6_next_42 flX6_52 rfl rfl rfl ?_
        refine G_bipush (n := 100) dX6_next_45 (by decide) ⟨by decide, by decide⟩ ?_
        refine G_aload_n dX6_next_47 rfl ?_
        refine G_getR (jj := 31) dX6_next_48 flX6_71 rfl rfl rfl ?_
        refine G_iload_n dX6_next_51 rfl ?_
        refine G_iald dX6_next_52 rfl (by omega) (by omega) ?_
        refine G_imul dX6_next_53 (iRm (by omega) (by omega)) ?_
        refine G_aload_n dX6_next_54 rfl ?_
        refine G_getI (jj := 35) dX6_next_55 flX6_194 rfl rfl rfl ?_
        refine G_iadd dX6_next_58 (iRm (by omega) (by omega)) ?_
        refine G_aload_n dX6_next_59 rfl ?_
        refine G_getR (jj := 29) dX6_next_60 flX6_65 rfl rfl rfl ?_
        refine G_iload_n dX6_next_63 rfl ?_
        refine G_iconst (n := 2) dX6_next_64 ⟨by decide, by decide⟩ ?_
        refine G_idiv dX6_next_65 (by omega) (by omega) ?_
        refine G_iald dX6_next_66 rfl (by omega) (by omega) ?_
        refine G_iast dX6_next_67 rfl (by omega) (by omega) ?_
        refine G_aload_n dX6_next_68 rfl ?_
        refine G_getR (jj := 24) dX6_next_69 flX6_49 rfl rfl rfl ?_
        refine G_aload_n dX6_next_72 rfl ?_
        refine G_getR (jj := 31) dX6_next_73 flX6_71 rfl rfl rfl ?_
        refine G_iload_n dX6_next_76 rfl ?_
        refine G_ialdv (z 48 s) dX6_next_77 rfl (by omega) (by omega) rfl ?_
        refine G_dup2 dX6_next_78 ?_
        refine G_ialdv (z 41 (z 48 s)) dX6_next_79 rfl (by omega) (by omega) rfl ?_
        refine G_iconst (n := 1) dX6_next_80 ⟨by decide, by decide⟩ ?_
        refine G_iadd dX6_next_81 (iRm (by omega) (by omega)) ?_
        refine G_iast dX6_next_82 rfl (by omega) (by omega) ?_
        refine G_iinc dX6_next_83 rfl (iRm (by omega) (by omega)) rfl rfl ?_
        refine G_goto 18 dX6_next_86 (by decide) ?_
        rw [show stL (n + 1) s z = stL n (s + 1) (up (up z 42 (100 * z 48 s + z 27 35) (z 46 (s / 2))) 41 (z 48 s) (z 41 (z 48 s) + 1)) by rw [stL, st1, if_neg h35]]
        refine ih n (by omega) (s + 1) _ (fun k k1 k2 => ?_) (fun x x1 x2 => ?_) (by omega) (by omega) h99
        · rw [up_ne k1, up_ne k2]; exact hz k k1 k2
        · have a := h41 x x1 x2
          by_cases e : x = z 48 s
          · simp [up_get, e]; omega
          · simp [up_get, e]; omega
      · refine G_goto 83 dX6_next_38 (by decide) ?_
        refine G_iinc dX6_next_83 rfl (iRm (by omega) (by omega)) rfl rfl ?_
        refine G_goto 18 dX6_next_86 (by decide) ?_
        rw [show stL (n + 1) s z = stL n (s + 1) z by rw [stL, st1, if_pos h35]]
        exact ih n (by omega) (s + 1) z hz (fun x x1 x2 => by have a := h41 x x1 x2; omega) (by omega) (by omega) h99
  refine G_aload_n dX6_next_0 rfl ?_
  refine G_iconst (n := 0) dX6_next_1 ⟨by decide, by decide⟩ ?_
  refine G_putI (jj := 0) dX6_next_2 flX6_101 rfl rfl rfl rfl ?_
  rw [hw]
  refine G_aload_n dX6_next_5 rfl ?_
  refine G_getI (jj := 35) dX6_next_6 flX6_194 rfl rfl rfl ?_
  refine G_bipush (n := 99) dX6_next_9 (by decide) ⟨by decide, by decide⟩ ?_
  refine G_icmp_ne 16 dX6_next_11 (by decide) (fun h11 => ?_) (fun h11 => ?_)
  · refine G_iconst (n := 0) dX6_next_16 ⟨by decide, by decide⟩ ?_
    refine G_istore_n dX6_next_17 rfl rfl ?_
    rw [if_neg h11, if_neg h11]
    exact loopA (2 * w 27 34).toNat 0 w (fun _ _ _ => rfl) (fun x x1 x2 => by have a := (hB.2.2.2.2.1 x x1 x2).2.2.2.2; omega) (by omega) (by omega) (by omega)
  · refine G_iconst (n := (-1)) dX6_next_14 ⟨by decide, by decide⟩ ?_
    exact G_iret dX6_next_15 rfl rfl rfl ⟨by rw [if_pos h11], rfl, by rw [if_pos h11]⟩
