theorem K_up {nu : Nat} {t : Int} {z : VV} (ht : t + 1 ≤ 1000) (h : CB nu t z ∧ FZ nu z ∧ R3 z) : CB nu (t + 1) z ∧ FZ nu z ∧ R3 z := ⟨CB_up h.1 (by omega) ht, h.2⟩
theorem J_of {nu : Nat} {t : Int} {b z : VV} (F : VV → VV) {c : Prop} [Decidable c] (hgl : F (glue b z) = glue b (F z)) (hS2 : Sim nu b (if c then F z else z)) (hK : CB nu t z ∧ FZ nu z ∧ R3 z) (ht : t + 1 ≤ 1000) (hF : c → CB nu (t + 1) (F z) ∧ FZ nu (F z) ∧ R3 (F z)) : LI nu (t + 1) (if c then F (glue b z) else glue b z) := by
  by_cases h : c
  · rw [if_pos h] at hS2 ⊢
    rw [hgl]
    exact LI_gl hS2 (hF h).1 (hF h).2.1 (hF h).2.2
  · rw [if_neg h] at hS2 ⊢
    have q := K_up ht hK
    exact LI_gl hS2 q.1 q.2.1 q.2.2
theorem J_no {nu : Nat} {t : Int} {b z : VV} (F : VV → VV) {c : Prop} [Decidable c] (hgl : F (glue b z) = glue b (F z)) (hS2 : Sim nu b (if c then z else F z)) (hK : CB nu t z ∧ FZ nu z ∧ R3 z) (ht : t + 1 ≤ 1000) (hF : ¬ c → CB nu (t + 1) (F z) ∧ FZ nu (F z) ∧ R3 (F z)) : LI nu (t + 1) (if c then glue b z else F (glue b z)) := by
  by_cases h : c
  · rw [if_pos h] at hS2 ⊢
    have q := K_up ht hK
    exact LI_gl hS2 q.1 q.2.1 q.2.2
  · rw [if_neg h] at hS2 ⊢
    rw [hgl]
    exact LI_gl hS2 (hF h).1 (hF h).2.1 (hF h).2.2
set_option maxRecDepth 20000 in
set_option maxHeartbeats 1000000 in
theorem lo_feed (l : Launch) (hl : l.stackTraces = false) (L : Nat) (xs : Nat → Int32) (i t : Int) (h0 : 0 ≤ i) (h1 : i + 6 ≤ L) (hL : L ≤ 3072) (ht : t + 1 ≤ 1000) (nu : Nat) (v : VV) (h : LI nu t v) (c0 s0 : Nat) (hc : c0 + 3 ≤ 601024) (hs : s0 + 211 ≤ 7293034) (Z5 Z6 : Option AV) (k : KK l L xs i t c0 s0) : G l (yL_law, cL_law, some .boolean, 7, 13, 601024, 7293034, some (L, xs)) (fun r _ _ => r = some (ai 1)) c0 s0 (SG nu) 132 [some (ax 0), some (ar (some 0)), some (ar (some 27)), some (ar (some 58)), some (ai i), Z5, Z6] [] v := by
  have hS := h.1
  have hz : Sim nu v (up v 27 0 0) := Sim_0 hS
  have hK3 : CB nu t (up v 27 0 0) ∧ FZ nu (up v 27 0 0) ∧ R3 (up v 27 0 0) := ⟨CB_0 h.2.1, FZ_0 h.2.2.1, R3_0 h.2.2.2⟩
  have hMB : MB nu (up v 27 0 0) := hz.1
  refine G_aload_n dL_law_132 rfl ?_
  refine G_aload_nX dL_law_133 rfl ?_
  refine G_iload dL_law_134 rfl ?_
  refine G_iconst (n := 1) dL_law_136 ⟨by decide, by decide⟩ ?_
  refine G_iadd dL_law_137 (iRm (by omega) (by omega)) ?_
  refine G_sld (L := L) (xs := xs) rfl dL_law_138 (by omega) (by omega) ?_
  refine G_aload_nX dL_law_139 rfl ?_
  refine G_iload dL_law_140 rfl ?_
  refine G_iconst (n := 2) dL_law_142 ⟨by decide, by decide⟩ ?_
  refine G_iadd dL_law_143 (iRm (by omega) (by omega)) ?_
  refine G_sld (L := L) (xs := xs) rfl dL_law_144 (by omega) (by omega) ?_
  refine G_aload_nX dL_law_145 rfl ?_
  refine G_iload dL_law_146 rfl ?_
  refine G_iconst (n := 3) dL_law_148 ⟨by decide, by decide⟩ ?_
  refine G_iadd dL_law_149 (iRm (by omega) (by omega)) ?_
  refine G_sld (L := L) (xs := xs) rfl dL_law_150 (by omega) (by omega) ?_
  refine G_aload_nX dL_law_151 rfl ?_
  refine G_iload dL_law_152 rfl ?_
  refine G_iconst (n := 4) dL_law_154 ⟨by decide, by decide⟩ ?_
  refine G_iadd dL_law_155 (iRm (by omega) (by omega)) ?_
  refine G_sld (L := L) (xs := xs) rfl dL_law_156 (by omega) (by omega) ?_
  refine G_aload_nX dL_law_157 rfl ?_
  refine G_iload dL_law_158 rfl ?_
  refine G_iconst (n := 5) dL_law_160 ⟨by decide, by decide⟩ ?_
  refine G_iadd dL_law_161 (iRm (by omega) (by omega)) ?_
  refine G_sld (L := L) (xs := xs) rfl dL_law_162 (by omega) (by omega) ?_
  refine G_cVq (ci := 5) dL_law_163 rfl (by decide) rfl (c_X5_feed l 9 nu v (up v 27 0 0) hz (scI xs (i + 1)) (scI xs (i + 2)) (scI xs (i + 3)) (scI xs (i + 4)) (scI xs (i + 5)) (scI_R xs _) (scI_R xs _) (scI_R xs _) (scI_R xs _) (scI_R xs _)) mcL_19 rfl rfl (by show _ ≤ 13; omega) rfl rfl (by show _ ≤ 601024; omega) (by show _ ≤ 7293034; omega) (fun r S2 v2 hq9 => ?_)
  obtain ⟨rfl, rfl, hS2, hKM⟩ := hq9
  refine G_aload_n dL_law_166 rfl ?_
  refine G_aload_nX dL_law_167 rfl ?_
  refine G_iload dL_law_168 rfl ?_
  refine G_iconst (n := 1) dL_law_170 ⟨by decide, by decide⟩ ?_
  refine G_iadd dL_law_171 (iRm (by omega) (by omega)) ?_
  refine G_sld (L := L) (xs := xs) rfl dL_law_172 (by omega) (by omega) ?_
  refine G_aload_nX dL_law_173 rfl ?_
  refine G_iload dL_law_174 rfl ?_
  refine G_iconst (n := 2) dL_law_176 ⟨by decide, by decide⟩ ?_
  refine G_iadd dL_law_177 (iRm (by omega) (by omega)) ?_
  refine G_sld (L := L) (xs := xs) rfl dL_law_178 (by omega) (by omega) ?_
  refine G_aload_nX dL_law_179 rfl ?_
  refine G_iload dL_law_180 rfl ?_
  refine G_iconst (n := 3) dL_law_182 ⟨by decide, by decide⟩ ?_
  refine G_iadd dL_law_183 (iRm (by omega) (by omega)) ?_
  refine G_sld (L := L) (xs := xs) rfl dL_law_184 (by omega) (by omega) ?_
  refine G_aload_nX dL_law_185 rfl ?_
  refine G_iload dL_law_186 rfl ?_
  refine G_iconst (n := 4) dL_law_188 ⟨by decide, by decide⟩ ?_
  refine G_iadd dL_law_189 (iRm (by omega) (by omega)) ?_
  refine G_sld (L := L) (xs := xs) rfl dL_law_190 (by omega) (by omega) ?_
  refine G_aload_nX dL_law_191 rfl ?_
  refine G_iload dL_law_192 rfl ?_
  refine G_iconst (n := 5) dL_law_194 ⟨by decide, by decide⟩ ?_
  refine G_iadd dL_law_195 (iRm (by omega) (by omega)) ?_
  refine G_sld (L := L) (xs := xs) rfl dL_law_196 (by omega) (by omega) ?_
  refine G_cVi (ci := 6) dL_law_197 rfl (by decide) rfl (c_X6_feed l 11 nu v2 _ (KM_gl hKM) (scI xs (i + 1)) (scI xs (i + 2)) (scI xs (i + 3)) (scI xs (i + 4)) (scI xs (i + 5)) (scI_R xs _) (scI_R xs _) (scI_R xs _) (scI_R xs _) (scI_R xs _) hz.2.2.2.2.2.2.2.1.2.2.1) mcL_23 rfl rfl (by show _ ≤ 13; omega) rfl rfl (by show _ ≤ 601024; omega) (by show _ ≤ 7293034; omega) ?_
  exact G_icmp_eq 850 dL_law_200 (by decide) (fun _ => k nu _ _ _ _ _ (J_of (fun q => feedV q (scI xs (i + 1)) (scI xs (i + 2)) (scI xs (i + 3)) (scI xs (i + 4)) (scI xs (i + 5))) (feedV_gl _ _ _ _ _ _ _) hS2 hK3 ht (fun _ => K_up ht (K_feed _ _ _ _ _ hK3))) (by omega) (by omega)) (fun hne => absurd rfl hne)
set_option maxRecDepth 20000 in
set_option maxHeartbeats 1000000 in
theorem lo_end (l : Launch) (hl : l.stackTraces = false) (L : Nat) (xs : Nat → Int32) (i t : Int) (h0 : 0 ≤ i) (h1 : i + 6 ≤ L) (hL : L ≤ 3072) (ht : t + 1 ≤ 1000) (nu : Nat) (v : VV) (h : LI nu t v) (c0 s0 : Nat) (hc : c0 + 3 ≤ 601024) (hs : s0 + 211 ≤ 7293034) (Z5 Z6 : Option AV) (k : KK l L xs i t c0 s0) : G l (yL_law, cL_law, some .boolean, 7, 13, 601024, 7293034, some (L, xs)) (fun r _ _ => r = some (ai 1)) c0 s0 (SG nu) 205 [some (ax 0), some (ar (some 0)), some (ar (some 27)), some (ar (some 58)), some (ai i), Z5, Z6] [] v := by
  have hS := h.1
  have hz : Sim nu v (up v 27 0 0) := Sim_0 hS
  have hK3 : CB nu t (up v 27 0 0) ∧ FZ nu (up v 27 0 0) ∧ R3 (up v 27 0 0) := ⟨CB_0 h.2.1, FZ_0 h.2.2.1, R3_0 h.2.2.2⟩
  have hMB : MB nu (up v 27 0 0) := hz.1
  refine G_aload_n dL_law_205 rfl ?_
  refine G_aload_nX dL_law_206 rfl ?_
  refine G_iload dL_law_207 rfl ?_
  refine G_iconst (n := 1) dL_law_209 ⟨by decide, by decide⟩ ?_
  refine G_iadd dL_law_210 (iRm (by omega) (by omega)) ?_
  refine G_sld (L := L) (xs := xs) rfl dL_law_211 (by omega) (by omega) ?_
  refine G_cVq (ci := 5) dL_law_212 rfl (by decide) rfl (c_X5_end l 11 nu v (up v 27 0 0) hz (scI xs (i + 1))) mcL_24 rfl rfl (by show _ ≤ 13; omega) rfl rfl (by show _ ≤ 601024; omega) (by show _ ≤ 7293034; omega) (fun r S2 v2 hq9 => ?_)
  obtain ⟨rfl, rfl, hS2, hKM⟩ := hq9
  refine G_aload_n dL_law_215 rfl ?_
  refine G_aload_nX dL_law_216 rfl ?_
  refine G_iload dL_law_217 rfl ?_
  refine G_iconst (n := 1) dL_law_219 ⟨by decide, by decide⟩ ?_
  refine G_iadd dL_law_220 (iRm (by omega) (by omega)) ?_
  refine G_sld (L := L) (xs := xs) rfl dL_law_221 (by omega) (by omega) ?_
  refine G_cVi (ci := 6) dL_law_222 rfl (by decide) rfl (c_X6_end l 12 nu v2 _ (KM_gl hKM) (scI xs (i + 1))) mcL_28 rfl rfl (by show _ ≤ 13; omega) rfl rfl (by show _ ≤ 601024; omega) (by show _ ≤ 7293034; omega) ?_
  exact G_icmp_eq 850 dL_law_225 (by decide) (fun _ => k nu _ _ _ _ _ (J_of (fun q => up q 27 2 (scI xs (i + 1))) (up_gl (by omega) (by omega)) hS2 hK3 ht (fun _ => K_up ht (K_end _ hK3))) (by omega) (by omega)) (fun hne => absurd rfl hne)
set_option maxRecDepth 20000 in
set_option maxHeartbeats 1000000 in
theorem lo_game (l : Launch) (hl : l.stackTraces = false) (L : Nat) (xs : Nat → Int32) (i t : Int) (h0 : 0 ≤ i) (h1 : i + 6 ≤ L) (hL : L ≤ 3072) (ht : t + 1 ≤ 1000) (nu : Nat) (v : VV) (h : LI nu t v) (c0 s0 : Nat) (hc : c0 + 3 ≤ 601024) (hs : s0 + 211 ≤ 7293034) (Z5 Z6 : Option AV) (k : KK l L xs i t c0 s0) : G l (yL_law, cL_law, some .boolean, 7, 13, 601024, 7293034, some (L, xs)) (fun r _ _ => r = some (ai 1)) c0 s0 (SG nu) 407 [some (ax 0), some (ar (some 0)), some (ar (some 27)), some (ar (some 58)), some (ai i), Z5, Z6] [] v := by
  have hS := h.1
  have hz : Sim nu v (up v 27 0 0) := Sim_0 hS
  have hK3 : CB nu t (up v 27 0 0) ∧ FZ nu (up v 27 0 0) ∧ R3 (up v 27 0 0) := ⟨CB_0 h.2.1, FZ_0 h.2.2.1, R3_0 h.2.2.2⟩
  have hMB : MB nu (up v 27 0 0) := hz.1
  refine G_aload_n dL_law_407 rfl ?_
  refine G_aload_nX dL_law_408 rfl ?_
  refine G_iload dL_law_409 rfl ?_
  refine G_iconst (n := 1) dL_law_411 ⟨by decide, by decide⟩ ?_
  refine G_iadd dL_law_412 (iRm (by omega) (by omega)) ?_
  refine G_sld (L := L) (xs := xs) rfl dL_law_413 (by omega) (by omega) ?_
  refine G_aload_nX dL_law_414 rfl ?_
  refine G_iload dL_law_415 rfl ?_
  refine G_iconst (n := 2) dL_law_417 ⟨by decide, by decide⟩ ?_
  refine G_iadd dL_law_418 (iRm (by omega) (by omega)) ?_
  refine G_sld (L := L) (xs := xs) rfl dL_law_419 (by omega) (by omega) ?_
  refine G_aload_nX dL_law_420 rfl ?_
  refine G_iload dL_law_421 rfl ?_
  refine G_iconst (n := 3) dL_law_423 ⟨by decide, by decide⟩ ?_
  refine G_iadd dL_law_424 (iRm (by omega) (by omega)) ?_
  refine G_sld (L := L) (xs := xs) rfl dL_law_425 (by omega) (by omega) ?_
  refine G_aload_nX dL_law_426 rfl ?_
  refine G_iload dL_law_427 rfl ?_
  refine G_iconst (n := 4) dL_law_429 ⟨by decide, by decide⟩ ?_
  refine G_iadd dL_law_430 (iRm (by omega) (by omega)) ?_
  refine G_sld (L := L) (xs := xs) rfl dL_law_431 (by omega) (by omega) ?_
  refine G_aload_nX dL_law_432 rfl ?_
  refine G_iload dL_law_433 rfl ?_
  refine G_iconst (n := 5) dL_law_435 ⟨by decide, by decide⟩ ?_
  refine G_iadd dL_law_436 (iRm (by omega) (by omega)) ?_
  refine G_sld (L := L) (xs := xs) rfl dL_law_437 (by omega) (by omega) ?_
  refine G_cVq (ci := 5) dL_law_438 rfl (by decide) rfl (c_X5_game l 11 nu v (up v 27 0 0) hz (scI xs (i + 1)) (scI xs (i + 2)) (scI xs (i + 3)) (scI xs (i + 4)) (scI xs (i + 5))) mcL_53 rfl rfl (by show _ ≤ 13; omega) rfl rfl (by show _ ≤ 601024; omega) (by show _ ≤ 7293034; omega) (fun r S2 v2 hq9 => ?_)
  obtain ⟨rfl, rfl, hS2, hKM⟩ := hq9
  refine G_aload_n dL_law_441 rfl ?_
  refine G_aload_nX dL_law_442 rfl ?_
  refine G_iload dL_law_443 rfl ?_
  refine G_iconst (n := 1) dL_law_445 ⟨by decide, by decide⟩ ?_
  refine G_iadd dL_law_446 (iRm (by omega) (by omega)) ?_
  refine G_sld (L := L) (xs := xs) rfl dL_law_447 (by omega) (by omega) ?_
  refine G_aload_nX dL_law_448 rfl ?_
  refine G_iload dL_law_449 rfl ?_
  refine G_iconst (n := 2) dL_law_451 ⟨by decide, by decide⟩ ?_
  refine G_iadd dL_law_452 (iRm (by omega) (by omega)) ?_
  refine G_sld (L := L) (xs := xs) rfl dL_law_453 (by omega) (by omega) ?_
  refine G_aload_nX dL_law_454 rfl ?_
  refine G_iload dL_law_455 rfl ?_
  refine G_iconst (n := 3) dL_law_457 ⟨by decide, by decide⟩ ?_
  refine G_iadd dL_law_458 (iRm (by omega) (by omega)) ?_
  refine G_sld (L := L) (xs := xs) rfl dL_law_459 (by omega) (by omega) ?_
  refine G_aload_nX dL_law_460 rfl ?_
  refine G_iload dL_law_461 rfl ?_
  refine G_iconst (n := 4) dL_law_463 ⟨by decide, by decide⟩ ?_
  refine G_iadd dL_law_464 (iRm (by omega) (by omega)) ?_
  refine G_sld (L := L) (xs := xs) rfl dL_law_465 (by omega) (by omega) ?_
  refine G_aload_nX dL_law_466 rfl ?_
  refine G_iload dL_law_467 rfl ?_
  refine G_iconst (n := 5) dL_law_469 ⟨by decide, by decide⟩ ?_
  refine G_iadd dL_law_470 (iRm (by omega) (by omega)) ?_
  refine G_sld (L := L) (xs := xs) rfl dL_law_471 (by omega) (by omega) ?_
  refine G_cVi (ci := 6) dL_law_472 rfl (by decide) rfl (c_X6_game l 11 nu v2 _ (KM_gl hKM) hMB (scI xs (i + 1)) (scI xs (i + 2)) (scI xs (i + 3)) (scI xs (i + 4)) (scI xs (i + 5))) mcL_56 rfl rfl (by show _ ≤ 13; omega) rfl rfl (by show _ ≤ 601024; omega) (by show _ ≤ 7293034; omega) ?_
  exact G_icmp_eq 850 dL_law_475 (by decide) (fun _ => k nu _ _ _ _ _ (J_of (fun q => gameV q (scI xs (i + 1)) (scI xs (i + 2)) (scI xs (i + 3)) (scI xs (i + 4)) (scI xs (i + 5))) (gameV_gl _ _ _ _ _ _ _) hS2 hK3 ht (fun _ => K_up ht (K_game _ _ _ _ _ hK3))) (by omega) (by omega)) (fun hne => absurd rfl hne)
set_option maxRecDepth 20000 in
set_option maxHeartbeats 1000000 in
theorem lo_next (l : Launch) (hl : l.stackTraces = false) (L : Nat) (xs : Nat → Int32) (i t : Int) (h0 : 0 ≤ i) (h1 : i + 6 ≤ L) (hL : L ≤ 3072) (ht : t + 1 ≤ 1000) (nu : Nat) (v : VV) (h : LI nu t v) (c0 s0 : Nat) (hc : c0 + 3 ≤ 601024) (hs : s0 + 211 ≤ 7293034) (Z5 Z6 : Option AV) (k : KK l L xs i t c0 s0) : G l (yL_law, cL_law, some .boolean, 7, 13, 601024, 7293034, some (L, xs)) (fun r _ _ => r = some (ai 1)) c0 s0 (SG nu) 694 [some (ax 0), some (ar (some 0)), some (ar (some 27)), some (ar (some 58)), some (ai i), Z5, Z6] [] v := by
  have hS := h.1
  have hz : Sim nu v (up v 27 0 0) := Sim_0 hS
  have hK3 : CB nu t (up v 27 0 0) ∧ FZ nu (up v 27 0 0) ∧ R3 (up v 27 0 0) := ⟨CB_0 h.2.1, FZ_0 h.2.2.1, R3_0 h.2.2.2⟩
  have hMB : MB nu (up v 27 0 0) := hz.1
  refine G_aload_n dL_law_694 rfl ?_
  refine G_cVq (ci := 5) dL_law_695 rfl (by decide) rfl (c_X5_next l 7 nu v (up v 27 0 0) hz t hK3.1) mcL_83 rfl rfl (by show _ ≤ 13; omega) rfl rfl (by show _ ≤ 601024; omega) (by show _ ≤ 7293034; omega) (fun r S2 v2 hq9 => ?_)
  obtain ⟨rfl, rfl, hS2, hKM⟩ := hq9
  refine G_aload_n dL_law_698 rfl ?_
  refine G_cVi (ci := 6) dL_law_699 rfl (by decide) rfl (c_X6_next l 12 nu v2 _ (KM_gl hKM) hMB t hK3.1) mcL_86 rfl rfl (by show _ ≤ 13; omega) rfl rfl (by show _ ≤ 601024; omega) (by show _ ≤ 7293034; omega) ?_
  exact G_icmp_eq 850 dL_law_702 (by decide) (fun _ => k nu _ _ _ _ _ (J_no (fun q => nextV q nu) (nextV_gl _ _ _) hS2 hK3 ht (fun _ => K_up ht (K_next hMB hK3))) (by omega) (by omega)) (fun hne => absurd rfl hne)
set_option maxRecDepth 20000 in
set_option maxHeartbeats 1000000 in
theorem lo_off (l : Launch) (hl : l.stackTraces = false) (L : Nat) (xs : Nat → Int32) (i t : Int) (h0 : 0 ≤ i) (h1 : i + 6 ≤ L) (hL : L ≤ 3072) (ht : t + 1 ≤ 1000) (nu : Nat) (v : VV) (h : LI nu t v) (c0 s0 : Nat) (hc : c0 + 3 ≤ 601024) (hs : s0 + 211 ≤ 7293034) (Z5 Z6 : Option AV) (k : KK l L xs i t c0 s0) : G l (yL_law, cL_law, some .boolean, 7, 13, 601024, 7293034, some (L, xs)) (fun r _ _ => r = some (ai 1)) c0 s0 (SG nu) 567 [some (ax 0), some (ar (some 0)), some (ar (some 27)), some (ar (some 58)), some (ai i), Z5, Z6] [] v := by
  have hS := h.1
  have hz : Sim nu v (up v 27 0 0) := Sim_0 hS
  have hK3 : CB nu t (up v 27 0 0) ∧ FZ nu (up v 27 0 0) ∧ R3 (up v 27 0 0) := ⟨CB_0 h.2.1, FZ_0 h.2.2.1, R3_0 h.2.2.2⟩
  have hMB : MB nu (up v 27 0 0) := hz.1
  refine G_aload_n dL_law_567 rfl ?_
  refine G_aload_nX dL_law_568 rfl ?_
  refine G_iload dL_law_569 rfl ?_
  refine G_iconst (n := 1) dL_law_571 ⟨by decide, by decide⟩ ?_
  refine G_iadd dL_law_572 (iRm (by omega) (by omega)) ?_
  refine G_sld (L := L) (xs := xs) rfl dL_law_573 (by omega) (by omega) ?_
  refine G_cVq (ci := 5) dL_law_574 rfl (by decide) rfl (c_X5_off l 5 nu v (up v 27 0 0) hz (scI xs (i + 1))) mcL_70 rfl rfl (by show _ ≤ 13; omega) rfl rfl (by show _ ≤ 601024; omega) (by show _ ≤ 7293034; omega) (fun r S2 v2 hq9 => ?_)
  obtain ⟨x, z2, rfl, rfl, hP, hS2, hKM⟩ := hq9
  refine G_aload_n dL_law_577 rfl ?_
  refine G_aload_nX dL_law_578 rfl ?_
  refine G_iload dL_law_579 rfl ?_
  refine G_iconst (n := 1) dL_law_581 ⟨by decide, by decide⟩ ?_
  refine G_iadd dL_law_582 (iRm (by omega) (by omega)) ?_
  refine G_sld (L := L) (xs := xs) rfl dL_law_583 (by omega) (by omega) ?_
  refine G_cVq (ci := 6) dL_law_584 rfl (by decide) rfl (c_X6_off l 7 nu v2 _ (KM_gl hKM) hMB (scI xs (i + 1))) mcL_73 rfl rfl (by show _ ≤ 13; omega) rfl rfl (by show _ ≤ 601024; omega) (by show _ ≤ 7293034; omega) (fun r S2 v3 hq9 => ?_)
  obtain ⟨x2, rfl, rfl, hP2⟩ := hq9
  obtain ⟨rfl, rfl⟩ := offP_join hP hP2
  have q := K_up ht (K_off hMB.2.2.1 hK3 hP)
  exact G_icmp_eq 850 dL_law_587 (by decide) (fun _ => k nu _ _ _ _ _ (LI_gl hS2 q.1 q.2.1 q.2.2) (by omega) (by omega)) (fun hne => absurd rfl hne)
set_option maxRecDepth 20000 in
set_option maxHeartbeats 1000000 in
theorem lo_send (l : Launch) (hl : l.stackTraces = false) (L : Nat) (xs : Nat → Int32) (i t : Int) (h0 : 0 ≤ i) (h1 : i + 6 ≤ L) (hL : L ≤ 3072) (ht : t + 1 ≤ 1000) (nu : Nat) (v : VV) (h : LI nu t v) (c0 s0 : Nat) (hc : c0 + 3 ≤ 601024) (hs : s0 + 211 ≤ 7293034) (Z5 Z6 : Option AV) (k : KK l L xs i t c0 s0) : G l (yL_law, cL_law, some .boolean, 7, 13, 601024, 7293034, some (L, xs)) (fun r _ _ => r = some (ai 1)) c0 s0 (SG nu) 554 [some (ax 0), some (ar (some 0)), some (ar (some 27)), some (ar (some 58)), some (ai i), Z5, Z6] [] v := by
  have hS := h.1
  have hz : Sim nu v (up v 27 0 0) := Sim_0 hS
  have hK3 : CB nu t (up v 27 0 0) ∧ FZ nu (up v 27 0 0) ∧ R3 (up v 27 0 0) := ⟨CB_0 h.2.1, FZ_0 h.2.2.1, R3_0 h.2.2.2⟩
  have hMB : MB nu (up v 27 0 0) := hz.1
  refine G_aload_n dL_law_554 rfl ?_
  have hgm := hMB.2.1
  have hm0 : (((2 * up v 27 0 0 27 34).toNat : Nat) : Int) = 2 * up v 27 0 0 27 34 := by omega
  refine G_cVq (ci := 5) dL_law_555 rfl (by decide) rfl (c_X5_send l 4 nu v (up v 27 0 0) hz (2 * up v 27 0 0 27 34).toNat hm0) mcL_66 rfl rfl (by show _ ≤ 13; omega) rfl rfl (by show _ ≤ 601024; omega) (by show _ ≤ 7293034; omega) (fun r S2 v2 hq9 => ?_)
  obtain ⟨x, rfl, rfl, hKM, hc9⟩ := hq9
  refine G_aload_n dL_law_558 rfl ?_
  refine G_cVq (ci := 6) dL_law_559 rfl (by decide) rfl (c_X6_send l 7 nu v2 _ (KM_gl hKM) hMB (2 * up v 27 0 0 27 34).toNat hm0 hK3.1.2.1.1) mcL_69 rfl rfl (by show _ ≤ 13; omega) rfl rfl (by show _ ≤ 601024; omega) (by show _ ≤ 7293034; omega) (fun r S2 v3 hq9 => ?_)
  obtain ⟨x2, rfl, rfl, hm9⟩ := hq9
  obtain ⟨rfl, hLI⟩ := send_join hz (K_up ht hK3) hm0 hc9 hm9
  exact G_icmp_eq 850 dL_law_562 (by decide) (fun _ => k nu _ _ _ _ _ hLI (by omega) (by omega)) (fun hne => absurd rfl hne)
set_option maxRecDepth 20000 in
set_option maxHeartbeats 1000000 in
theorem lo_rules (l : Launch) (hl : l.stackTraces = false) (L : Nat) (xs : Nat → Int32) (i t : Int) (h0 : 0 ≤ i) (h1 : i + 6 ≤ L) (hL : L ≤ 3072) (ht : t + 1 ≤ 1000) (nu : Nat) (v : VV) (h : LI nu t v) (c0 s0 : Nat) (hc : c0 + 3 ≤ 601024) (hs : s0 + 211 ≤ 7293034) (Z5 Z6 : Option AV) (k : KK l L xs i t c0 s0) : G l (yL_law, cL_law, some .boolean, 7, 13, 601024, 7293034, some (L, xs)) (fun r _ _ => r = some (ai 1)) c0 s0 (SG nu) 230 [some (ax 0), some (ar (some 0)), some (ar (some 27)), some (ar (some 58)), some (ai i), Z5, Z6] [] v := by
  have hS := h.1
  have hz : Sim nu v (up v 27 0 0) := Sim_0 hS
  have hK3 : CB nu t (up v 27 0 0) ∧ FZ nu (up v 27 0 0) ∧ R3 (up v 27 0 0) := ⟨CB_0 h.2.1, FZ_0 h.2.2.1, R3_0 h.2.2.2⟩
  have hMB : MB nu (up v 27 0 0) := hz.1
  refine G_aload_n dL_law_230 rfl ?_
  refine G_cVq (ci := 5) dL_law_231 rfl (by decide) rfl (c_X5_rules l 3 nu v (up v 27 0 0) hz (up v 27 0 0 31) (up v 27 0 0 32) (fun r r0 r1 => (hK3.2.2 r r0 r1).2.1) (fun r r0 r1 => (hK3.2.2 r r0 r1).2.2)) mcL_29 rfl rfl (by show _ ≤ 13; omega) rfl rfl (by show _ ≤ 601024; omega) (by show _ ≤ 7293034; omega) (fun r S2 v2 hq9 => ?_)
  obtain ⟨x, E, P, mm, f2, rfl, rfl, hRW, hx, hKM, hSim⟩ := hq9
  have hv2 : ∀ k, 27 ≤ k → k < 59 → ∀ j : Int, (k ≠ 27 ∨ j ≠ 0) → v2 k j = up v 27 0 0 k j := fun k k0 k1 j hj => by
    rw [hKM k k0 k1]
    rcases hj with hj | hj
    · rw [up_c hj]
    · rw [up_nj hj]
  have e28 : v2 28 = up v 27 0 0 28 := funext fun j => hv2 28 (by omega) (by omega) j (Or.inl (by omega))
  have e31 : v2 31 = up v 27 0 0 31 := funext fun j => hv2 31 (by omega) (by omega) j (Or.inl (by omega))
  have e32 : v2 32 = up v 27 0 0 32 := funext fun j => hv2 32 (by omega) (by omega) j (Or.inl (by omega))
  have e2 : v2 27 2 = up v 27 0 0 27 2 := hv2 27 (by omega) (by omega) 2 (Or.inr (by omega))
  have hT := hz.2.2.2.2.2.2.2.1
  refine G_aload_n dL_law_234 rfl ?_
  refine G_cVq (ci := 6) dL_law_235 rfl (by decide) rfl (c_X6_rules l 7 nu v2 (by rw [e2]; exact hT.2.2.1) (by rw [e28]; exact hT.2.2.2.1)) mcL_33 rfl rfl (by show _ ≤ 13; omega) rfl rfl (by show _ ≤ 601024; omega) (by show _ ≤ 7293034; omega) (fun r S2 v3 hq9 => ?_)
  obtain ⟨x2, K, F, T, W, U, kk, E2, P2, mm2, g2, f, rfl, rfl, hG, hPR, hf, hx2, hU, h2, h13, h29⟩ := hq9
  rw [e28, e2] at hG
  rw [e28, e2, e31, e32] at hPR
  obtain ⟨rfl, hLI⟩ := rules_join (v := v) (K_up ht hK3) hv2 hRW hx (fun j j0 j1 => by
    show (if 0 ≤ j ∧ j < 9 then xUs.getD j.toNat 0 else v 5 j) = f j
    rw [if_pos ⟨j0, j1⟩, hf j j0 j1, hv2 30 (by omega) (by omega) j (Or.inl (by omega))]
    exact (hK3.2.2 j j0 j1).1.symm) hSim ⟨K, F, T, W, U, kk, hG, hPR⟩ hx2 hU h2 h13 (fun j j0 j1 => by
    rw [h29]
    show (if E2 = 0 ∧ 0 ≤ j ∧ j < 9 then g2 j else v2 29 j) = _
    by_cases g : E2 = 0
    · rw [if_pos ⟨g, j0, j1⟩, if_pos g]
    · rw [if_neg (fun q => g q.1), if_neg g])
  exact G_icmp_eq 850 dL_law_238 (by decide) (fun _ => k nu _ _ _ _ _ hLI (by omega) (by omega)) (fun hne => absurd rfl hne)
