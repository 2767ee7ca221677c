theorem sp_0 : speltS 114 111 119 0 = 13550 := by decide
theorem sp_1 : speltS 97 103 97 105 = 24822 := by decide
theorem sp_2 : speltS 102 97 114 0 = 4419 := by decide
theorem sp_3 : speltS 102 97 105 114 = 119088 := by decide
theorem sp_4 : speltS 119 111 110 0 = 17186 := by decide
theorem sp_5 : speltS 108 111 115 116 = 247664 := by decide
theorem sp_6 : speltS 117 112 0 0 = 583 := by decide
theorem sp_7 : speltS 100 111 119 110 = 90302 := by decide
theorem sp_8 : speltS 111 102 0 0 = 411 := by decide
def rahS (K W : Int) : Int := if K ≠ 2 then -1 else if W = 13550 then 0 else if W = 670208 then 1 else if W = 4419 then 2 else if W = 119088 then 3 else if W = 17186 then 4 else if W = 247664 then 5 else if W = 583 then 6 else if W = 90302 then 7 else if W = 411 then 8 else -1
set_option maxRecDepth 20000 in
set_option maxHeartbeats 1000000 in
theorem c_X6_ruleAtHand (l : Launch) (d nu : Nat) (v : VV)  : Ct l yX6_ruleAtHand cX6_ruleAtHand (some .int) 1 (d + 1) 0 0 [ar (some 27)] (SG nu) v (rI (SG nu) (rahS (v 27 11) (v 27 16)) v) := by
  refine Ct_of_G [some (ar (some 27))] (by decide) rfl rfl ?_
  refine G_aload_n dX6_ruleAtHand_0 rfl ?_
  refine G_bipush (n := 114) dX6_ruleAtHand_1 (by decide) ⟨by decide, by decide⟩ ?_
  refine G_bipush (n := 111) dX6_ruleAtHand_3 (by decide) ⟨by decide, by decide⟩ ?_
  refine G_bipush (n := 119) dX6_ruleAtHand_5 (by decide) ⟨by decide, by decide⟩ ?_
  refine G_iconst (n := 0) dX6_ruleAtHand_7 ⟨by decide, by decide⟩ ?_
  refine G_cSq dX6_ruleAtHand_8 ((by have y := c_X6_spelt l (d + 0) nu v 114 111 119 0 (by decide) (by decide) (by decide) (by decide); rwa [sp_0] at y)) mcX6_148 rfl rfl (by show _ ≤ d + 1; omega) rfl rfl (Nat.le_refl _) (Nat.le_refl _) (fun r S2 v2 hq9 => ?_)
  obtain ⟨rfl, rfl, hv9⟩ := hq9
  rw [hv9]
  clear hv9
  refine G_cVi (ci := 6) dX6_ruleAtHand_11 rfl (by decide) rfl (c_X6_isKey l (d + 0) nu v 13550) mcX6_152 rfl rfl (by show _ ≤ d + 1; omega) rfl rfl (Nat.le_refl _) (Nat.le_refl _) ?_
  refine G_if_eq 19 dX6_ruleAtHand_14 (by decide) (fun h14 => ?_) (fun h14 => ?_)
  · have q0 : ¬ (v 27 11 = 2 ∧ v 27 16 = 13550) := fun y => by rw [if_pos y] at h14; omega
    clear h14
    refine G_aload_n dX6_ruleAtHand_19 rfl ?_
    refine G_ldc2 (n := 27) dX6_ruleAtHand_20 (show Cond.constantLong RX6 142 (Int64.ofInt 27) ∈ lw_good by decide +kernel) ⟨by decide, by decide⟩ ?_
    refine G_bipush (n := 97) dX6_ruleAtHand_23 (by decide) ⟨by decide, by decide⟩ ?_
    refine G_bipush (n := 103) dX6_ruleAtHand_25 (by decide) ⟨by decide, by decide⟩ ?_
    refine G_bipush (n := 97) dX6_ruleAtHand_27 (by decide) ⟨by decide, by decide⟩ ?_
    refine G_bipush (n := 105) dX6_ruleAtHand_29 (by decide) ⟨by decide, by decide⟩ ?_
    refine G_cSq dX6_ruleAtHand_31 ((by have y := c_X6_spelt l (d + 0) nu v 97 103 97 105 (by decide) (by decide) (by decide) (by decide); rwa [sp_1] at y)) mcX6_148 rfl rfl (by show _ ≤ d + 1; omega) rfl rfl (Nat.le_refl _) (Nat.le_refl _) (fun r S2 v2 hq9 => ?_)
    obtain ⟨rfl, rfl, hv9⟩ := hq9
    rw [hv9]
    clear hv9
    refine G_lmul dX6_ruleAtHand_34 ⟨by decide, by decide⟩ ?_
    refine G_ldc2 (n := 14) dX6_ruleAtHand_35 (show Cond.constantLong RX6 156 (Int64.ofInt 14) ∈ lw_good by decide +kernel) ⟨by decide, by decide⟩ ?_
    refine G_ladd dX6_ruleAtHand_38 ⟨by decide, by decide⟩ ?_
    rw [show (27 * 24822 + 14 : Int) = 670208 by decide]
    refine G_cVi (ci := 6) dX6_ruleAtHand_39 rfl (by decide) rfl (c_X6_isKey l (d + 0) nu v 670208) mcX6_152 rfl rfl (by show _ ≤ d + 1; omega) rfl rfl (Nat.le_refl _) (Nat.le_refl _) ?_
    refine G_if_eq 47 dX6_ruleAtHand_42 (by decide) (fun h42 => ?_) (fun h42 => ?_)
    · have q1 : ¬ (v 27 11 = 2 ∧ v 27 16 = 670208) := fun y => by rw [if_pos y] at h42; omega
      clear h42
      refine G_aload_n dX6_ruleAtHand_47 rfl ?_
      refine G_bipush (n := 102) dX6_ruleAtHand_48 (by decide) ⟨by decide, by decide⟩ ?_
      refine G_bipush (n := 97) dX6_ruleAtHand_50 (by decide) ⟨by decide, by decide⟩ ?_
      refine G_bipush (n := 114) dX6_ruleAtHand_52 (by decide) ⟨by decide, by decide⟩ ?_
      refine G_iconst (n := 0) dX6_ruleAtHand_54 ⟨by decide, by decide⟩ ?_
      refine G_cSq dX6_ruleAtHand_55 ((by have y := c_X6_spelt l (d + 0) nu v 102 97 114 0 (by decide) (by decide) (by decide) (by decide); rwa [sp_2] at y)) mcX6_148 rfl rfl (by show _ ≤ d + 1; omega) rfl rfl (Nat.le_refl _) (Nat.le_refl _) (fun r S2 v2 hq9 => ?_)
      obtain ⟨rfl, rfl, hv9⟩ := hq9
      rw [hv9]
      clear hv9
      refine G_cVi (ci := 6) dX6_ruleAtHand_58 rfl (by decide) rfl (c_X6_isKey l (d + 0) nu v 4419) mcX6_152 rfl rfl (by show _ ≤ d + 1; omega) rfl rfl (Nat.le_refl _) (Nat.le_refl _) ?_
      refine G_if_eq 66 dX6_ruleAtHand_61 (by decide) (fun h61 => ?_) (fun h61 => ?_)
      · have q2 : ¬ (v 27 11 = 2 ∧ v 27 16 = 4419) := fun y => by rw [if_pos y] at h61; omega
        clear h61
        refine G_aload_n dX6_ruleAtHand_66 rfl ?_
        refine G_bipush (n := 102) dX6_ruleAtHand_67 (by decide) ⟨by decide, by decide⟩ ?_
        refine G_bipush (n := 97) dX6_ruleAtHand_69 (by decide) ⟨by decide, by decide⟩ ?_
        refine G_bipush (n := 105) dX6_ruleAtHand_71 (by decide) ⟨by decide, by decide⟩ ?_
        refine G_bipush (n := 114) dX6_ruleAtHand_73 (by decide) ⟨by decide, by decide⟩ ?_
        refine G_cSq dX6_ruleAtHand_75 ((by have y := c_X6_spelt l (d + 0) nu v 102 97 105 114 (by decide) (by decide) (by decide) (by decide); rwa [sp_3] at y)) mcX6_148 rfl rfl (by show _ ≤ d + 1; omega) rfl rfl (Nat.le_refl _) (Nat.le_refl _) (fun r S2 v2 hq9 => ?_)
        obtain ⟨rfl, rfl, hv9⟩ := hq9
        rw [hv9]
        clear hv9
        refine G_cVi (ci := 6) dX6_ruleAtHand_78 rfl (by decide) rfl (c_X6_isKey l (d + 0) nu v 119088) mcX6_152 rfl rfl (by show _ ≤ d + 1; omega) rfl rfl (Nat.le_refl _) (Nat.le_refl _) ?_
        refine G_if_eq 86 dX6_ruleAtHand_81 (by decide) (fun h81 => ?_) (fun h81 => ?_)
        · have q3 : ¬ (v 27 11 = 2 ∧ v 27 16 = 119088) := fun y => by rw [if_pos y] at h81; omega
          clear h81
          refine G_aload_n dX6_ruleAtHand_86 rfl ?_
          refine G_bipush (n := 119) dX6_ruleAtHand_87 (by decide) ⟨by decide, by decide⟩ ?_
          refine G_bipush (n := 111) dX6_ruleAtHand_89 (by decide) ⟨by decide, by decide⟩ ?_
          refine G_bipush (n := 110) dX6_ruleAtHand_91 (by decide) ⟨by decide, by decide⟩ ?_
          refine G_iconst (n := 0) dX6_ruleAtHand_93 ⟨by decide, by decide⟩ ?_
          refine G_cSq dX6_ruleAtHand_94 ((by have y := c_X6_spelt l (d + 0) nu v 119 111 110 0 (by decide) (by decide) (by decide) (by decide); rwa [sp_4] at y)) mcX6_148 rfl rfl (by show _ ≤ d + 1; omega) rfl rfl (Nat.le_refl _) (Nat.le_refl _) (fun r S2 v2 hq9 => ?_)
          obtain ⟨rfl, rfl, hv9⟩ := hq9
          rw [hv9]
          clear hv9
          refine G_cVi (ci := 6) dX6_ruleAtHand_97 rfl (by decide) rfl (c_X6_isKey l (d + 0) nu v 17186) mcX6_152 rfl rfl (by show _ ≤ d + 1; omega) rfl rfl (Nat.le_refl _) (Nat.le_refl _) ?_
          refine G_if_eq 105 dX6_ruleAtHand_100 (by decide) (fun h100 => ?_) (fun h100 => ?_)
          · have q4 : ¬ (v 27 11 = 2 ∧ v 27 16 = 17186) := fun y => by rw [if_pos y] at h100; omega
            clear h100
            refine G_aload_n dX6_ruleAtHand_105 rfl ?_
            refine G_bipush (n := 108) dX6_ruleAtHand_106 (by decide) ⟨by decide, by decide⟩ ?_
            refine G_bipush (n := 111) dX6_ruleAtHand_108 (by decide) ⟨by decide, by decide⟩ ?_
            refine G_bipush (n := 115) dX6_ruleAtHand_110 (by decide) ⟨by decide, by decide⟩ ?_
            refine G_bipush (n := 116) dX6_ruleAtHand_112 (by decide) ⟨by decide, by decide⟩ ?_
            refine G_cSq dX6_ruleAtHand_114 ((by have y := c_X6_spelt l (d + 0) nu v 108 111 115 116 (by decide) (by decide) (by decide) (by decide); rwa [sp_5] at y)) mcX6_148 rfl rfl (by show _ ≤ d + 1; omega) rfl rfl (Nat.le_refl _) (Nat.le_refl _) (fun r S2 v2 hq9 => ?_)
            obtain ⟨rfl, rfl, hv9⟩ := hq9
            rw [hv9]
            clear hv9
            refine G_cVi (ci := 6) dX6_ruleAtHand_117 rfl (by decide) rfl (c_X6_isKey l (d + 0) nu v 247664) mcX6_152 rfl rfl (by show _ ≤ d + 1; omega) rfl rfl (Nat.le_refl _) (Nat.le_refl _) ?_
            refine G_if_eq 125 dX6_ruleAtHand_120 (by decide) (fun h120 => ?_) (fun h120 => ?_)
            · have q5 : ¬ (v 27 11 = 2 ∧ v 27 16 = 247664) := fun y => by rw [if_pos y] at h120; omega
              clear h120
              refine G_aload_n dX6_ruleAtHand_125 rfl ?_
              refine G_bipush (n := 117) dX6_ruleAtHand_126 (by decide) ⟨by decide, by decide⟩ ?_
              refine G_bipush (n := 112) dX6_ruleAtHand_128 (by decide) ⟨by decide, by decide⟩ ?_
              refine G_iconst (n := 0) dX6_ruleAtHand_130 ⟨by decide, by decide⟩ ?_
              refine G_iconst (n := 0) dX6_ruleAtHand_131 ⟨by decide, by decide⟩ ?_
              refine G_cSq dX6_ruleAtHand_132 ((by have y := c_X6_spelt l (d + 0) nu v 117 112 0 0 (by decide) (by decide) (by decide) (by decide); rwa [sp_6] at y)) mcX6_148 rfl rfl (by show _ ≤ d + 1; omega) rfl rfl (Nat.le_refl _) (Nat.le_refl _) (fun r S2 v2 hq9 => ?_)
              obtain ⟨rfl, rfl, hv9⟩ := hq9
              rw [hv9]
              clear hv9
              refine G_cVi (ci := 6) dX6_ruleAtHand_135 rfl (by decide) rfl (c_X6_isKey l (d + 0) nu v 583) mcX6_152 rfl rfl (by show _ ≤ d + 1; omega) rfl rfl (Nat.le_refl _) (Nat.le_refl _) ?_
              refine G_if_eq 144 dX6_ruleAtHand_138 (by decide) (fun h138 => ?_) (fun h138 => ?_)
              · have q6 : ¬ (v 27 11 = 2 ∧ v 27 16 = 583) := fun y => by rw [if_pos y] at h138; omega
                clear h138
                refine G_aload_n dX6_ruleAtHand_144 rfl ?_
                refine G_bipush (n := 100) dX6_ruleAtHand_145 (by decide) ⟨by decide, by decide⟩ ?_
                refine G_bipush (n := 111) dX6_ruleAtHand_147 (by decide) ⟨by decide, by decide⟩ ?_
                refine G_bipush (n := 119) dX6_ruleAtHand_149 (by decide) ⟨by decide, by decide⟩ ?_
                refine G_bipush (n := 110) dX6_ruleAtHand_151 (by decide) ⟨by decide, by decide⟩ ?_
                refine G_cSq dX6_ruleAtHand_153 ((by have y := c_X6_spelt l (d + 0) nu v 100 111 119 110 (by decide) (by decide) (by decide) (by decide); rwa [sp_7] at y)) mcX6_148 rfl rfl (by show _ ≤ d + 1; omega) rfl rfl (Nat.le_refl _) (Nat.le_refl _) (fun r S2 v2 hq9 => ?_)
                obtain ⟨rfl, rfl, hv9⟩ := hq9
                rw [hv9]
                clear hv9
                refine G_cVi (ci := 6) dX6_ruleAtHand_156 rfl (by decide) rfl (c_X6_isKey l (d + 0) nu v 90302) mcX6_152 rfl rfl (by show _ ≤ d + 1; omega) rfl rfl (Nat.le_refl _) (Nat.le_refl _) ?_
                refine G_if_eq 165 dX6_ruleAtHand_159 (by decide) (fun h159 => ?_) (fun h159 => ?_)
                · have q7 : ¬ (v 27 11 = 2 ∧ v 27 16 = 90302) := fun y => by rw [if_pos y] at h159; omega
                  clear h159
                  refine G_aload_n dX6_ruleAtHand_165 rfl ?_
                  refine G_bipush (n := 111) dX6_ruleAtHand_166 (by decide) ⟨by decide, by decide⟩ ?_
                  refine G_bipush (n := 102) dX6_ruleAtHand_168 (by decide) ⟨by decide, by decide⟩ ?_
                  refine G_iconst (n := 0) dX6_ruleAtHand_170 ⟨by decide, by decide⟩ ?_
                  refine G_iconst (n := 0) dX6_ruleAtHand_171 ⟨by decide, by decide⟩ ?_
                  refine G_cSq dX6_ruleAtHand_172 ((by have y := c_X6_spelt l (d + 0) nu v 111 102 0 0 (by decide) (by decide) (by decide) (by decide); rwa [sp_8] at y)) mcX6_148 rfl rfl (by show _ ≤ d + 1; omega) rfl rfl (Nat.le_refl _) (Nat.le_refl _) (fun r S2 v2 hq9 => ?_)
                  obtain ⟨rfl, rfl, hv9⟩ := hq9
                  rw [hv9]
                  clear hv9
                  refine G_cVi (ci := 6) dX6_ruleAtHand_175 rfl (by decide) rfl (c_X6_isKey l (d + 0) nu v 411) mcX6_152 rfl rfl (by show _ ≤ d + 1; omega) rfl rfl (Nat.le_refl _) (Nat.le_refl _) ?_
                  refine G_if_eq 186 dX6_ruleAtHand_178 (by decide) (fun h178 => ?_) (fun h178 => ?_)
                  · have q8 : ¬ (v 27 11 = 2 ∧ v 27 16 = 411) := fun y => by rw [if_pos y] at h178; omega
                    clear h178
                    refine G_iconst (n := (-1)) dX6_ruleAtHand_186 ⟨by decide, by decide⟩ ?_
                    exact G_iret dX6_ruleAtHand_187 rfl rfl rfl ⟨by congr 2; unfold rahS; first | (rw [if_neg (fun y => y p8.1), if_neg (fun y => q0 ⟨p8.1, y⟩), if_neg (fun y => q1 ⟨p8.1, y⟩), if_neg (fun y => q2 ⟨p8.1, y⟩), if_neg (fun y => q3 ⟨p8.1, y⟩), if_neg (fun y => q4 ⟨p8.1, y⟩), if_neg (fun y => q5 ⟨p8.1, y⟩), if_neg (fun y => q6 ⟨p8.1, y⟩), if_neg (fun y => q7 ⟨p8.1, y⟩), if_pos p8.2]) | (by_cases hk2 : v 27 11 = 2; rw [if_neg (fun y => y hk2), if_neg (fun y => q0 ⟨hk2, y⟩), if_neg (fun y => q1 ⟨hk2, y⟩), if_neg (fun y => q2 ⟨hk2, y⟩), if_neg (fun y => q3 ⟨hk2, y⟩), if_neg (fun y => q4 ⟨hk2, y⟩), if_neg (fun y => q5 ⟨hk2, y⟩), if_neg (fun y => q6 ⟨hk2, y⟩), if_neg (fun y => q7 ⟨hk2, y⟩), if_neg (fun y => q8 ⟨hk2, y⟩)]; rw [if_pos hk2]), rfl, rfl⟩
                  · have p8 : v 27 11 = 2 ∧ v 27 16 = 411 := by by_cases y : v 27 11 = 2 ∧ v 27 16 = 411; exact y; exact absurd (if_neg y) h178
                    clear h178
                    refine G_bipush (n := 8) dX6_ruleAtHand_181 (by decide) ⟨by decide, by decide⟩ ?_
                    refine G_goto 187 dX6_ruleAtHand_183 (by decide) ?_
                    exact G_iret dX6_ruleAtHand_187 rfl rfl rfl ⟨by congr 2; unfold rahS; first | (rw [if_neg (fun y => y p8.1), if_neg (fun y => q0 ⟨p8.1, y⟩), if_neg (fun y => q1 ⟨p8.1, y⟩), if_neg (fun y => q2 ⟨p8.1, y⟩), if_neg (fun y => q3 ⟨p8.1, y⟩), if_neg (fun y => q4 ⟨p8.1, y⟩), if_neg (fun y => q5 ⟨p8.1, y⟩), if_neg (fun y => q6 ⟨p8.1, y⟩), if_neg (fun y => q7 ⟨p8.1, y⟩), if_pos p8.2]) | (by_cases hk2 : v 27 11 = 2; rw [if_neg (fun y => y hk2), if_neg (fun y => q0 ⟨hk2, y⟩), if_neg (fun y => q1 ⟨hk2, y⟩), if_neg (fun y => q2 ⟨hk2, y⟩), if_neg (fun y => q3 ⟨hk2, y⟩), if_neg (fun y => q4 ⟨hk2, y⟩), if_neg (fun y => q5 ⟨hk2, y⟩), if_neg (fun y => q6 ⟨hk2, y⟩), if_neg (fun y => q7 ⟨hk2, y⟩), if_neg (fun y => q8 ⟨hk2, y⟩)]; rw [if_pos hk2]), rfl, rfl⟩
                · have p7 : v 27 11 = 2 ∧ v 27 16 = 90302 := by by_cases y : v 27 11 = 2 ∧ v 27 16 = 90302; exact y; exact absurd (if_neg y) h159
                  clear h159
                  refine G_bipush (n := 7) dX6_ruleAtHand_162 (by decide) ⟨by decide, by decide⟩ ?_
                  exact G_iret dX6_ruleAtHand_164 rfl rfl rfl ⟨by congr 2; unfold rahS; rw [if_neg (fun y => y p7.1), if_neg (fun y => q0 ⟨p7.1, y⟩), if_neg (fun y => q1 ⟨p7.1, y⟩), if_neg (fun y => q2 ⟨p7.1, y⟩), if_neg (fun y => q3 ⟨p7.1, y⟩), if_neg (fun y => q4 ⟨p7.1, y⟩), if_neg (fun y => q5 ⟨p7.1, y⟩), if_neg (fun y => q6 ⟨p7.1, y⟩), if_pos p7.2], rfl, rfl⟩
              · have p6 : v 27 11 = 2 ∧ v 27 16 = 583 := by by_cases y : v 27 11 = 2 ∧ v 27 16 = 583; exact y; exact absurd (if_neg y) h138
                clear h138
                refine G_bipush (n := 6) dX6_ruleAtHand_141 (by decide) ⟨by decide, by decide⟩ ?_
                exact G_iret dX6_ruleAtHand_143 rfl rfl rfl ⟨by congr 2; unfold rahS; rw [if_neg (fun y => y p6.1), if_neg (fun y => q0 ⟨p6.1, y⟩), if_neg (fun y => q1 ⟨p6.1, y⟩), if_neg (fun y => q2 ⟨p6.1, y⟩), if_neg (fun y => q3 ⟨p6.1, y⟩), if_neg (fun y => q4 ⟨p6.1, y⟩), if_neg (fun y => q5 ⟨p6.1, y⟩), if_pos p6.2], rfl, rfl⟩
            · have p5 : v 27 11 = 2 ∧ v 27 16 = 247664 := by by_cases y : v 27 11 = 2 ∧ v 27 16 = 247664; exact y; exact absurd (if_neg y) h120
              clear h120
              refine G_iconst (n := 5) dX6_ruleAtHand_123 ⟨by decide, by decide⟩ ?_
              exact G_iret dX6_ruleAtHand_124 rfl rfl rfl ⟨by congr 2; unfold rahS; rw [if_neg (fun y => y p5.1), if_neg (fun y => q0 ⟨p5.1, y⟩), if_neg (fun y => q1 ⟨p5.1, y⟩), if_neg (fun y => q2 ⟨p5.1, y⟩), if_neg (fun y => q3 ⟨p5.1, y⟩), if_neg (fun y => q4 ⟨p5.1, y⟩), if_pos p5.2], rfl, rfl⟩
          · have p4 : v 27 11 = 2 ∧ v 27 16 = 17186 := by by_cases y : v 27 11 = 2 ∧ v 27 16 = 17186; exact y; exact absurd (if_neg y) h100
            clear h100
            refine G_iconst (n := 4) dX6_ruleAtHand_103 ⟨by decide, by decide⟩ ?_
            exact G_iret dX6_ruleAtHand_104 rfl rfl rfl ⟨by congr 2; unfold rahS; rw [if_neg (fun y => y p4.1), if_neg (fun y => q0 ⟨p4.1, y⟩), if_neg (fun y => q1 ⟨p4.1, y⟩), if_neg (fun y => q2 ⟨p4.1, y⟩), if_neg (fun y => q3 ⟨p4.1, y⟩), if_pos p4.2], rfl, rfl⟩
        · have p3 : v 27 11 = 2 ∧ v 27 16 = 119088 := by by_cases y : v 27 11 = 2 ∧ v 27 16 = 119088; exact y; exact absurd (if_neg y) h81
          clear h81
          refine G_iconst (n := 3) dX6_ruleAtHand_84 ⟨by decide, by decide⟩ ?_
          exact G_iret dX6_ruleAtHand_85 rfl rfl rfl ⟨by congr 2; unfold rahS; rw [if_neg (fun y => y p3.1), if_neg (fun y => q0 ⟨p3.1, y⟩), if_neg (fun y => q1 ⟨p3.1, y⟩), if_neg (fun y => q2 ⟨p3.1, y⟩), if_pos p3.2], rfl, rfl⟩
      · have p2 : v 27 11 = 2 ∧ v 27 16 = 4419 := by by_cases y : v 27 11 = 2 ∧ v 27 16 = 4419; exact y; exact absurd (if_neg y) h61
        clear h61
        refine G_iconst (n := 2) dX6_ruleAtHand_64 ⟨by decide, by decide⟩ ?_
        exact G_iret dX6_ruleAtHand_65 rfl rfl rfl ⟨by congr 2; unfold rahS; rw [if_neg (fun y => y p2.1), if_neg (fun y => q0 ⟨p2.1, y⟩), if_neg (fun y => q1 ⟨p2.1, y⟩), if_pos p2.2], rfl, rfl⟩
    · have p1 : v 27 11 = 2 ∧ v 27 16 = 670208 := by by_cases y : v 27 11 = 2 ∧ v 27 16 = 670208; exact y; exact absurd (if_neg y) h42
      clear h42
      refine G_iconst (n := 1) dX6_ruleAtHand_45 ⟨by decide, by decide⟩ ?_
      exact G_iret dX6_ruleAtHand_46 rfl rfl rfl ⟨by congr 2; unfold rahS; rw [if_neg (fun y => y p1.1), if_neg (fun y => q0 ⟨p1.1, y⟩), if_pos p1.2], rfl, rfl⟩
  · have p0 : v 27 11 = 2 ∧ v 27 16 = 13550 := by by_cases y : v 27 11 = 2 ∧ v 27 16 = 13550; exact y; exact absurd (if_neg y) h14
    clear h14
    refine G_iconst (n := 0) dX6_ruleAtHand_17 ⟨by decide, by decide⟩ ?_
    exact G_iret dX6_ruleAtHand_18 rfl rfl rfl ⟨by congr 2; unfold rahS; rw [if_neg (fun y => y p0.1), if_pos p0.2], rfl, rfl⟩
