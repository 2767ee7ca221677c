theorem oi_X6 : Cond.methodLink RX6 1 Lib.objectInit ∈ lw_good := by decide +kernel
/-- a new row n, its first places told -/
def mkR (v : VV) (n : Nat) (xs : List Int) : VV := fun k j => if k = n then (if 0 ≤ j ∧ j < xs.length then xs.getD j.toNat 0 else 0) else v k j
theorem mk_nil {v : VV} {n : Nat} : nV v n = mkR v n [] := by
  funext k j
  unfold nV mkR
  by_cases g : k = n
  · rw [if_pos g, if_pos g, if_neg (fun h => by have := h.2; simp at this; omega)]
  · rw [if_neg g, if_neg g]
theorem mk_snoc {v : VV} {n : Nat} {xs : List Int} {j x : Int} (h : j = (xs.length : Nat)) : up (mkR v n xs) n j x = mkR v n (xs ++ [x]) := by
  funext k i
  by_cases g : k = n
  · subst g
    by_cases g2 : i = j
    · subst g2
      rw [up_self]
      unfold mkR
      rw [if_pos rfl, if_pos ⟨by omega, by simp; omega⟩, h]
      simp
    · rw [up_nj g2]
      unfold mkR
      rw [if_pos rfl, if_pos rfl]
      by_cases g3 : 0 ≤ i ∧ i < (xs.length : Nat)
      · rw [if_pos g3, if_pos ⟨g3.1, by simp; omega⟩]
        have : i.toNat < xs.length := by omega
        simp [List.getElem?_append_left this]
      · rw [if_neg g3, if_neg (fun h4 => g3 ⟨h4.1, by have := h4.2; simp at this; omega⟩)]
  · rw [up_ne g]
    unfold mkR
    rw [if_neg g, if_neg g]
theorem mk_lt {v : VV} {n : Nat} {xs : List Int} {k : Nat} {j : Int} (h : k < n) : mkR v n xs k j = v k j := if_neg (by omega)
theorem nV_lt {v : VV} {n : Nat} {k : Nat} {j : Int} (h : k < n) : nV v n k j = v k j := if_neg (by omega)
theorem G_mk {l : Launch} {μ : MU} {Φ : Option AV → AS → VV → Prop} {c0 s0 : Nat} {S : AS} {pc : Nat} {ls : LL} {st : List AV} {v : VV} {n : Nat} {xs : List Int} {j x : Int} (h : j = (xs.length : Nat)) (k : G l μ Φ c0 s0 S pc ls st (mkR v n (xs ++ [x]))) : G l μ Φ c0 s0 S pc ls st (up (mkR v n xs) n j x) := by
  rw [mk_snoc h]
  exact k
def rowX (xs : List Int) (j : Int) : Int := if 0 ≤ j ∧ j < xs.length then xs.getD j.toNat 0 else 0
def Wc0 : AS := nS WbE 22 0
def Wc1 : AS := (upS (nS (upS (nS (upS (nS (upS (nS (upS (nS (upS (nS (upS (nS (upS (nS (upS (nS (upS (nS (upS (nS (upS (nS (upS (nS (upS (nS (upS (nS (upS (nS (upS (nS (upS (nS (upS (nS (upS (nS (upS (nS (upS (nS (upS (nS (upS (nS (upS (nS (upS (nS (upS (nS (upS (nS (upS (nS (upS (nS Wc0 0 180) 27 1 (some 28)) 0 9) 27 3 (some 29)) 0 9) 27 4 (some 30)) 0 9) 27 5 (some 31)) 0 9) 27 6 (some 32)) 0 9) 27 7 (some 33)) 0 20) 27 17 (some 34)) 0 20) 27 18 (some 35)) 0 20) 27 19 (some 36)) 0 20) 27 20 (some 37)) 0 20) 27 21 (some 38)) 0 20) 27 22 (some 39)) 0 20) 27 23 (some 40)) 0 20) 27 24 (some 41)) 0 2000) 27 25 (some 42)) 2 2000) 27 26 (some 43)) 0 8) 27 27 (some 44)) 0 8) 27 28 (some 45)) 0 8) 27 29 (some 46)) 0 8) 27 30 (some 47)) 0 16) 27 31 (some 48)) 0 16) 27 32 (some 49)) 0 16) 27 37 (some 50)) 0 16) 27 38 (some 51)) 0 320) 27 39 (some 52)) 0 20) 27 40 (some 53)) 2 16) 27 41 (some 54)) 0 22) 27 42 (some 55)) 0 22) 27 43 (some 56)) 0 22) 27 44 (some 57))
def Wv1 (v : VV) : VV := (nV (nV (nV (nV (nV (nV (nV (nV (nV (mkR (nV (nV (nV (nV (nV (nV (nV (nV (nV (nV (nV (nV (nV (nV (mkR (mkR (mkR (mkR (mkR (nV v 28) 29 [3, 1, 60, 5, 2, 1, 80, 30, 4]) 30 [3, 1, 60, 5, 2, 1, 80, 30, 4]) 31 [1, 0, 0, 0, 0, 0, 1, 0, 1]) 32 [9, 9, 200, 50, 9, 9, 101, 100, 20]) 33 [3, 1, 60, 5, 2, 1, 80, 30, 4]) 34) 35) 36) 37) 38) 39) 40) 41) 42) 43) 44) 45) 46) 47) 48 [-1, -1, -1, -1, -1, -1, -1, -1, -1, -1, -1, -1, -1, -1, -1, -1]) 49) 50) 51) 52) 53) 54) 55) 56) 57)
set_option maxRecDepth 20000 in
set_option maxHeartbeats 1000000 in
theorem c_X6_init (l : Launch) (d nu : Nat) (v : VV)  : Ct l yX6_init cX6_init none 1 (d + 1) 30 4903 [ar (some 27)] Wc0 v (rV Wc1 (Wv1 v)) := by
  refine Ct_of_G [some (ar (some 27))] (by decide) rfl rfl ?_
  refine G_aload_n dX6_init_0 rfl ?_
  refine G_objInit dX6_init_1 oi_X6 oi_im oi_co (by show 1 ≤ d + 1; omega) rfl ?_
  refine G_aload_n dX6_init_4 rfl ?_
  refine G_sipush (n := 180) dX6_init_5 (by decide) ⟨by decide, by decide⟩ ?_
  refine G_newa_int (N := 180) dX6_init_8 ac_int rfl (by decide) (Nat.le_of_ble_eq_true rfl) (Nat.le_of_ble_eq_true rfl) ?_
  refine G_putRF (jj := 1) dX6_init_10 flX6_7 rfl rfl rfl rfl rfl rfl ?_
  refine G_aload_n dX6_init_13 rfl ?_
  refine G_bipush (n := 9) dX6_init_14 (by decide) ⟨by decide, by decide⟩ ?_
  refine G_newa_int (N := 9) dX6_init_16 ac_int rfl (by decide) (Nat.le_of_ble_eq_true rfl) (Nat.le_of_ble_eq_true rfl) ?_
  rw [mk_nil]
  refine G_dup_a dX6_init_18 ?_
  refine G_iconst (n := 0) dX6_init_19 ⟨by decide, by decide⟩ ?_
  refine G_iconst (n := 3) dX6_init_20 ⟨by decide, by decide⟩ ?_
  refine G_iast dX6_init_21 rfl (by omega) (by omega) ?_
  refine G_mk rfl ?_
  refine G_dup_a dX6_init_22 ?_
  refine G_iconst (n := 1) dX6_init_23 ⟨by decide, by decide⟩ ?_
  refine G_iconst (n := 1) dX6_init_24 ⟨by decide, by decide⟩ ?_
  refine G_iast dX6_init_25 rfl (by omega) (by omega) ?_
  refine G_mk rfl ?_
  refine G_dup_a dX6_init_26 ?_
  refine G_iconst (n := 2) dX6_init_27 ⟨by decide, by decide⟩ ?_
  refine G_bipush (n := 60) dX6_init_28 (by decide) ⟨by decide, by decide⟩ ?_
  refine G_iast dX6_init_30 rfl (by omega) (by omega) ?_
  refine G_mk rfl ?_
  refine G_dup_a dX6_init_31 ?_
  refine G_iconst (n := 3) dX6_init_32 ⟨by decide, by decide⟩ ?_
  refine G_iconst (n := 5) dX6_init_33 ⟨by decide, by decide⟩ ?_
  refine G_iast dX6_init_34 rfl (by omega) (by omega) ?_
  refine G_mk rfl ?_
  refine G_dup_a dX6_init_35 ?_
  refine G_iconst (n := 4) dX6_init_36 ⟨by decide, by decide⟩ ?_
  refine G_iconst (n := 2) dX6_init_37 ⟨by decide, by decide⟩ ?_
  refine G_iast dX6_init_38 rfl (by omega) (by omega) ?_
  refine G_mk rfl ?_
  refine G_dup_a dX6_init_39 ?_
  refine G_iconst (n := 5) dX6_init_40 ⟨by decide, by decide⟩ ?_
  refine G_iconst (n := 1) dX6_init_41 ⟨by decide, by decide⟩ ?_
  refine G_iast dX6_init_42 rfl (by omega) (by omega) ?_
  refine G_mk rfl ?_
  refine G_dup_a dX6_init_43 ?_
  refine G_bipush (n := 6) dX6_init_44 (by decide) ⟨by decide, by decide⟩ ?_
  refine G_bipush (n := 80) dX6_init_46 (by decide) ⟨by decide, by decide⟩ ?_
  refine G_iast dX6_init_48 rfl (by omega) (by omega) ?_
  refine G_mk rfl ?_
  refine G_dup_a dX6_init_49 ?_
  refine G_bipush (n := 7) dX6_init_50 (by decide) ⟨by decide, by decide⟩ ?_
  refine G_bipush (n := 30) dX6_init_52 (by decide) ⟨by decide, by decide⟩ ?_
  refine G_iast dX6_init_54 rfl (by omega) (by omega) ?_
  refine G_mk rfl ?_
  refine G_dup_a dX6_init_55 ?_
  refine G_bipush (n := 8) dX6_init_56 (by decide) ⟨by decide, by decide⟩ ?_
  refine G_iconst (n := 4) dX6_init_58 ⟨by decide, by decide⟩ ?_
  refine G_iast dX6_init_59 rfl (by omega) (by omega) ?_
  refine G_mk rfl ?_
  refine G_putRF (jj := 3) dX6_init_60 flX6_13 rfl rfl rfl rfl rfl rfl ?_
  refine G_aload_n dX6_init_63 rfl ?_
  refine G_bipush (n := 9) dX6_init_64 (by decide) ⟨by decide, by decide⟩ ?_
  refine G_newa_int (N := 9) dX6_init_66 ac_int rfl (by decide) (Nat.le_of_ble_eq_true rfl) (Nat.le_of_ble_eq_true rfl) ?_
  rw [mk_nil]
  refine G_dup_a dX6_init_68 ?_
  refine G_iconst (n := 0) dX6_init_69 ⟨by decide, by decide⟩ ?_
  refine G_iconst (n := 3) dX6_init_70 ⟨by decide, by decide⟩ ?_
  refine G_iast dX6_init_71 rfl (by omega) (by omega) ?_
  refine G_mk rfl ?_
  refine G_dup_a dX6_init_72 ?_
  refine G_iconst (n := 1) dX6_init_73 ⟨by decide, by decide⟩ ?_
  refine G_iconst (n := 1) dX6_init_74 ⟨by decide, by decide⟩ ?_
  refine G_iast dX6_init_75 rfl (by omega) (by omega) ?_
  refine G_mk rfl ?_
  refine G_dup_a dX6_init_76 ?_
  refine G_iconst (n := 2) dX6_init_77 ⟨by decide, by decide⟩ ?_
  refine G_bipush (n := 60) dX6_init_78 (by decide) ⟨by decide, by decide⟩ ?_
  refine G_iast dX6_init_80 rfl (by omega) (by omega) ?_
  refine G_mk rfl ?_
  refine G_dup_a dX6_init_81 ?_
  refine G_iconst (n := 3) dX6_init_82 ⟨by decide, by decide⟩ ?_
  refine G_iconst (n := 5) dX6_init_83 ⟨by decide, by decide⟩ ?_
  refine G_iast dX6_init_84 rfl (by omega) (by omega) ?_
  refine G_mk rfl ?_
  refine G_dup_a dX6_init_85 ?_
  refine G_iconst (n := 4) dX6_init_86 ⟨by decide, by decide⟩ ?_
  refine G_iconst (n := 2) dX6_init_87 ⟨by decide, by decide⟩ ?_
  refine G_iast dX6_init_88 rfl (by omega) (by omega) ?_
  refine G_mk rfl ?_
  refine G_dup_a dX6_init_89 ?_
  refine G_iconst (n := 5) dX6_init_90 ⟨by decide, by decide⟩ ?_
  refine G_iconst (n := 1) dX6_init_91 ⟨by decide, by decide⟩ ?_
  refine G_iast dX6_init_92 rfl (by omega) (by omega) ?_
  refine G_mk rfl ?_
  refine G_dup_a dX6_init_93 ?_
  refine G_bipush (n := 6) dX6_init_94 (by decide) ⟨by decide, by decide⟩ ?_
  refine G_bipush (n := 80) dX6_init_96 (by decide) ⟨by decide, by decide⟩ ?_
  refine G_iast dX6_init_98 rfl (by omega) (by omega) ?_
  refine G_mk rfl ?_
  refine G_dup_a dX6_init_99 ?_
  refine G_bipush (n := 7) dX6_init_100 (by decide) ⟨by decide, by decide⟩ ?_
  refine G_bipush (n := 30) dX6_init_102 (by decide) ⟨by decide, by decide⟩ ?_
  refine G_iast dX6_init_104 rfl (by omega) (by omega) ?_
  refine G_mk rfl ?_
  refine G_dup_a dX6_init_105 ?_
  refine G_bipush (n := 8) dX6_init_106 (by decide) ⟨by decide, by decide⟩ ?_
  refine G_iconst (n := 4) dX6_init_108 ⟨by decide, by decide⟩ ?_
  refine G_iast dX6_init_109 rfl (by omega) (by omega) ?_
  refine G_mk rfl ?_
  refine G_putRF (jj := 4) dX6_init_110 flX6_16 rfl rfl rfl rfl rfl rfl ?_
  refine G_aload_n dX6_init_113 rfl ?_
  refine G_bipush (n := 9) dX6_init_114 (by decide) ⟨by decide, by decide⟩ ?_
  refine G_newa_int (N := 9) dX6_init_116 ac_int rfl (by decide) (Nat.le_of_ble_eq_true rfl) (Nat.le_of_ble_eq_true rfl) ?_
  rw [mk_nil]
  refine G_dup_a dX6_init_118 ?_
  refine G_iconst (n := 0) dX6_init_119 ⟨by decide, by decide⟩ ?_
  refine G_iconst (n := 1) dX6_init_120 ⟨by decide, by decide⟩ ?_
  refine G_iast dX6_init_121 rfl (by omega) (by omega) ?_
  refine G_mk rfl ?_
  refine G_dup_a dX6_init_122 ?_
  refine G_iconst (n := 1) dX6_init_123 ⟨by decide, by decide⟩ ?_
  refine G_iconst (n := 0) dX6_init_124 ⟨by decide, by decide⟩ ?_
  refine G_iast dX6_init_125 rfl (by omega) (by omega) ?_
  refine G_mk rfl ?_
  refine G_dup_a dX6_init_126 ?_
  refine G_iconst (n := 2) dX6_init_127 ⟨by decide, by decide⟩ ?_
  refine G_iconst (n := 0) dX6_init_128 ⟨by decide, by decide⟩ ?_
  refine G_iast dX6_init_129 rfl (by omega) (by omega) ?_
  refine G_mk rfl ?_
  refine G_dup_a dX6_init_130 ?_
  refine G_iconst (n := 3) dX6_init_131 ⟨by decide, by decide⟩ ?_
  refine G_iconst (n := 0) dX6_init_132 ⟨by decide, by decide⟩ ?_
  refine G_iast dX6_init_133 rfl (by omega) (by omega) ?_
  refine G_mk rfl ?_
  refine G_dup_a dX6_init_134 ?_
  refine G_iconst (n := 4) dX6_init_135 ⟨by decide, by decide⟩ ?_
  refine G_iconst (n := 0) dX6_init_136 ⟨by decide, by decide⟩ ?_
  refine G_iast dX6_init_137 rfl (by omega) (by omega) ?_
  refine G_mk rfl ?_
  refine G_dup_a dX6_init_138 ?_
  refine G_iconst (n := 5) dX6_init_139 ⟨by decide, by decide⟩ ?_
  refine G_iconst (n := 0) dX6_init_140 ⟨by decide, by decide⟩ ?_
  refine G_iast dX6_init_141 rfl (by omega) (by omega) ?_
  refine G_mk rfl ?_
  refine G_dup_a dX6_init_142 ?_
  refine G_bipush (n := 6) dX6_init_143 (by decide) ⟨by decide, by decide⟩ ?_
  refine G_iconst (n := 1) dX6_init_145 ⟨by decide, by decide⟩ ?_
  refine G_iast dX6_init_146 rfl (by omega) (by omega) ?_
  refine G_mk rfl ?_
  refine G_dup_a dX6_init_147 ?_
  refine G_bipush (n := 7) dX6_init_148 (by decide) ⟨by decide, by decide⟩ ?_
  refine G_iconst (n := 0) dX6_init_150 ⟨by decide, by decide⟩ ?_
  refine G_iast dX6_init_151 rfl (by omega) (by omega) ?_
  refine G_mk rfl ?_
  refine G_dup_a dX6_init_152 ?_
  refine G_bipush (n := 8) dX6_init_153 (by decide) ⟨by decide, by decide⟩ ?_
  refine G_iconst (n := 1) dX6_init_155 ⟨by decide, by decide⟩ ?_
  refine G_iast dX6_init_156 rfl (by omega) (by omega) ?_
  refine G_mk rfl ?_
  refine G_putRF (jj := 5) dX6_init_157 flX6_19 rfl rfl rfl rfl rfl rfl ?_
  refine G_aload_n dX6_init_160 rfl ?_
  refine G_bipush (n := 9) dX6_init_161 (by decide) ⟨by decide, by decide⟩ ?_
  refine G_newa_int (N := 9) dX6_init_163 ac_int rfl (by decide) (Nat.le_of_ble_eq_true rfl) (Nat.le_of_ble_eq_true rfl) ?_
  rw [mk_nil]
  refine G_dup_a dX6_init_165 ?_
  refine G_iconst (n := 0) dX6_init_166 ⟨by decide, by decide⟩ ?_
  refine G_bipush (n := 9) dX6_init_167 (by decide) ⟨by decide, by decide⟩ ?_
  refine G_iast dX6_init_169 rfl (by omega) (by omega) ?_
  refine G_mk rfl ?_
  refine G_dup_a dX6_init_170 ?_
  refine G_iconst (n := 1) dX6_init_171 ⟨by decide, by decide⟩ ?_
  refine G_bipush (n := 9) dX6_init_172 (by decide) ⟨by decide, by decide⟩ ?_
  refine G_iast dX6_init_174 rfl (by omega) (by omega) ?_
  refine G_mk rfl ?_
  refine G_dup_a dX6_init_175 ?_
  refine G_iconst (n := 2) dX6_init_176 ⟨by decide, by decide⟩ ?_
  refine G_sipush (n := 200) dX6_init_177 (by decide) ⟨by decide, by decide⟩ ?_
  refine G_iast dX6_init_180 rfl (by omega) (by omega) ?_
  refine G_mk rfl ?_
  refine G_dup_a dX6_init_181 ?_
  refine G_iconst (n := 3) dX6_init_182 ⟨by decide, by decide⟩ ?_
  refine G_bipush (n := 50) dX6_init_183 (by decide) ⟨by decide, by decide⟩ ?_
  refine G_iast dX6_init_185 rfl (by omega) (by omega) ?_
  refine G_mk rfl ?_
  refine G_dup_a dX6_init_186 ?_
  refine G_iconst (n := 4) dX6_init_187 ⟨by decide, by decide⟩ ?_
  refine G_bipush (n := 9) dX6_init_188 (by decide) ⟨by decide, by decide⟩ ?_
  refine G_iast dX6_init_190 rfl (by omega) (by omega) ?_
  refine G_mk rfl ?_
  refine G_dup_a dX6_init_191 ?_
  refine G_iconst (n := 5) dX6_init_192 ⟨by decide, by decide⟩ ?_
  refine G_bipush (n := 9) dX6_init_193 (by decide) ⟨by decide, by decide⟩ ?_
  refine G_iast dX6_init_195 rfl (by omega) (by omega) ?_
  refine G_mk rfl ?_
  refine G_dup_a dX6_init_196 ?_
  refine G_bipush (n := 6) dX6_init_197 (by decide) ⟨by decide, by decide⟩ ?_
  refine G_bipush (n := 101) dX6_init_199 (by decide) ⟨by decide, by decide⟩ ?_
  refine G_iast dX6_init_201 rfl (by omega) (by omega) ?_
  refine G_mk rfl ?_
  refine G_dup_a dX6_init_202 ?_
  refine G_bipush (n := 7) dX6_init_203 (by decide) ⟨by decide, by decide⟩ ?_
  refine G_bipush (n := 100) dX6_init_205 (by decide) ⟨by decide, by decide⟩ ?_
  refine G_iast dX6_init_207 rfl (by omega) (by omega) ?_
  refine G_mk rfl ?_
  refine G_dup_a dX6_init_208 ?_
  refine G_bipush (n := 8) dX6_init_209 (by decide) ⟨by decide, by decide⟩ ?_
  refine G_bipush (n := 20) dX6_init_211 (by decide) ⟨by decide, by decide⟩ ?_
  refine G_iast dX6_init_213 rfl (by omega) (by omega) ?_
  refine G_mk rfl ?_
  refine G_putRF (jj := 6) dX6_init_214 flX6_22 rfl rfl rfl rfl rfl rfl ?_
  refine G_aload_n dX6_init_217 rfl ?_
  refine G_bipush (n := 9) dX6_init_218 (by decide) ⟨by decide, by decide⟩ ?_
  refine G_newa_int (N := 9) dX6_init_220 ac_int rfl (by decide) (Nat.le_of_ble_eq_true rfl) (Nat.le_of_ble_eq_true rfl) ?_
  rw [mk_nil]
  refine G_dup_a dX6_init_222 ?_
  refine G_iconst (n := 0) dX6_init_223 ⟨by decide, by decide⟩ ?_
  refine G_iconst (n := 3) dX6_init_224 ⟨by decide, by decide⟩ ?_
  refine G_iast dX6_init_225 rfl (by omega) (by omega) ?_
  refine G_mk rfl ?_
  refine G_dup_a dX6_init_226 ?_
  refine G_iconst (n := 1) dX6_init_227 ⟨by decide, by decide⟩ ?_
  refine G_iconst (n := 1) dX6_init_228 ⟨by decide, by decide⟩ ?_
  refine G_iast dX6_init_229 rfl (by omega) (by omega) ?_
  refine G_mk rfl ?_
  refine G_dup_a dX6_init_230 ?_
  refine G_iconst (n := 2) dX6_init_231 ⟨by decide, by decide⟩ ?_
  refine G_bipush (n := 60) dX6_init_232 (by decide) ⟨by decide, by decide⟩ ?_
  refine G_iast dX6_init_234 rfl (by omega) (by omega) ?_
  refine G_mk rfl ?_
  refine G_dup_a dX6_init_235 ?_
  refine G_iconst (n := 3) dX6_init_236 ⟨by decide, by decide⟩ ?_
  refine G_iconst (n := 5) dX6_init_237 ⟨by decide, by decide⟩ ?_
  refine G_iast dX6_init_238 rfl (by omega) (by omega) ?_
  refine G_mk rfl ?_
  refine G_dup_a dX6_init_239 ?_
  refine G_iconst (n := 4) dX6_init_240 ⟨by decide, by decide⟩ ?_
  refine G_iconst (n := 2) dX6_init_241 ⟨by decide, by decide⟩ ?_
  refine G_iast dX6_init_242 rfl (by omega) (by omega) ?_
  refine G_mk rfl ?_
  refine G_dup_a dX6_init_243 ?_
  refine G_iconst (n := 5) dX6_init_244 ⟨by decide, by decide⟩ ?_
  refine G_iconst (n := 1) dX6_init_245 ⟨by decide, by decide⟩ ?_
  refine G_iast dX6_init_246 rfl (by omega) (by omega) ?_
  refine G_mk rfl ?_
  refine G_dup_a dX6_init_247 ?_
  refine G_bipush (n := 6) dX6_init_248 (by decide) ⟨by decide, by decide⟩ ?_
  refine G_bipush (n := 80) dX6_init_250 (by decide) ⟨by decide, by decide⟩ ?_
  refine G_iast dX6_init_252 rfl (by omega) (by omega) ?_
  refine G_mk rfl ?_
  refine G_dup_a dX6_init_253 ?_
  refine G_bipush (n := 7) dX6_init_254 (by decide) ⟨by decide, by decide⟩ ?_
  refine G_bipush (n := 30) dX6_init_256 (by decide) ⟨by decide, by decide⟩ ?_
  refine G_iast dX6_init_258 rfl (by omega) (by omega) ?_
  refine G_mk rfl ?_
  refine G_dup_a dX6_init_259 ?_
  refine G_bipush (n := 8) dX6_init_260 (by decide) ⟨by decide, by decide⟩ ?_
  refine G_iconst (n := 4) dX6_init_262 ⟨by decide, by decide⟩ ?_
  refine G_iast dX6_init_263 rfl (by omega) (by omega) ?_
  refine G_mk rfl ?_
  refine G_putRF (jj := 7) dX6_init_264 flX6_25 rfl rfl rfl rfl rfl rfl ?_
  refine G_aload_n dX6_init_267 rfl ?_
  refine G_bipush (n := 20) dX6_init_268 (by decide) ⟨by decide, by decide⟩ ?_
  refine G_newa_int (N := 20) dX6_init_270 ac_int rfl (by decide) (Nat.le_of_ble_eq_true rfl) (Nat.le_of_ble_eq_true rfl) ?_
  refine G_putRF (jj := 17) dX6_init_272 flX6_28 rfl rfl rfl rfl rfl rfl ?_
  refine G_aload_n dX6_init_275 rfl ?_
  refine G_bipush (n := 20) dX6_init_276 (by decide) ⟨by decide, by decide⟩ ?_
  refine G_newa_int (N := 20) dX6_init_278 ac_int rfl (by decide) (Nat.le_of_ble_eq_true rfl) (Nat.le_of_ble_eq_true rfl) ?_
  refine G_putRF (jj := 18) dX6_init_280 flX6_31 rfl rfl rfl rfl rfl rfl ?_
  refine G_aload_n dX6_init_283 rfl ?_
  refine G_bipush (n := 20) dX6_init_284 (by decide) ⟨by decide, by decide⟩ ?_
  refine G_newa_int (N := 20) dX6_init_286 ac_int rfl (by decide) (Nat.le_of_ble_eq_true rfl) (Nat.le_of_ble_eq_true rfl) ?_
  refine G_putRF (jj := 19) dX6_init_288 flX6_34 rfl rfl rfl rfl rfl rfl ?_
  refine G_aload_n dX6_init_291 rfl ?_
  refine G_bipush (n := 20) dX6_init_292 (by decide) ⟨by decide, by decide⟩ ?_
  refine G_newa_int (N := 20) dX6_init_294 ac_int rfl (by decide) (Nat.le_of_ble_eq_true rfl) (Nat.le_of_ble_eq_true rfl) ?_
  refine G_putRF (jj := 20) dX6_init_296 flX6_37 rfl rfl rfl rfl rfl rfl ?_
  refine G_aload_n dX6_init_299 rfl ?_
  refine G_bipush (n := 20) dX6_init_300 (by decide) ⟨by decide, by decide⟩ ?_
  refine G_newa_int (N := 20) dX6_init_302 ac_int rfl (by decide) (Nat.le_of_ble_eq_true rfl) (Nat.le_of_ble_eq_true rfl) ?_
  refine G_putRF (jj := 21) dX6_init_304 flX6_40 rfl rfl rfl rfl rfl rfl ?_
  refine G_aload_n dX6_init_307 rfl ?_
  refine G_bipush (n := 20) dX6_init_308 (by decide) ⟨by decide, by decide⟩ ?_
  refine G_newa_int (N := 20) dX6_init_310 ac_int rfl (by decide) (Nat.le_of_ble_eq_true rfl) (Nat.le_of_ble_eq_true rfl) ?_
  refine G_putRF (jj := 22) dX6_init_312 flX6_43 rfl rfl rfl rfl rfl rfl ?_
  refine G_aload_n dX6_init_315 rfl ?_
  refine G_bipush (n := 20) dX6_init_316 (by decide) ⟨by decide, by decide⟩ ?_
  refine G_newa_int (N := 20) dX6_init_318 ac_int rfl (by decide) (Nat.le_of_ble_eq_true rfl) (Nat.le_of_ble_eq_true rfl) ?_
  refine G_putRF (jj := 23) dX6_init_320 flX6_46 rfl rfl rfl rfl rfl rfl ?_
  refine G_aload_n dX6_init_323 rfl ?_
  refine G_bipush (n := 20) dX6_init_324 (by decide) ⟨by decide, by decide⟩ ?_
  refine G_newa_int (N := 20) dX6_init_326 ac_int rfl (by decide) (Nat.le_of_ble_eq_true rfl) (Nat.le_of_ble_eq_true rfl) ?_
  refine G_putRF (jj := 24) dX6_init_328 flX6_49 rfl rfl rfl rfl rfl rfl ?_
  refine G_aload_n dX6_init_331 rfl ?_
  refine G_sipush (n := 2000) dX6_init_332 (by decide) ⟨by decide, by decide⟩ ?_
  refine G_newa_int (N := 2000) dX6_init_335 ac_int rfl (by decide) (Nat.le_of_ble_eq_true rfl) (Nat.le_of_ble_eq_true rfl) ?_
  refine G_putRF (jj := 25) dX6_init_337 flX6_52 rfl rfl rfl rfl rfl rfl ?_
  refine G_aload_n dX6_init_340 rfl ?_
  refine G_sipush (n := 2000) dX6_init_341 (by decide) ⟨by decide, by decide⟩ ?_
  refine G_newa_boolean (N := 2000) dX6_init_344 ac_bool rfl (by decide) (Nat.le_of_ble_eq_true rfl) (Nat.le_of_ble_eq_true rfl) ?_
  refine G_putRF (jj := 26) dX6_init_346 flX6_55 rfl rfl rfl rfl rfl rfl ?_
  refine G_aload_n dX6_init_349 rfl ?_
  refine G_bipush (n := 8) dX6_init_350 (by decide) ⟨by decide, by decide⟩ ?_
  refine G_newa_int (N := 8) dX6_init_352 ac_int rfl (by decide) (Nat.le_of_ble_eq_true rfl) (Nat.le_of_ble_eq_true rfl) ?_
  refine G_putRF (jj := 27) dX6_init_354 flX6_59 rfl rfl rfl rfl rfl rfl ?_
  refine G_aload_n dX6_init_357 rfl ?_
  refine G_bipush (n := 8) dX6_init_358 (by decide) ⟨by decide, by decide⟩ ?_
  refine G_newa_int (N := 8) dX6_init_360 ac_int rfl (by decide) (Nat.le_of_ble_eq_true rfl) (Nat.le_of_ble_eq_true rfl) ?_
  refine G_putRF (jj := 28) dX6_init_362 flX6_62 rfl rfl rfl rfl rfl rfl ?_
  refine G_aload_n dX6_init_365 rfl ?_
  refine G_bipush (n := 8) dX6_init_366 (by decide) ⟨by decide, by decide⟩ ?_
  refine G_newa_int (N := 8) dX6_init_368 ac_int rfl (by decide) (Nat.le_of_ble_eq_true rfl) (Nat.le_of_ble_eq_true rfl) ?_
  refine G_putRF (jj := 29) dX6_init_370 flX6_65 rfl rfl rfl rfl rfl rfl ?_
  refine G_aload_n dX6_init_373 rfl ?_
  refine G_bipush (n := 8) dX6_init_374 (by decide) ⟨by decide, by decide⟩ ?_
  refine G_newa_int (N := 8) dX6_init_376 ac_int rfl (by decide) (Nat.le_of_ble_eq_true rfl) (Nat.le_of_ble_eq_true rfl) ?_
  refine G_putRF (jj := 30) dX6_init_378 flX6_68 rfl rfl rfl rfl rfl rfl ?_
  refine G_aload_n dX6_init_381 rfl ?_
  refine G_bipush (n := 16) dX6_init_382 (by decide) ⟨by decide, by decide⟩ ?_
  refine G_newa_int (N := 16) dX6_init_384 ac_int rfl (by decide) (Nat.le_of_ble_eq_true rfl) (Nat.le_of_ble_eq_true rfl) ?_
  rw [mk_nil]
  refine G_dup_a dX6_init_386 ?_
  refine G_iconst (n := 0) dX6_init_387 ⟨by decide, by decide⟩ ?_
  refine G_iconst (n := (-1)) dX6_init_388 ⟨by decide, by decide⟩ ?_
  refine G_iast dX6_init_389 rfl (by omega) (by omega) ?_
  refine G_mk rfl ?_
  refine G_dup_a dX6_init_390 ?_
  refine G_iconst (n := 1) dX6_init_391 ⟨by decide, by decide⟩ ?_
  refine G_iconst (n := (-1)) dX6_init_392 ⟨by decide, by decide⟩ ?_
  refine G_iast dX6_init_393 rfl (by omega) (by omega) ?_
  refine G_mk rfl ?_
  refine G_dup_a dX6_init_394 ?_
  refine G_iconst (n := 2) dX6_init_395 ⟨by decide, by decide⟩ ?_
  refine G_iconst (n := (-1)) dX6_init_396 ⟨by decide, by decide⟩ ?_
  refine G_iast dX6_init_397 rfl (by omega) (by omega) ?_
  refine G_mk rfl ?_
  refine G_dup_a dX6_init_398 ?_
  refine G_iconst (n := 3) dX6_init_399 ⟨by decide, by decide⟩ ?_
  refine G_iconst (n := (-1)) dX6_init_400 ⟨by decide, by decide⟩ ?_
  refine G_iast dX6_init_401 rfl (by omega) (by omega) ?_
  refine G_mk rfl ?_
  refine G_dup_a dX6_init_402 ?_
  refine G_iconst (n := 4) dX6_init_403 ⟨by decide, by decide⟩ ?_
  refine G_iconst (n := (-1)) dX6_init_404 ⟨by decide, by decide⟩ ?_
  refine G_iast dX6_init_405 rfl (by omega) (by omega) ?_
  refine G_mk rfl ?_
  refine G_dup_a dX6_init_406 ?_
  refine G_iconst (n := 5) dX6_init_407 ⟨by decide, by decide⟩ ?_
  refine G_iconst (n := (-1)) dX6_init_408 ⟨by decide, by decide⟩ ?_
  refine G_iast dX6_init_409 rfl (by omega) (by omega) ?_
  refine G_mk rfl ?_
  refine G_dup_a dX6_init_410 ?_
  refine G_bipush (n := 6) dX6_init_411 (by decide) ⟨by decide, by decide⟩ ?_
  refine G_iconst (n := (-1)) dX6_init_413 ⟨by decide, by decide⟩ ?_
  refine G_iast dX6_init_414 rfl (by omega) (by omega) ?_
  refine G_mk rfl ?_
  refine G_dup_a dX6_init_415 ?_
  refine G_bipush (n := 7) dX6_init_416 (by decide) ⟨by decide, by decide⟩ ?_
  refine G_iconst (n := (-1)) dX6_init_418 ⟨by decide, by decide⟩ ?_
  refine G_iast dX6_init_419 rfl (by omega) (by omega) ?_
  refine G_mk rfl ?_
  refine G_dup_a dX6_init_420 ?_
  refine G_bipush (n := 8) dX6_init_421 (by decide) ⟨by decide, by decide⟩ ?_
  refine G_iconst (n := (-1)) dX6_init_423 ⟨by decide, by decide⟩ ?_
  refine G_iast dX6_init_424 rfl (by omega) (by omega) ?_
  refine G_mk rfl ?_
  refine G_dup_a dX6_init_425 ?_
  refine G_bipush (n := 9) dX6_init_426 (by decide) ⟨by decide, by decide⟩ ?_
  refine G_iconst (n := (-1)) dX6_init_428 ⟨by decide, by decide⟩ ?_
  refine G_iast dX6_init_429 rfl (by omega) (by omega) ?_
  refine G_mk rfl ?_
  refine G_dup_a dX6_init_430 ?_
  refine G_bipush (n := 10) dX6_init_431 (by decide) ⟨by decide, by decide⟩ ?_
  refine G_iconst (n := (-1)) dX6_init_433 ⟨by decide, by decide⟩ ?_
  refine G_iast dX6_init_434 rfl (by omega) (by omega) ?_
  refine G_mk rfl ?_
  refine G_dup_a dX6_init_435 ?_
  refine G_bipush (n := 11) dX6_init_436 (by decide) ⟨by decide, by decide⟩ ?_
  refine G_iconst (n := (-1)) dX6_init_438 ⟨by decide, by decide⟩ ?_
  refine G_iast dX6_init_439 rfl (by omega) (by omega) ?_
  refine G_mk rfl ?_
  refine G_dup_a dX6_init_440 ?_
  refine G_bipush (n := 12) dX6_init_441 (by decide) ⟨by decide, by decide⟩ ?_
  refine G_iconst (n := (-1)) dX6_init_443 ⟨by decide, by decide⟩ ?_
  refine G_iast dX6_init_444 rfl (by omega) (by omega) ?_
  refine G_mk rfl ?_
  refine G_dup_a dX6_init_445 ?_
  refine G_bipush (n := 13) dX6_init_446 (by decide) ⟨by decide, by decide⟩ ?_
  refine G_iconst (n := (-1)) dX6_init_448 ⟨by decide, by decide⟩ ?_
  refine G_iast dX6_init_449 rfl (by omega) (by omega) ?_
  refine G_mk rfl ?_
  refine G_dup_a dX6_init_450 ?_
  refine G_bipush (n := 14) dX6_init_451 (by decide) ⟨by decide, by decide⟩ ?_
  refine G_iconst (n := (-1)) dX6_init_453 ⟨by decide, by decide⟩ ?_
  refine G_iast dX6_init_454 rfl (by omega) (by omega) ?_
  refine G_mk rfl ?_
  refine G_dup_a dX6_init_455 ?_
  refine G_bipush (n := 15) dX6_init_456 (by decide) ⟨by decide, by decide⟩ ?_
  refine G_iconst (n := (-1)) dX6_init_458 ⟨by decide, by decide⟩ ?_
  refine G_iast dX6_init_459 rfl (by omega) (by omega) ?_
  refine G_mk rfl ?_
  refine G_putRF (jj := 31) dX6_init_460 flX6_71 rfl rfl rfl rfl rfl rfl ?_
  refine G_aload_n dX6_init_463 rfl ?_
  refine G_bipush (n := 16) dX6_init_464 (by decide) ⟨by decide, by decide⟩ ?_
  refine G_newa_int (N := 16) dX6_init_466 ac_int rfl (by decide) (Nat.le_of_ble_eq_true rfl) (Nat.le_of_ble_eq_true rfl) ?_
  refine G_putRF (jj := 32) dX6_init_468 flX6_74 rfl rfl rfl rfl rfl rfl ?_
  refine G_aload_n dX6_init_471 rfl ?_
  refine G_bipush (n := 16) dX6_init_472 (by decide) ⟨by decide, by decide⟩ ?_
  refine G_newa_int (N := 16) dX6_init_474 ac_int rfl (by decide) (Nat.le_of_ble_eq_true rfl) (Nat.le_of_ble_eq_true rfl) ?_
  refine G_putRF (jj := 37) dX6_init_476 flX6_77 rfl rfl rfl rfl rfl rfl ?_
  refine G_aload_n dX6_init_479 rfl ?_
  refine G_bipush (n := 16) dX6_init_480 (by decide) ⟨by decide, by decide⟩ ?_
  refine G_newa_int (N := 16) dX6_init_482 ac_int rfl (by decide) (Nat.le_of_ble_eq_true rfl) (Nat.le_of_ble_eq_true rfl) ?_
  refine G_putRF (jj := 38) dX6_init_484 flX6_80 rfl rfl rfl rfl rfl rfl ?_
  refine G_aload_n dX6_init_487 rfl ?_
  refine G_sipush (n := 320) dX6_init_488 (by decide) ⟨by decide, by decide⟩ ?_
  refine G_newa_int (N := 320) dX6_init_491 ac_int rfl (by decide) (Nat.le_of_ble_eq_true rfl) (Nat.le_of_ble_eq_true rfl) ?_
  refine G_putRF (jj := 39) dX6_init_493 flX6_83 rfl rfl rfl rfl rfl rfl ?_
  refine G_aload_n dX6_init_496 rfl ?_
  refine G_bipush (n := 20) dX6_init_497 (by decide) ⟨by decide, by decide⟩ ?_
  refine G_newa_int (N := 20) dX6_init_499 ac_int rfl (by decide) (Nat.le_of_ble_eq_true rfl) (Nat.le_of_ble_eq_true rfl) ?_
  refine G_putRF (jj := 40) dX6_init_501 flX6_86 rfl rfl rfl rfl rfl rfl ?_
  refine G_aload_n dX6_init_504 rfl ?_
  refine G_bipush (n := 16) dX6_init_505 (by decide) ⟨by decide, by decide⟩ ?_
  refine G_newa_boolean (N := 16) dX6_init_507 ac_bool rfl (by decide) (Nat.le_of_ble_eq_true rfl) (Nat.le_of_ble_eq_true rfl) ?_
  refine G_putRF (jj := 41) dX6_init_509 flX6_89 rfl rfl rfl rfl rfl rfl ?_
  refine G_aload_n dX6_init_512 rfl ?_
  refine G_bipush (n := 22) dX6_init_513 (by decide) ⟨by decide, by decide⟩ ?_
  refine G_newa_int (N := 22) dX6_init_515 ac_int rfl (by decide) (Nat.le_of_ble_eq_true rfl) (Nat.le_of_ble_eq_true rfl) ?_
  refine G_putRF (jj := 42) dX6_init_517 flX6_92 rfl rfl rfl rfl rfl rfl ?_
  refine G_aload_n dX6_init_520 rfl ?_
  refine G_bipush (n := 22) dX6_init_521 (by decide) ⟨by decide, by decide⟩ ?_
  refine G_newa_int (N := 22) dX6_init_523 ac_int rfl (by decide) (Nat.le_of_ble_eq_true rfl) (Nat.le_of_ble_eq_true rfl) ?_
  refine G_putRF (jj := 43) dX6_init_525 flX6_95 rfl rfl rfl rfl rfl rfl ?_
  refine G_aload_n dX6_init_528 rfl ?_
  refine G_bipush (n := 22) dX6_init_529 (by decide) ⟨by decide, by decide⟩ ?_
  refine G_newa_int (N := 22) dX6_init_531 ac_int rfl (by decide) (Nat.le_of_ble_eq_true rfl) (Nat.le_of_ble_eq_true rfl) ?_
  refine G_putRF (jj := 44) dX6_init_533 flX6_98 rfl rfl rfl rfl rfl rfl ?_
  exact G_vret dX6_init_536 rfl rfl rfl ⟨rfl, rfl, rfl⟩
theorem Wv1_lt {v : VV} {k : Nat} {j : Int} (h : k < 28) : Wv1 v k j = v k j := by
  unfold Wv1
  repeat first | rw [nV_lt (by omega)] | rw [mk_lt (by omega)]
theorem Wv1_us {v : VV} {k : Nat} {j : Int} (h : k = 29 ∨ k = 30 ∨ k = 33) : Wv1 v k j = rowX xUs j := by
  rcases h with rfl | rfl | rfl <;> rfl
theorem Wv1_le {v : VV} {j : Int} : Wv1 v 31 j = rowX xLe j := rfl
theorem Wv1_mo {v : VV} {j : Int} : Wv1 v 32 j = rowX xMo j := rfl
theorem Wv1_who {v : VV} {j : Int} : Wv1 v 48 j = rowX (List.replicate 16 (-1)) j := rfl
theorem Wv1_0 {v : VV} {k : Nat} {j : Int} (h : 28 ≤ k) (h1 : k < 58) (h2 : k ≠ 29) (h3 : k ≠ 30) (h4 : k ≠ 31) (h5 : k ≠ 32) (h6 : k ≠ 33) (h7 : k ≠ 48) : Wv1 v k j = 0 := by
  have hz : k = 28 ∨ k = 34 ∨ k = 35 ∨ k = 36 ∨ k = 37 ∨ k = 38 ∨ k = 39 ∨ k = 40 ∨ k = 41 ∨ k = 42 ∨ k = 43 ∨ k = 44 ∨ k = 45 ∨ k = 46 ∨ k = 47 ∨ k = 49 ∨ k = 50 ∨ k = 51 ∨ k = 52 ∨ k = 53 ∨ k = 54 ∨ k = 55 ∨ k = 56 ∨ k = 57 := by omega
  rcases hz with rfl | rfl | rfl | rfl | rfl | rfl | rfl | rfl | rfl | rfl | rfl | rfl | rfl | rfl | rfl | rfl | rfl | rfl | rfl | rfl | rfl | rfl | rfl | rfl <;> rfl
