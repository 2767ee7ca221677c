noncomputable def bP (p : Prop) : Int := @ite _ p (Classical.propDecidable p) 1 0
theorem bP_t {p : Prop} (h : p) : bP p = 1 := if_pos h
theorem bP_f {p : Prop} (h : ¬ p) : bP p = 0 := if_neg h
theorem bP_01 (p : Prop) : bP p = 0 ∨ bP p = 1 := by
  by_cases h : p
  · exact Or.inr (bP_t h)
  · exact Or.inl (bP_f h)
theorem bP_1 {p : Prop} : bP p = 1 ↔ p := by
  by_cases h : p
  · exact ⟨fun _ => h, fun _ => bP_t h⟩
  · exact ⟨fun e => by rw [bP_f h] at e; omega, fun z => absurd z h⟩
theorem bP_0 {p : Prop} : bP p = 0 ↔ ¬ p := by
  by_cases h : p
  · exact ⟨fun e => by rw [bP_t h] at e; omega, fun z => absurd h z⟩
  · exact ⟨fun _ => h, fun _ => bP_f h⟩
theorem bP_iR (p : Prop) : iR (bP p) := by rcases bP_01 p with h | h <;> rw [h] <;> exact ⟨by decide, by decide⟩
theorem bP_if (p : Prop) [Decidable p] : bP p = if p then 1 else 0 := by
  by_cases h : p
  · rw [bP_t h, if_pos h]
  · rw [bP_f h, if_neg h]
theorem bP_congr {p q : Prop} (h : p ↔ q) : bP p = bP q := by rw [propext h]
def bandI (x y : Int) : Int := (Int32.ofInt x &&& Int32.ofInt y).toInt
/-- an UMPIRE stood in each of the row weeks ahead -/
def rowP (v : VV) (u : Int) : Prop := v 29 0 ≤ v 27 35 ∧ ∀ r, 0 ≤ r → r < v 29 0 → v 42 (100 * u + v 27 35 - 1 - r) ≠ 0
def againP (v : VV) (u s : Int) : Prop := ∃ k, 1 ≤ k ∧ k ≤ v 29 1 ∧ k ≤ v 27 35 ∧ bandI (v 42 (100 * u + v 27 35 - k)) (v 46 (s / 2)) ≠ 0
def mayP (v : VV) (u s : Int) : Prop := v 43 (100 * u + v 27 35) = 0 ∧ bandI (v 37 u) (v 46 (s / 2)) = 0 ∧ v 36 u ≤ v 47 (s / 2) + s % 2 ∧ milesS v u s ≤ v 29 2 ∧ ¬ rowP v u ∧ ¬ againP v u s
/-- the bounds of the model's numbers -/
def RB (v : VV) : Prop := (1 ≤ v 29 0 ∧ v 29 0 ≤ 9) ∧ (0 ≤ v 29 1 ∧ v 29 1 ≤ 9) ∧ (0 ≤ v 29 2 ∧ v 29 2 ≤ 200) ∧ (0 ≤ v 29 3 ∧ v 29 3 ≤ 50) ∧ (0 ≤ v 29 4 ∧ v 29 4 ≤ 9) ∧ (0 ≤ v 29 5 ∧ v 29 5 ≤ 9) ∧ (1 ≤ v 29 6 ∧ v 29 6 ≤ 101) ∧ (0 ≤ v 29 7 ∧ v 29 7 ≤ 100) ∧ (1 ≤ v 29 8 ∧ v 29 8 ≤ 20)
def MBx (nu : Nat) (b : Int) (v : VV) : Prop := (nu ≤ 20 ∧ v 27 33 = nu) ∧ (0 ≤ v 27 34 ∧ v 27 34 ≤ 8) ∧ (0 ≤ v 27 35 ∧ v 27 35 ≤ 99) ∧ RB v ∧
  (∀ u : Int, 0 ≤ u → u < nu → (0 ≤ v 34 u ∧ v 34 u ≤ 99) ∧ (0 ≤ v 35 u ∧ v 35 u ≤ 99) ∧ (1 ≤ v 36 u ∧ v 36 u ≤ 4) ∧ (0 ≤ v 37 u ∧ v 37 u ≤ 4095) ∧ (0 ≤ v 41 u ∧ v 41 u ≤ b)) ∧
  (∀ g : Int, 0 ≤ g → g < v 27 34 → (0 ≤ v 44 g ∧ v 44 g ≤ 99) ∧ (0 ≤ v 45 g ∧ v 45 g ≤ 99) ∧ (1 ≤ v 46 g ∧ v 46 g ≤ 4095) ∧ (1 ≤ v 47 g ∧ v 47 g ≤ 4)) ∧
  (∀ s : Int, 0 ≤ s → s < 2 * v 27 34 → -1 ≤ v 48 s ∧ v 48 s < nu)
def MB (nu : Nat) (v : VV) : Prop := MBx nu (v 27 35) v
theorem lessS_bd {a b : Int} (ha : 0 ≤ a ∧ a ≤ 99) (hb : 0 ≤ b ∧ b ≤ 99) : 0 ≤ lessS a b ∧ lessS a b ≤ 99 := by unfold lessS; split <;> omega
theorem MB.miles {nu : Nat} {v : VV} (h : MB nu v) {u s : Int} (hu : 0 ≤ u ∧ u < nu) (hs : 0 ≤ s ∧ s < 2 * v 27 34) : 0 ≤ milesS v u s ∧ milesS v u s ≤ 198 := by
  have h1 := h.2.2.2.2.1 u hu.1 hu.2
  have h2 := h.2.2.2.2.2.1 (s / 2) (by omega) (by omega)
  have a := lessS_bd h1.1 h2.1
  have b := lessS_bd h1.2.1 h2.2.1
  unfold milesS
  omega
theorem mul_bd {a b x y : Int} (ha : 0 ≤ a ∧ a ≤ x) (hb : 0 ≤ b ∧ b ≤ y) : 0 ≤ a * b ∧ a * b ≤ x * y := ⟨Int.mul_nonneg ha.1 hb.1, Int.mul_le_mul ha.2 hb.2 hb.1 (by omega)⟩
theorem MB.cost {nu : Nat} {v : VV} (h : MB nu v) {u s : Int} (hu : 0 ≤ u ∧ u < nu) (hs : 0 ≤ s ∧ s < 2 * v 27 34) : 0 ≤ costS v u s ∧ costS v u s ≤ 5148 := by
  have h1 := (h.2.2.2.2.1 u hu.1 hu.2).2.2.2.2
  have h2 := h.miles hu hs
  have h3 := mul_bd h.2.2.2.1.2.2.2.1 (show 0 ≤ v 41 u ∧ v 41 u ≤ 99 from ⟨h1.1, by have := h.2.2.1; omega⟩)
  unfold costS
  omega
set_option maxRecDepth 20000 in
set_option maxHeartbeats 1000000 in
theorem c_X6_costOf (l : Launch) (d nu : Nat) (v : VV) (hB : MB nu v) (u s : Int) (hu : 0 ≤ u ∧ u < nu) (hs : 0 ≤ s ∧ s < 2 * v 27 34) : Ct l yX6_costOf cX6_costOf (some .int) 3 (d + 2) 0 0 [ar (some 27), ai u, ai s] (SG nu) v (rI (SG nu) (costS v u s) v) := by
  refine Ct_of_G [some (ar (some 27)), some (ai u), some (ai s)] (by decide) rfl rfl ?_
  have hn := hB.1
  have hgm := hB.2.1
  have hwk := hB.2.2.1
  have hrb := hB.2.2.2.1
  have hr0 := hrb.1
  have hr1 := hrb.2.1
  have hr2 := hrb.2.2.1
  have hr3 := hrb.2.2.2.1
  have hum := hB.2.2.2.2.1 u hu.1 hu.2
  have hga := hB.2.2.2.2.2.1 (s / 2) (by omega) (by omega)
  have hml := hB.miles hu hs
  have hmu := mul_bd hrb.2.2.2.1 (show 0 ≤ v 41 u ∧ v 41 u ≤ 99 from ⟨hum.2.2.2.2.1, by omega⟩)
  refine G_aload_n dX6_costOf_0 rfl ?_
  refine G_iload_n dX6_costOf_1 rfl ?_
  refine G_iload_n dX6_costOf_2 rfl ?_
  refine G_cVi (ci := 6) dX6_costOf_3 rfl (by decide) rfl (c_X6_miles l (d + 0) nu v u s (by omega) (by omega) hum.1 hum.2.1 hga.1 hga.2.1) mcX6_204 rfl rfl (by show _ ≤ d + 2; omega) rfl rfl (Nat.le_refl _) (Nat.le_refl _) ?_
  refine G_aload_n dX6_costOf_6 rfl ?_
  refine G_getR (jj := 3) dX6_costOf_7 flX6_13 rfl rfl rfl ?_
  refine G_iconst (n := 3) dX6_costOf_10 ⟨by decide, by decide⟩ ?_
  refine G_iald dX6_costOf_11 rfl (by omega) (by omega) ?_
  refine G_aload_n dX6_costOf_12 rfl ?_
  refine G_getR (jj := 24) dX6_costOf_13 flX6_49 rfl rfl rfl ?_
  refine G_iload_n dX6_costOf_16 rfl ?_
  refine G_iald dX6_costOf_17 rfl (by omega) (by omega) ?_
  refine G_imul dX6_costOf_18 (iRm (by omega) (by omega)) ?_
  refine G_iadd dX6_costOf_19 (iRm (by omega) (by omega)) ?_
  exact G_iret dX6_costOf_20 rfl rfl rfl ⟨rfl, rfl, rfl⟩

set_option maxRecDepth 20000 in
set_option maxHeartbeats 1000000 in
theorem c_X6_mayHave (l : Launch) (d nu : Nat) (v : VV) (hB : MB nu v) (u s : Int) (hu : 0 ≤ u ∧ u < nu) (hs : 0 ≤ s ∧ s < 2 * v 27 34) : Ct l yX6_mayHave cX6_mayHave (some .boolean) 6 (d + 2) 0 0 [ar (some 27), ai u, ai s] (SG nu) v (rI (SG nu) (bP (mayP v u s)) v) := by
  refine Ct_of_G [some (ar (some 27)), some (ai u), some (ai s), none, none, none] (by decide) rfl rfl ?_
  have hn := hB.1
  have hgm := hB.2.1
  have hwk := hB.2.2.1
  have hrb := hB.2.2.2.1
  have hr0 := hrb.1
  have hr1 := hrb.2.1
  have hr2 := hrb.2.2.1
  have hr3 := hrb.2.2.2.1
  have hum := hB.2.2.2.2.1 u hu.1 hu.2
  have hga := hB.2.2.2.2.2.1 (s / 2) (by omega) (by omega)
  have hml := hB.miles hu hs
  have loop2 : ∀ (n : Nat) (k : Int), 1 ≤ k → k + n = 20 → k ≤ 11 → (¬ againP v u s → mayP v u s) → (∀ j, 1 ≤ j → j < k → bandI (v 42 (100 * u + v 27 35 - j)) (v 46 (s / 2)) = 0) → (z : Int) → G l (yX6_mayHave, cX6_mayHave, (some .boolean), 6, (d + 2), 0, 0, none) (rI (SG nu) (bP (mayP v u s)) v) 0 0 (SG nu) 140 [some (ar (some 27)), some (ai u), some (ai s), some (ai (s / 2)), some (ai z), some (ai k)] [] v := by
    intro n
    induction n using Nat.strongRecOn with
    | ind n ih =>
    intro k h0 h1 h2 hm hj z
    refine G_iload dX6_mayHave_140 rfl ?_
    refine G_aload_n dX6_mayHave_142 rfl ?_
    refine G_getR (jj := 3) dX6_mayHave_143 flX6_13 rfl rfl rfl ?_
    refine G_iconst (n := 1) dX6_mayHave_146 ⟨by decide, by decide⟩ ?_
    refine G_iald dX6_mayHave_147 rfl (by omega) (by omega) ?_
    refine G_icmp_gt 195 dX6_mayHave_148 (by decide) (fun h148 => ?_) (fun h148 => ?_)
    · refine G_iconst (n := 1) dX6_mayHave_195 ⟨by decide, by decide⟩ ?_
      exact G_zret dX6_mayHave_196 rfl (by omega) rfl rfl ⟨congrArg (fun x => some (ai x)) (bP_t (hm (fun ⟨j, j1, j2, j3, j4⟩ => j4 (hj j j1 (by omega))))).symm, rfl, rfl⟩
    · refine G_iload dX6_mayHave_151 rfl ?_
      refine G_aload_n dX6_mayHave_153 rfl ?_
      refine G_getI (jj := 35) dX6_mayHave_154 flX6_194 rfl rfl rfl ?_
      refine G_icmp_gt 195 dX6_mayHave_157 (by decide) (fun h157 => ?_) (fun h157 => ?_)
      · refine G_iconst (n := 1) dX6_mayHave_195 ⟨by decide, by decide⟩ ?_
        exact G_zret dX6_mayHave_196 rfl (by omega) rfl rfl ⟨congrArg (fun x => some (ai x)) (bP_t (hm (fun ⟨j, j1, j2, j3, j4⟩ => j4 (hj j j1 (by omega))))).symm, rfl, rfl⟩
      · refine G_aload_n dX6_mayHave_160 rfl ?_
        refine G_getR (jj := 25) dX6_mayHave_161 flX6_52 rfl rfl rfl ?_
        refine G_bipush (n := 100) dX6_mayHave_164 (by decide) ⟨by decide, by decide⟩ ?_
        refine G_iload_n dX6_mayHave_166 rfl ?_
        refine G_imul dX6_mayHave_167 (iRm (by omega) (by omega)) ?_
        refine G_aload_n dX6_mayHave_168 rfl ?_
        refine G_getI (jj := 35) dX6_mayHave_169 flX6_194 rfl rfl rfl ?_
        refine G_iadd dX6_mayHave_172 (iRm (by omega) (by omega)) ?_
        refine G_iload dX6_mayHave_173 rfl ?_
        refine G_isub dX6_mayHave_175 (iRm (by omega) (by omega)) ?_
        refine G_iald dX6_mayHave_176 rfl (by omega) (by omega) ?_
        refine G_aload_n dX6_mayHave_177 rfl ?_
        refine G_getR (jj := 29) dX6_mayHave_178 flX6_65 rfl rfl rfl ?_
        refine G_iload_n dX6_mayHave_181 rfl ?_
        refine G_iald dX6_mayHave_182 rfl (by omega) (by omega) ?_
        refine G_iand (bandI (v 42 (100 * u + v 27 35 - k)) (v 46 (s / 2))) dX6_mayHave_183 rfl ?_
        refine G_if_eq 189 dX6_mayHave_184 (by decide) (fun h184 => ?_) (fun h184 => ?_)
        · refine G_iinc dX6_mayHave_189 rfl (iRm (by omega) (by omega)) rfl rfl ?_
          refine G_goto 140 dX6_mayHave_192 (by decide) ?_
          exact ih (n - 1) (by omega) (k + 1) (by omega) (by omega) (by omega) hm (fun j j1 j2 => by by_cases e : j = k; rw [e]; exact h184; exact hj j j1 (by omega)) z
        · refine G_iconst (n := 0) dX6_mayHave_187 ⟨by decide, by decide⟩ ?_
          exact G_zret dX6_mayHave_188 rfl (by omega) rfl rfl ⟨congrArg (fun x => some (ai x)) (bP_f (fun h => h.2.2.2.2.2 ⟨k, by omega, by omega, by omega, h184⟩)).symm, rfl, rfl⟩
  have K : ∀ k : Int, 0 ≤ k → k ≤ 9 → (k = v 29 0 ↔ rowP v u) → (¬ rowP v u → ¬ againP v u s → mayP v u s) → G l (yX6_mayHave, cX6_mayHave, (some .boolean), 6, (d + 2), 0, 0, none) (rI (SG nu) (bP (mayP v u s)) v) 0 0 (SG nu) 124 [some (ar (some 27)), some (ai u), some (ai s), some (ai (s / 2)), some (ai k), none] [] v := by
    intro k h0 h1 hk hm
    refine G_iload dX6_mayHave_124 rfl ?_
    refine G_aload_n dX6_mayHave_126 rfl ?_
    refine G_getR (jj := 3) dX6_mayHave_127 flX6_13 rfl rfl rfl ?_
    refine G_iconst (n := 0) dX6_mayHave_130 ⟨by decide, by decide⟩ ?_
    refine G_iald dX6_mayHave_131 rfl (by omega) (by omega) ?_
    refine G_icmp_ne 137 dX6_mayHave_132 (by decide) (fun h132 => ?_) (fun h132 => ?_)
    · refine G_iconst (n := 1) dX6_mayHave_137 ⟨by decide, by decide⟩ ?_
      refine G_istore dX6_mayHave_138 rfl rfl ?_
      exact loop2 19 1 (by omega) (by omega) (by omega) (hm (fun z => h132 (hk.mpr z))) (fun j j1 j2 => by omega) _
    · refine G_iconst (n := 0) dX6_mayHave_135 ⟨by decide, by decide⟩ ?_
      exact G_zret dX6_mayHave_136 rfl (by omega) rfl rfl ⟨congrArg (fun x => some (ai x)) (bP_f (fun h => h.2.2.2.2.1 (hk.mp h132))).symm, rfl, rfl⟩
  have loop1 : ∀ (n : Nat) (k : Int), 0 ≤ k → k + n = 20 → k ≤ v 29 0 → k ≤ v 27 35 → (¬ rowP v u → ¬ againP v u s → mayP v u s) → (∀ j, 0 ≤ j → j < k → v 42 (100 * u + v 27 35 - 1 - j) ≠ 0) → G l (yX6_mayHave, cX6_mayHave, (some .boolean), 6, (d + 2), 0, 0, none) (rI (SG nu) (bP (mayP v u s)) v) 0 0 (SG nu) 76 [some (ar (some 27)), some (ai u), some (ai s), some (ai (s / 2)), some (ai k), none] [] v := by
    intro n
    induction n using Nat.strongRecOn with
    | ind n ih =>
    intro k h0 h1 h2 h3 hm hj
    refine G_iload dX6_mayHave_76 rfl ?_
    refine G_aload_n dX6_mayHave_78 rfl ?_
    refine G_getR (jj := 3) dX6_mayHave_79 flX6_13 rfl rfl rfl ?_
    refine G_iconst (n := 0) dX6_mayHave_82 ⟨by decide, by decide⟩ ?_
    refine G_iald dX6_mayHave_83 rfl (by omega) (by omega) ?_
    refine G_icmp_ge 124 dX6_mayHave_84 (by decide) (fun h84 => ?_) (fun h84 => ?_)
    · refine K k (by omega) (by omega) ⟨fun e => ⟨by omega, fun j j1 j2 => hj j j1 (by omega)⟩, fun e => ?_⟩ hm
      have := e.1; omega
    · refine G_iload dX6_mayHave_87 rfl ?_
      refine G_aload_n dX6_mayHave_89 rfl ?_
      refine G_getI (jj := 35) dX6_mayHave_90 flX6_194 rfl rfl rfl ?_
      refine G_icmp_ge 124 dX6_mayHave_93 (by decide) (fun h93 => ?_) (fun h93 => ?_)
      · refine K k (by omega) (by omega) ⟨fun e => ⟨by omega, fun j j1 j2 => hj j j1 (by omega)⟩, fun e => ?_⟩ hm
        have := e.1; omega
      · refine G_aload_n dX6_mayHave_96 rfl ?_
        refine G_getR (jj := 25) dX6_mayHave_97 flX6_52 rfl rfl rfl ?_
        refine G_bipush (n := 100) dX6_mayHave_100 (by decide) ⟨by decide, by decide⟩ ?_
        refine G_iload_n dX6_mayHave_102 rfl ?_
        refine G_imul dX6_mayHave_103 (iRm (by omega) (by omega)) ?_
        refine G_aload_n dX6_mayHave_104 rfl ?_
        refine G_getI (jj := 35) dX6_mayHave_105 flX6_194 rfl rfl rfl ?_
        refine G_iadd dX6_mayHave_108 (iRm (by omega) (by omega)) ?_
        refine G_iconst (n := 1) dX6_mayHave_109 ⟨by decide, by decide⟩ ?_
        refine G_isub dX6_mayHave_110 (iRm (by omega) (by omega)) ?_
        refine G_iload dX6_mayHave_111 rfl ?_
        refine G_isub dX6_mayHave_113 (iRm (by omega) (by omega)) ?_
        refine G_iald dX6_mayHave_114 rfl (by omega) (by omega) ?_
        refine G_if_eq 124 dX6_mayHave_115 (by decide) (fun h115 => ?_) (fun h115 => ?_)
        · refine K k (by omega) (by omega) ⟨fun e => ⟨by omega, fun j j1 j2 => hj j j1 (by omega)⟩, fun e => ?_⟩ hm
          by_cases e2 : k = v 29 0
          · exact e2
          · exact absurd h115 (e.2 k (by omega) (by omega))
        · refine G_iinc dX6_mayHave_118 rfl (iRm (by omega) (by omega)) rfl rfl ?_
          refine G_goto 76 dX6_mayHave_121 (by decide) ?_
          exact ih (n - 1) (by omega) (k + 1) (by omega) (by omega) (by omega) (by omega) hm (fun j j1 j2 => by by_cases e : j = k; rw [e]; exact h115; exact hj j j1 (by omega))
  refine G_iload_n dX6_mayHave_0 rfl ?_
  refine G_iconst (n := 2) dX6_mayHave_1 ⟨by decide, by decide⟩ ?_
  refine G_idiv dX6_mayHave_2 (by omega) (by omega) ?_
  refine G_istore_n dX6_mayHave_3 rfl rfl ?_
  refine G_aload_n dX6_mayHave_4 rfl ?_
  refine G_getR (jj := 26) dX6_mayHave_5 flX6_55 rfl rfl rfl ?_
  refine G_bipush (n := 100) dX6_mayHave_8 (by decide) ⟨by decide, by decide⟩ ?_
  refine G_iload_n dX6_mayHave_10 rfl ?_
  refine G_imul dX6_mayHave_11 (iRm (by omega) (by omega)) ?_
  refine G_aload_n dX6_mayHave_12 rfl ?_
  refine G_getI (jj := 35) dX6_mayHave_13 flX6_194 rfl rfl rfl ?_
  refine G_iadd dX6_mayHave_16 (iRm (by omega) (by omega)) ?_
  refine G_zald dX6_mayHave_17 rfl (by omega) (by omega) ?_
  refine G_if_ne 71 dX6_mayHave_18 (by decide) (fun h18 => ?_) (fun h18 => ?_)
  · refine G_iconst (n := 0) dX6_mayHave_71 ⟨by decide, by decide⟩ ?_
    exact G_zret dX6_mayHave_72 rfl (by omega) rfl rfl ⟨congrArg (fun x => some (ai x)) (bP_f (fun h => by have h := h; unfold mayP at h; omega)).symm, rfl, rfl⟩
  · refine G_aload_n dX6_mayHave_21 rfl ?_
    refine G_getR (jj := 20) dX6_mayHave_22 flX6_37 rfl rfl rfl ?_
    refine G_iload_n dX6_mayHave_25 rfl ?_
    refine G_iald dX6_mayHave_26 rfl (by omega) (by omega) ?_
    refine G_aload_n dX6_mayHave_27 rfl ?_
    refine G_getR (jj := 29) dX6_mayHave_28 flX6_65 rfl rfl rfl ?_
    refine G_iload_n dX6_mayHave_31 rfl ?_
    refine G_iald dX6_mayHave_32 rfl (by omega) (by omega) ?_
    refine G_iand (bandI (v 37 u) (v 46 (s / 2))) dX6_mayHave_33 rfl ?_
    refine G_if_ne 71 dX6_mayHave_34 (by decide) (fun h34 => ?_) (fun h34 => ?_)
    · refine G_iconst (n := 0) dX6_mayHave_71 ⟨by decide, by decide⟩ ?_
      exact G_zret dX6_mayHave_72 rfl (by omega) rfl rfl ⟨congrArg (fun x => some (ai x)) (bP_f (fun h => by have h := h; unfold mayP at h; omega)).symm, rfl, rfl⟩
    · refine G_aload_n dX6_mayHave_37 rfl ?_
      refine G_getR (jj := 19) dX6_mayHave_38 flX6_34 rfl rfl rfl ?_
      refine G_iload_n dX6_mayHave_41 rfl ?_
      refine G_iald dX6_mayHave_42 rfl (by omega) (by omega) ?_
      refine G_aload_n dX6_mayHave_43 rfl ?_
      refine G_getR (jj := 30) dX6_mayHave_44 flX6_68 rfl rfl rfl ?_
      refine G_iload_n dX6_mayHave_47 rfl ?_
      refine G_iald dX6_mayHave_48 rfl (by omega) (by omega) ?_
      refine G_iload_n dX6_mayHave_49 rfl ?_
      refine G_iconst (n := 2) dX6_mayHave_50 ⟨by decide, by decide⟩ ?_
      refine G_irem dX6_mayHave_51 (by omega) (by omega) ?_
      refine G_iadd dX6_mayHave_52 (iRm (by omega) (by omega)) ?_
      refine G_icmp_gt 71 dX6_mayHave_53 (by decide) (fun h53 => ?_) (fun h53 => ?_)
      · refine G_iconst (n := 0) dX6_mayHave_71 ⟨by decide, by decide⟩ ?_
        exact G_zret dX6_mayHave_72 rfl (by omega) rfl rfl ⟨congrArg (fun x => some (ai x)) (bP_f (fun h => by have h := h; unfold mayP at h; omega)).symm, rfl, rfl⟩
      · refine G_aload_n dX6_mayHave_56 rfl ?_
        refine G_iload_n dX6_mayHave_57 rfl ?_
        refine G_iload_n dX6_mayHave_58 rfl ?_
        refine G_cVi (ci := 6) dX6_mayHave_59 rfl (by decide) rfl (c_X6_miles l (d + 0) nu v u s (by omega) (by omega) hum.1 hum.2.1 hga.1 hga.2.1) mcX6_204 rfl rfl (by show _ ≤ d + 2; omega) rfl rfl (Nat.le_refl _) (Nat.le_refl _) ?_
        refine G_aload_n dX6_mayHave_62 rfl ?_
        refine G_getR (jj := 3) dX6_mayHave_63 flX6_13 rfl rfl rfl ?_
        refine G_iconst (n := 2) dX6_mayHave_66 ⟨by decide, by decide⟩ ?_
        refine G_iald dX6_mayHave_67 rfl (by omega) (by omega) ?_
        refine G_icmp_le 73 dX6_mayHave_68 (by decide) (fun h68 => ?_) (fun h68 => ?_)
        · refine G_iconst (n := 0) dX6_mayHave_73 ⟨by decide, by decide⟩ ?_
          refine G_istore dX6_mayHave_74 rfl rfl ?_
          exact loop1 20 0 (by omega) (by omega) (by omega) (by omega) (fun a b => ⟨by omega, h34, by omega, h68, a, b⟩) (fun j j1 j2 => by omega)
        · refine G_iconst (n := 0) dX6_mayHave_71 ⟨by decide, by decide⟩ ?_
          exact G_zret dX6_mayHave_72 rfl (by omega) rfl rfl ⟨congrArg (fun x => some (ai x)) (bP_f (fun h => by have h := h; unfold mayP at h; omega)).symm, rfl, rfl⟩
