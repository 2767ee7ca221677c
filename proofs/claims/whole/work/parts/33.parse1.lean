/-! READING A TEXT: the model's side -/
def isL (c : Int) : Prop := 97 ≤ c ∧ c ≤ 122
def isD (c : Int) : Prop := 48 ≤ c ∧ c ≤ 57
def isB (c : Int) : Prop := c = 32 ∨ c = 10
/-- a number in base 27 of the k signs from p on -/
def hrn (t : Int → Int) (p : Int) : Nat → Int
  | 0 => 0
  | k + 1 => 27 * hrn t p k + t (p + k) - 96
def hr10 (t : Int → Int) (p : Int) : Nat → Int
  | 0 => 0
  | k + 1 => 10 * hr10 t p k + t (p + k) - 48
theorem hrn_bd (t : Int → Int) (p : Int) (h : ∀ i, 0 ≤ t i ∧ t i ≤ 255) (k : Nat) (hk : k ≤ 6) : -40000000000 ≤ hrn t p k ∧ hrn t p k ≤ 100000000000 := by
  have a0 := h p
  have a1 := h (p + 1)
  have a2 := h (p + 2)
  have a3 := h (p + 3)
  have a4 := h (p + 4)
  have a5 := h (p + 5)
  match k, hk with
  | 0, _ => simp [hrn]
  | 1, _ => simp [hrn]; omega
  | 2, _ => simp [hrn]; omega
  | 3, _ => simp [hrn]; omega
  | 4, _ => simp [hrn]; omega
  | 5, _ => simp [hrn]; omega
  | 6, _ => simp [hrn]; omega
theorem hr10_bd (t : Int → Int) (p : Int) (h : ∀ i, 0 ≤ t i ∧ t i ≤ 255) (k : Nat) (hk : k ≤ 3) : -6000 ≤ hr10 t p k ∧ hr10 t p k ≤ 30000 := by
  have a0 := h p
  have a1 := h (p + 1)
  have a2 := h (p + 2)
  match k, hk with
  | 0, _ => simp [hr10]
  | 1, _ => simp [hr10]; omega
  | 2, _ => simp [hr10]; omega
  | 3, _ => simp [hr10]; omega
/-- p is where the next sign that is no blank stands, from i on -/
def SKP (t : Int → Int) (n i p : Int) : Prop := i ≤ p ∧ p ≤ n ∧ (∀ j, i ≤ j → j < p → isB (t j)) ∧ (p = n ∨ ¬ isB (t p))
/-- a TOKEN of letters and digits from p to e -/
def TKN (t : Int → Int) (n p e : Int) : Prop := p < e ∧ e ≤ n ∧ (∀ j, p ≤ j → j < e → isL (t j) ∨ isD (t j)) ∧ (e = n ∨ ¬ (isL (t e) ∨ isD (t e)))
def GOOD (t : Int → Int) (p e : Int) : Prop := ∀ j, p ≤ j → j < e → (isL (t j) ↔ isL (t p))
/-- what go() leaves: K kind, F from, T to, W word, U number -/
def GoP (t : Int → Int) (n i K F T W U : Int) : Prop := ∃ p, SKP t n i p ∧ ((160 < n ∧ 160 ≤ p ∧ K = 1 ∧ F = 160 ∧ T = p) ∨ (¬ (160 < n ∧ 160 ≤ p) ∧ ((p = n ∧ K = 0 ∧ F = p ∧ T = p) ∨ (p < n ∧ F = p ∧ ((¬ isL (t p) ∧ ¬ isD (t p) ∧ T = p + 1 ∧ ((t p = 59 ∧ K = 4) ∨ (t p ≠ 59 ∧ K = 1))) ∨ (TKN t n p T ∧ W = (if T - p ≤ 6 then hrn t p (T - p).toNat else -1) ∧ U = hr10 t p (if T - p ≤ 3 then (T - p).toNat else 3) ∧ ((¬ GOOD t p T ∧ K = 1) ∨ (GOOD t p T ∧ isL (t p) ∧ K = 2) ∨ (GOOD t p T ∧ ¬ isL (t p) ∧ T - p ≤ 3 ∧ K = 3) ∨ (GOOD t p T ∧ ¬ isL (t p) ∧ 3 < T - p ∧ K = 1))))))))
/-- only the reader's own numbers have changed -/
def GoK (v v2 : VV) : Prop := (∀ k, k ≠ 27 → v2 k = v k) ∧ ∀ j, j ≠ 9 → j ≠ 10 → j ≠ 11 → j ≠ 12 → j ≠ 16 → v2 27 j = v 27 j
theorem GoK.rf {v : VV} : GoK v v := ⟨fun _ _ => rfl, fun _ _ _ _ _ _ => rfl⟩
theorem GoK.up {v w : VV} (h : GoK v w) {j x : Int} (hj : j = 9 ∨ j = 10 ∨ j = 11 ∨ j = 12 ∨ j = 16) : GoK v (up w 27 j x) := ⟨fun k hk => by rw [up_ne hk]; exact h.1 k hk, fun i i1 i2 i3 i4 i5 => by rw [up_nj (by omega)]; exact h.2 i i1 i2 i3 i4 i5⟩
theorem hrn_s (t : Int → Int) (p q : Int) (k : Nat) (h : (k : Int) = q - p) : hrn t p (k + 1) = 27 * hrn t p k + t q - 96 := by rw [hrn, show p + (k : Int) = q by omega]
theorem hr10_s (t : Int → Int) (p q : Int) (k : Nat) (h : (k : Int) = q - p) : hr10 t p (k + 1) = 10 * hr10 t p k + t q - 48 := by rw [hr10, show p + (k : Int) = q by omega]
set_option maxRecDepth 20000 in
set_option maxHeartbeats 1000000 in
theorem c_X6_byteAt (l : Launch) (d nu : Nat) (v : VV) (i : Int) (hs : v 27 8 ≤ 180) (h0 : 0 ≤ i) : Ct l yX6_byteAt cX6_byteAt (some .int) 2 (d + 0) 0 0 [ar (some 27), ai i] (SG nu) v (rI (SG nu) (if i < v 27 8 then v 28 i else 0) v) := by
  refine Ct_of_G [some (ar (some 27)), some (ai i)] (by decide) rfl rfl ?_
  refine G_iload_n dX6_byteAt_0 rfl ?_
  refine G_aload_n dX6_byteAt_1 rfl ?_
  refine G_getI (jj := 8) dX6_byteAt_2 flX6_112 rfl rfl rfl ?_
  refine G_icmp_ge 17 dX6_byteAt_5 (by decide) (fun h5 => ?_) (fun h5 => ?_)
  · refine G_iconst (n := 0) dX6_byteAt_17 ⟨by decide, by decide⟩ ?_
    exact G_iret dX6_byteAt_18 rfl rfl rfl ⟨by first | (rw [if_pos (by omega)]) | (rw [if_neg (by omega)]), rfl, rfl⟩
  · refine G_aload_n dX6_byteAt_8 rfl ?_
    refine G_getR (jj := 1) dX6_byteAt_9 flX6_7 rfl rfl rfl ?_
    refine G_iload_n dX6_byteAt_12 rfl ?_
    refine G_iald dX6_byteAt_13 rfl (by omega) (by omega) ?_
    refine G_goto 18 dX6_byteAt_14 (by decide) ?_
    exact G_iret dX6_byteAt_18 rfl rfl rfl ⟨by first | (rw [if_pos (by omega)]) | (rw [if_neg (by omega)]), rfl, rfl⟩
section GL
variable {l : Launch} {μ : MU} {Φ : Option AV → AS → VV → Prop} {c0 s0 : Nat} {S : AS} {pc : Nat} {ls : LL} {st : List AV} {v : VV}
theorem G_lstore {i : Nat} {x : Int} (hd : decode μ.2.1 pc = .ok (.lstore i, 2)) (hn : Nat.blt (i + 1) μ.2.2.2.1 = true) (hg : lg1 ls i = true) (k : G l μ Φ c0 s0 S (pc + 2) ((ls.set (i + 1) none).set i (some (al x))) st v) : G l μ Φ c0 s0 S pc ls (al x :: st) v := by
  intro p en s m args below meth c H locs D T ea A ad ad0 n0 lsC hC hS
  refine lv_lstore hC.1 hC.2.1 hd (lpair_has hS.lr) (by simpa using hn) rfl (fun lsD hl => k p en s m args below meth c _ _ D T ea A _ ad0 n0 _ hC ((hS.stk fun h => (RAs_cons.mp h).2).loc (fun j b hj => ?_) ⟨hl.1, hl.2.1, fun j b hj => ?_⟩))
  · rw [List.getElem?_set] at hj
    split at hj
    · split at hj
      · cases hj; exact hS.top
      · cases hj
    · rw [List.getElem?_set] at hj
      split at hj
      · split at hj <;> cases hj
      · exact hS.2.2.2.2.1 j b hj
  · rw [List.getElem?_set] at hj
    split at hj
    · rename_i hij
      subst hij
      split at hj
      · cases hj; exact hl.2.2 _ List.mem_cons_self
      · cases hj
    · rename_i hij
      rw [List.getElem?_set] at hj
      split at hj
      · split at hj <;> cases hj
      · rename_i hij2
        refine hl.2.2 (j, tr ad ea b) (List.mem_cons_of_mem _ (List.mem_filter.mpr ⟨lpair_mem hj, ?_⟩))
        simp only [Bool.and_eq_true, Bool.not_eq_true', Bool.and_eq_false_iff, beq_eq_false_iff_ne, ne_eq]
        refine ⟨fun h => hij h.symm, fun h => hij2 h.symm, ?_⟩
        by_cases h1 : j + 1 = i
        · right
          intro hc
          obtain ⟨y, rfl⟩ := lpair_cat (a := b) (ad := ad) (ea := ea) (by simpa using hc)
          subst h1
          simp [lg1, hj] at hg
        · exact Or.inl h1
end GL
def speltS (a b c e : Int) : Int := if 0 < e then 27 * (if 0 < c then 27 * (27 * (a - 96) + b - 96) + c - 96 else 27 * (a - 96) + b - 96) + e - 96 else if 0 < c then 27 * (27 * (a - 96) + b - 96) + c - 96 else 27 * (a - 96) + b - 96
def rL (S : AS) (x : Int) (v : VV) : Option AV → AS → VV → Prop := fun r S2 v2 => r = some (al x) ∧ S2 = S ∧ v2 = v
set_option maxRecDepth 20000 in
set_option maxHeartbeats 1000000 in
theorem c_X6_spelt (l : Launch) (d nu : Nat) (v : VV) (a b c e : Int) (ha : 0 ≤ a ∧ a ≤ 127) (hb : 0 ≤ b ∧ b ≤ 127) (hc : 0 ≤ c ∧ c ≤ 127) (he : 0 ≤ e ∧ e ≤ 127) : Ct l yX6_spelt cX6_spelt (some .long) 6 (d + 0) 0 0 [ai a, ai b, ai c, ai e] (SG nu) v (rL (SG nu) (speltS a b c e) v) := by
  refine Ct_of_G [some (ai a), some (ai b), some (ai c), some (ai e), none, none] (by decide) rfl rfl ?_
  refine G_ldc2 (n := 27) dX6_spelt_0 (show Cond.constantLong RX6 142 (Int64.ofInt 27) ∈ lw_good by decide +kernel) ⟨by decide, by decide⟩ ?_
  refine G_iload_n dX6_spelt_3 rfl ?_
  refine G_i2l dX6_spelt_4 ?_
  refine G_ldc2 (n := 96) dX6_spelt_5 (show Cond.constantLong RX6 144 (Int64.ofInt 96) ∈ lw_good by decide +kernel) ⟨by decide, by decide⟩ ?_
  refine G_lsub dX6_spelt_8 ⟨by omega, by omega⟩ ?_
  refine G_lmul dX6_spelt_9 ⟨by omega, by omega⟩ ?_
  refine G_iload_n dX6_spelt_10 rfl ?_
  refine G_i2l dX6_spelt_11 ?_
  refine G_ladd dX6_spelt_12 ⟨by omega, by omega⟩ ?_
  refine G_ldc2 (n := 96) dX6_spelt_13 (show Cond.constantLong RX6 144 (Int64.ofInt 96) ∈ lw_good by decide +kernel) ⟨by decide, by decide⟩ ?_
  refine G_lsub dX6_spelt_16 ⟨by omega, by omega⟩ ?_
  refine G_lstore dX6_spelt_17 rfl rfl ?_
  refine G_iload_n dX6_spelt_19 rfl ?_
  refine G_if_le 38 dX6_spelt_20 (by decide) (fun h20 => ?_) (fun h20 => ?_)
  · refine G_iload_n dX6_spelt_38 rfl ?_
    refine G_if_le 58 dX6_spelt_39 (by decide) (fun h39 => ?_) (fun h39 => ?_)
    · refine G_lload dX6_spelt_58 rfl ?_
      exact G_lret dX6_spelt_60 rfl rfl rfl ⟨by unfold speltS; first | (rw [if_pos (by omega), if_pos (by omega)]) | (rw [if_pos (by omega), if_neg (by omega)]) | (rw [if_neg (by omega), if_pos (by omega)]) | (rw [if_neg (by omega), if_neg (by omega)]), rfl, rfl⟩
    · refine G_ldc2 (n := 27) dX6_spelt_42 (show Cond.constantLong RX6 142 (Int64.ofInt 27) ∈ lw_good by decide +kernel) ⟨by decide, by decide⟩ ?_
      refine G_lload dX6_spelt_45 rfl ?_
      refine G_lmul dX6_spelt_47 ⟨by omega, by omega⟩ ?_
      refine G_iload_n dX6_spelt_48 rfl ?_
      refine G_i2l dX6_spelt_49 ?_
      refine G_ladd dX6_spelt_50 ⟨by omega, by omega⟩ ?_
      refine G_ldc2 (n := 96) dX6_spelt_51 (show Cond.constantLong RX6 144 (Int64.ofInt 96) ∈ lw_good by decide +kernel) ⟨by decide, by decide⟩ ?_
      refine G_lsub dX6_spelt_54 ⟨by omega, by omega⟩ ?_
      refine G_goto 60 dX6_spelt_55 (by decide) ?_
      exact G_lret dX6_spelt_60 rfl rfl rfl ⟨by unfold speltS; first | (rw [if_pos (by omega), if_pos (by omega)]) | (rw [if_pos (by omega), if_neg (by omega)]) | (rw [if_neg (by omega), if_pos (by omega)]) | (rw [if_neg (by omega), if_neg (by omega)]), rfl, rfl⟩
  · refine G_ldc2 (n := 27) dX6_spelt_23 (show Cond.constantLong RX6 142 (Int64.ofInt 27) ∈ lw_good by decide +kernel) ⟨by decide, by decide⟩ ?_
    refine G_lload dX6_spelt_26 rfl ?_
    refine G_lmul dX6_spelt_28 ⟨by omega, by omega⟩ ?_
    refine G_iload_n dX6_spelt_29 rfl ?_
    refine G_i2l dX6_spelt_30 ?_
    refine G_ladd dX6_spelt_31 ⟨by omega, by omega⟩ ?_
    refine G_ldc2 (n := 96) dX6_spelt_32 (show Cond.constantLong RX6 144 (Int64.ofInt 96) ∈ lw_good by decide +kernel) ⟨by decide, by decide⟩ ?_
    refine G_lsub dX6_spelt_35 ⟨by omega, by omega⟩ ?_
    refine G_lstore dX6_spelt_36 rfl rfl ?_
    refine G_iload_n dX6_spelt_38 rfl ?_
    refine G_if_le 58 dX6_spelt_39 (by decide) (fun h39 => ?_) (fun h39 => ?_)
    · refine G_lload dX6_spelt_58 rfl ?_
      exact G_lret dX6_spelt_60 rfl rfl rfl ⟨by unfold speltS; first | (rw [if_pos (by omega), if_pos (by omega)]) | (rw [if_pos (by omega), if_neg (by omega)]) | (rw [if_neg (by omega), if_pos (by omega)]) | (rw [if_neg (by omega), if_neg (by omega)]), rfl, rfl⟩
    · refine G_ldc2 (n := 27) dX6_spelt_42 (show Cond.constantLong RX6 142 (Int64.ofInt 27) ∈ lw_good by decide +kernel) ⟨by decide, by decide⟩ ?_
      refine G_lload dX6_spelt_45 rfl ?_
      refine G_lmul dX6_spelt_47 ⟨by omega, by omega⟩ ?_
      refine G_iload_n dX6_spelt_48 rfl ?_
      refine G_i2l dX6_spelt_49 ?_
      refine G_ladd dX6_spelt_50 ⟨by omega, by omega⟩ ?_
      refine G_ldc2 (n := 96) dX6_spelt_51 (show Cond.constantLong RX6 144 (Int64.ofInt 96) ∈ lw_good by decide +kernel) ⟨by decide, by decide⟩ ?_
      refine G_lsub dX6_spelt_54 ⟨by omega, by omega⟩ ?_
      refine G_goto 60 dX6_spelt_55 (by decide) ?_
      exact G_lret dX6_spelt_60 rfl rfl rfl ⟨by unfold speltS; first | (rw [if_pos (by omega), if_pos (by omega)]) | (rw [if_pos (by omega), if_neg (by omega)]) | (rw [if_neg (by omega), if_pos (by omega)]) | (rw [if_neg (by omega), if_neg (by omega)]), rfl, rfl⟩
set_option maxRecDepth 20000 in
set_option maxHeartbeats 1000000 in
theorem c_X6_isKey (l : Launch) (d nu : Nat) (v : VV) (x : Int) : Ct l yX6_isKey cX6_isKey (some .boolean) 3 (d + 0) 0 0 [ar (some 27), al x] (SG nu) v (rI (SG nu) (if v 27 11 = 2 ∧ v 27 16 = x then 1 else 0) v) := by
  refine Ct_of_G [some (ar (some 27)), some (al x), none] (by decide) rfl rfl ?_
  refine G_aload_n dX6_isKey_0 rfl ?_
  refine G_getI (jj := 11) dX6_isKey_1 flX6_121 rfl rfl rfl ?_
  refine G_iconst (n := 2) dX6_isKey_4 ⟨by decide, by decide⟩ ?_
  refine G_icmp_ne 21 dX6_isKey_5 (by decide) (fun h5 => ?_) (fun h5 => ?_)
  · refine G_iconst (n := 0) dX6_isKey_21 ⟨by decide, by decide⟩ ?_
    exact G_zret dX6_isKey_22 rfl (by omega) rfl rfl ⟨by first | (rw [if_pos (by omega)]) | (rw [if_neg (by omega)]), rfl, rfl⟩
  · refine G_aload_n dX6_isKey_8 rfl ?_
    refine G_getL (jj := 16) dX6_isKey_9 flX6_131 rfl rfl rfl ?_
    refine G_lload_n dX6_isKey_12 rfl ?_
    refine G_lcmp dX6_isKey_13 ?_
    refine G_if_ne 21 dX6_isKey_14 (by decide) (fun h14 => ?_) (fun h14 => ?_)
    · refine G_iconst (n := 0) dX6_isKey_21 ⟨by decide, by decide⟩ ?_
      exact G_zret dX6_isKey_22 rfl (by omega) rfl rfl ⟨by first | (rw [if_pos (by omega)]) | (rw [if_neg (by omega)]), rfl, rfl⟩
    · refine G_iconst (n := 1) dX6_isKey_17 ⟨by decide, by decide⟩ ?_
      refine G_goto 22 dX6_isKey_18 (by decide) ?_
      exact G_zret dX6_isKey_22 rfl (by omega) rfl rfl ⟨by first | (rw [if_pos (by omega)]) | (rw [if_neg (by omega)]), rfl, rfl⟩
