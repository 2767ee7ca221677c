def fst (p : Int → Bool) : Nat → Int → Int
  | 0, _ => -1
  | n + 1, i => if p i then i else fst p n (i + 1)
theorem fst_no {p : Int → Bool} {n : Nat} {i : Int} (h : p i = false) : fst p (n + 1) i = fst p n (i + 1) := by simp [fst, h]
theorem fst_yes {p : Int → Bool} {n : Nat} {i : Int} (h : p i = true) : fst p (n + 1) i = i := by simp [fst, h]
def seatOfS (v : VV) (u : Int) : Int := fst (fun s => decide (v 48 s = u)) (2 * v 27 34).toNat 0
def lessS (a b : Int) : Int := if b < a then a - b else b - a
def milesS (v : VV) (u s : Int) : Int := lessS (v 34 u) (v 44 (s / 2)) + lessS (v 35 u) (v 45 (s / 2))
def costS (v : VV) (u s : Int) : Int := milesS v u s + v 29 3 * v 41 u
def filledS (v : VV) : Int := sumF (fun s => if v 48 s = -1 then 0 else 1) (2 * v 27 34).toNat 0
theorem up_id (v : VV) (k : Nat) (j : Int) : up v k j (v k j) = v := by
  funext a b
  unfold up
  split
  · rename_i h; rw [h.1, h.2]
  · rfl
set_option maxRecDepth 20000 in
set_option maxHeartbeats 1000000 in
theorem c_X6_thrown (l : Launch) (d nu : Nat) (v : VV)  : Ct l yX6_thrown cX6_thrown (some .int) 1 (d + 0) 0 0 [ar (some 27)] (SG nu) v (rI (SG nu) (v 27 0) v) := by
  refine Ct_of_G [some (ar (some 27))] (by decide) rfl rfl ?_
  refine G_aload_n dX6_thrown_0 rfl ?_
  refine G_getI (jj := 0) dX6_thrown_1 flX6_101 rfl rfl rfl ?_
  exact G_iret dX6_thrown_4 rfl rfl rfl ⟨rfl, rfl, rfl⟩
set_option maxRecDepth 20000 in
set_option maxHeartbeats 1000000 in
theorem c_X6_refuse (l : Launch) (d nu : Nat) (v : VV)  : Ct l yX6_refuse cX6_refuse (some .int) 1 (d + 0) 0 0 [ar (some 27)] (SG nu) v (rI (SG nu) (0) (up v 27 0 1)) := by
  refine Ct_of_G [some (ar (some 27))] (by decide) rfl rfl ?_
  refine G_aload_n dX6_refuse_0 rfl ?_
  refine G_iconst (n := 1) dX6_refuse_1 ⟨by decide, by decide⟩ ?_
  refine G_putI (jj := 0) dX6_refuse_2 flX6_101 rfl rfl rfl rfl ?_
  refine G_iconst (n := 0) dX6_refuse_5 ⟨by decide, by decide⟩ ?_
  exact G_iret dX6_refuse_6 rfl rfl rfl ⟨rfl, rfl, rfl⟩
set_option maxRecDepth 20000 in
set_option maxHeartbeats 1000000 in
theorem c_X6_isDigit (l : Launch) (d nu : Nat) (v : VV) (c : Int) : Ct l yX6_isDigit cX6_isDigit (some .boolean) 1 (d + 0) 0 0 [ai c] (SG nu) v (rI (SG nu) (if 48 ≤ c ∧ c ≤ 57 then 1 else 0) v) := by
  refine Ct_of_G [some (ai c)] (by decide) rfl rfl ?_
  refine G_iload_n dX6_isDigit_0 rfl ?_
  refine G_bipush (n := 48) dX6_isDigit_1 (by decide) ⟨by decide, by decide⟩ ?_
  refine G_icmp_lt 16 dX6_isDigit_3 (by decide) (fun h3 => ?_) (fun h3 => ?_)
  · refine G_iconst (n := 0) dX6_isDigit_16 ⟨by decide, by decide⟩ ?_
    exact G_zret dX6_isDigit_17 rfl (by omega) rfl rfl ⟨by first | (rw [if_pos (by omega)]) | (rw [if_neg (by omega)]), rfl, rfl⟩
  · refine G_iload_n dX6_isDigit_6 rfl ?_
    refine G_bipush (n := 57) dX6_isDigit_7 (by decide) ⟨by decide, by decide⟩ ?_
    refine G_icmp_gt 16 dX6_isDigit_9 (by decide) (fun h9 => ?_) (fun h9 => ?_)
    · refine G_iconst (n := 0) dX6_isDigit_16 ⟨by decide, by decide⟩ ?_
      exact G_zret dX6_isDigit_17 rfl (by omega) rfl rfl ⟨by first | (rw [if_pos (by omega)]) | (rw [if_neg (by omega)]), rfl, rfl⟩
    · refine G_iconst (n := 1) dX6_isDigit_12 ⟨by decide, by decide⟩ ?_
      refine G_goto 17 dX6_isDigit_13 (by decide) ?_
      exact G_zret dX6_isDigit_17 rfl (by omega) rfl rfl ⟨by first | (rw [if_pos (by omega)]) | (rw [if_neg (by omega)]), rfl, rfl⟩
set_option maxRecDepth 20000 in
set_option maxHeartbeats 1000000 in
theorem c_X6_isLetter (l : Launch) (d nu : Nat) (v : VV) (c : Int) : Ct l yX6_isLetter cX6_isLetter (some .boolean) 1 (d + 0) 0 0 [ai c] (SG nu) v (rI (SG nu) (if 97 ≤ c ∧ c ≤ 122 then 1 else 0) v) := by
  refine Ct_of_G [some (ai c)] (by decide) rfl rfl ?_
  refine G_iload_n dX6_isLetter_0 rfl ?_
  refine G_bipush (n := 97) dX6_isLetter_1 (by decide) ⟨by decide, by decide⟩ ?_
  refine G_icmp_lt 16 dX6_isLetter_3 (by decide) (fun h3 => ?_) (fun h3 => ?_)
  · refine G_iconst (n := 0) dX6_isLetter_16 ⟨by decide, by decide⟩ ?_
    exact G_zret dX6_isLetter_17 rfl (by omega) rfl rfl ⟨by first | (rw [if_pos (by omega)]) | (rw [if_neg (by omega)]), rfl, rfl⟩
  · refine G_iload_n dX6_isLetter_6 rfl ?_
    refine G_bipush (n := 122) dX6_isLetter_7 (by decide) ⟨by decide, by decide⟩ ?_
    refine G_icmp_gt 16 dX6_isLetter_9 (by decide) (fun h9 => ?_) (fun h9 => ?_)
    · refine G_iconst (n := 0) dX6_isLetter_16 ⟨by decide, by decide⟩ ?_
      exact G_zret dX6_isLetter_17 rfl (by omega) rfl rfl ⟨by first | (rw [if_pos (by omega)]) | (rw [if_neg (by omega)]), rfl, rfl⟩
    · refine G_iconst (n := 1) dX6_isLetter_12 ⟨by decide, by decide⟩ ?_
      refine G_goto 17 dX6_isLetter_13 (by decide) ?_
      exact G_zret dX6_isLetter_17 rfl (by omega) rfl rfl ⟨by first | (rw [if_pos (by omega)]) | (rw [if_neg (by omega)]), rfl, rfl⟩
set_option maxRecDepth 20000 in
set_option maxHeartbeats 1000000 in
theorem c_X6_isIn (l : Launch) (d nu : Nat) (v : VV) (x a b : Int) : Ct l yX6_isIn cX6_isIn (some .boolean) 3 (d + 0) 0 0 [ai x, ai a, ai b] (SG nu) v (rI (SG nu) (if a ≤ x ∧ x ≤ b then 1 else 0) v) := by
  refine Ct_of_G [some (ai x), some (ai a), some (ai b)] (by decide) rfl rfl ?_
  refine G_iload_n dX6_isIn_0 rfl ?_
  refine G_iload_n dX6_isIn_1 rfl ?_
  refine G_icmp_lt 14 dX6_isIn_2 (by decide) (fun h2 => ?_) (fun h2 => ?_)
  · refine G_iconst (n := 0) dX6_isIn_14 ⟨by decide, by decide⟩ ?_
    exact G_zret dX6_isIn_15 rfl (by omega) rfl rfl ⟨by first | (rw [if_pos (by omega)]) | (rw [if_neg (by omega)]), rfl, rfl⟩
  · refine G_iload_n dX6_isIn_5 rfl ?_
    refine G_iload_n dX6_isIn_6 rfl ?_
    refine G_icmp_gt 14 dX6_isIn_7 (by decide) (fun h7 => ?_) (fun h7 => ?_)
    · refine G_iconst (n := 0) dX6_isIn_14 ⟨by decide, by decide⟩ ?_
      exact G_zret dX6_isIn_15 rfl (by omega) rfl rfl ⟨by first | (rw [if_pos (by omega)]) | (rw [if_neg (by omega)]), rfl, rfl⟩
    · refine G_iconst (n := 1) dX6_isIn_10 ⟨by decide, by decide⟩ ?_
      refine G_goto 15 dX6_isIn_11 (by decide) ?_
      exact G_zret dX6_isIn_15 rfl (by omega) rfl rfl ⟨by first | (rw [if_pos (by omega)]) | (rw [if_neg (by omega)]), rfl, rfl⟩
set_option maxRecDepth 20000 in
set_option maxHeartbeats 1000000 in
theorem c_X6_isUmpire (l : Launch) (d nu : Nat) (v : VV) (u : Int) : Ct l yX6_isUmpire cX6_isUmpire (some .boolean) 2 (d + 0) 0 0 [ar (some 27), ai u] (SG nu) v (rI (SG nu) (if 0 ≤ u ∧ u < v 27 33 then 1 else 0) v) := by
  refine Ct_of_G [some (ar (some 27)), some (ai u)] (by decide) rfl rfl ?_
  refine G_iload_n dX6_isUmpire_0 rfl ?_
  refine G_if_lt 16 dX6_isUmpire_1 (by decide) (fun h1 => ?_) (fun h1 => ?_)
  · refine G_iconst (n := 0) dX6_isUmpire_16 ⟨by decide, by decide⟩ ?_
    exact G_zret dX6_isUmpire_17 rfl (by omega) rfl rfl ⟨by first | (rw [if_pos (by omega)]) | (rw [if_neg (by omega)]), rfl, rfl⟩
  · refine G_iload_n dX6_isUmpire_4 rfl ?_
    refine G_aload_n dX6_isUmpire_5 rfl ?_
    refine G_getI (jj := 33) dX6_isUmpire_6 flX6_181 rfl rfl rfl ?_
    refine G_icmp_ge 16 dX6_isUmpire_9 (by decide) (fun h9 => ?_) (fun h9 => ?_)
    · refine G_iconst (n := 0) dX6_isUmpire_16 ⟨by decide, by decide⟩ ?_
      exact G_zret dX6_isUmpire_17 rfl (by omega) rfl rfl ⟨by first | (rw [if_pos (by omega)]) | (rw [if_neg (by omega)]), rfl, rfl⟩
    · refine G_iconst (n := 1) dX6_isUmpire_12 ⟨by decide, by decide⟩ ?_
      refine G_goto 17 dX6_isUmpire_13 (by decide) ?_
      exact G_zret dX6_isUmpire_17 rfl (by omega) rfl rfl ⟨by first | (rw [if_pos (by omega)]) | (rw [if_neg (by omega)]), rfl, rfl⟩
set_option maxRecDepth 20000 in
set_option maxHeartbeats 1000000 in
theorem c_X6_isSeat (l : Launch) (d nu : Nat) (v : VV) (u : Int) (hg : 0 ≤ v 27 34 ∧ v 27 34 ≤ 8) : Ct l yX6_isSeat cX6_isSeat (some .boolean) 2 (d + 0) 0 0 [ar (some 27), ai u] (SG nu) v (rI (SG nu) (if 0 ≤ u ∧ u < 2 * v 27 34 then 1 else 0) v) := by
  refine Ct_of_G [some (ar (some 27)), some (ai u)] (by decide) rfl rfl ?_
  refine G_iload_n dX6_isSeat_0 rfl ?_
  refine G_if_lt 18 dX6_isSeat_1 (by decide) (fun h1 => ?_) (fun h1 => ?_)
  · refine G_iconst (n := 0) dX6_isSeat_18 ⟨by decide, by decide⟩ ?_
    exact G_zret dX6_isSeat_19 rfl (by omega) rfl rfl ⟨by first | (rw [if_pos (by omega)]) | (rw [if_neg (by omega)]), rfl, rfl⟩
  · refine G_iload_n dX6_isSeat_4 rfl ?_
    refine G_iconst (n := 2) dX6_isSeat_5 ⟨by decide, by decide⟩ ?_
    refine G_aload_n dX6_isSeat_6 rfl ?_
    refine G_getI (jj := 34) dX6_isSeat_7 flX6_184 rfl rfl rfl ?_
    refine G_imul dX6_isSeat_10 (iRm (by omega) (by omega)) ?_
    refine G_icmp_ge 18 dX6_isSeat_11 (by decide) (fun h11 => ?_) (fun h11 => ?_)
    · refine G_iconst (n := 0) dX6_isSeat_18 ⟨by decide, by decide⟩ ?_
      exact G_zret dX6_isSeat_19 rfl (by omega) rfl rfl ⟨by first | (rw [if_pos (by omega)]) | (rw [if_neg (by omega)]), rfl, rfl⟩
    · refine G_iconst (n := 1) dX6_isSeat_14 ⟨by decide, by decide⟩ ?_
      refine G_goto 19 dX6_isSeat_15 (by decide) ?_
      exact G_zret dX6_isSeat_19 rfl (by omega) rfl rfl ⟨by first | (rw [if_pos (by omega)]) | (rw [if_neg (by omega)]), rfl, rfl⟩
set_option maxRecDepth 20000 in
set_option maxHeartbeats 1000000 in
theorem c_X6_less (l : Launch) (d nu : Nat) (v : VV) (a b : Int) (ha : 0 ≤ a ∧ a ≤ 99) (hb : 0 ≤ b ∧ b ≤ 99) : Ct l yX6_less cX6_less (some .int) 2 (d + 0) 0 0 [ai a, ai b] (SG nu) v (rI (SG nu) (lessS a b) v) := by
  refine Ct_of_G [some (ai a), some (ai b)] (by decide) rfl rfl ?_
  refine G_iload_n dX6_less_0 rfl ?_
  refine G_iload_n dX6_less_1 rfl ?_
  refine G_icmp_le 11 dX6_less_2 (by decide) (fun h2 => ?_) (fun h2 => ?_)
  · refine G_iload_n dX6_less_11 rfl ?_
    refine G_iload_n dX6_less_12 rfl ?_
    refine G_isub dX6_less_13 (iRm (by omega) (by omega)) ?_
    exact G_iret dX6_less_14 rfl rfl rfl ⟨by unfold lessS; first | (rw [if_pos (by omega)]) | (rw [if_neg (by omega)]), rfl, rfl⟩
  · refine G_iload_n dX6_less_5 rfl ?_
    refine G_iload_n dX6_less_6 rfl ?_
    refine G_isub dX6_less_7 (iRm (by omega) (by omega)) ?_
    refine G_goto 14 dX6_less_8 (by decide) ?_
    exact G_iret dX6_less_14 rfl rfl rfl ⟨by unfold lessS; first | (rw [if_pos (by omega)]) | (rw [if_neg (by omega)]), rfl, rfl⟩
set_option maxRecDepth 20000 in
set_option maxHeartbeats 1000000 in
theorem c_X6_miles (l : Launch) (d nu : Nat) (v : VV) (u s : Int) (hu : 0 ≤ u ∧ u < 20) (hs : 0 ≤ s ∧ s < 16) (h1 : 0 ≤ v 34 u ∧ v 34 u ≤ 99) (h2 : 0 ≤ v 35 u ∧ v 35 u ≤ 99) (h3 : 0 ≤ v 44 (s / 2) ∧ v 44 (s / 2) ≤ 99) (h4 : 0 ≤ v 45 (s / 2) ∧ v 45 (s / 2) ≤ 99) : Ct l yX6_miles cX6_miles (some .int) 3 (d + 1) 0 0 [ar (some 27), ai u, ai s] (SG nu) v (rI (SG nu) (milesS v u s) v) := by
  refine Ct_of_G [some (ar (some 27)), some (ai u), some (ai s)] (by decide) rfl rfl ?_
  refine G_aload_n dX6_miles_0 rfl ?_
  refine G_getR (jj := 17) dX6_miles_1 flX6_28 rfl rfl rfl ?_
  refine G_iload_n dX6_miles_4 rfl ?_
  refine G_iald dX6_miles_5 rfl (by omega) (by omega) ?_
  refine G_aload_n dX6_miles_6 rfl ?_
  refine G_getR (jj := 27) dX6_miles_7 flX6_59 rfl rfl rfl ?_
  refine G_iload_n dX6_miles_10 rfl ?_
  refine G_iconst (n := 2) dX6_miles_11 ⟨by decide, by decide⟩ ?_
  refine G_idiv dX6_miles_12 (by omega) (by omega) ?_
  refine G_iald dX6_miles_13 rfl (by omega) (by omega) ?_
  refine G_cSi dX6_miles_14 (c_X6_less l (d + 0) nu v (v 34 u) (v 44 (s / 2)) h1 h3) mcX6_200 rfl rfl (by show _ ≤ d + 1; omega) rfl rfl (Nat.le_refl _) (Nat.le_refl _) ?_
  refine G_aload_n dX6_miles_17 rfl ?_
  refine G_getR (jj := 18) dX6_miles_18 flX6_31 rfl rfl rfl ?_
  refine G_iload_n dX6_miles_21 rfl ?_
  refine G_iald dX6_miles_22 rfl (by omega) (by omega) ?_
  refine G_aload_n dX6_miles_23 rfl ?_
  refine G_getR (jj := 28) dX6_miles_24 flX6_62 rfl rfl rfl ?_
  refine G_iload_n dX6_miles_27 rfl ?_
  refine G_iconst (n := 2) dX6_miles_28 ⟨by decide, by decide⟩ ?_
  refine G_idiv dX6_miles_29 (by omega) (by omega) ?_
  refine G_iald dX6_miles_30 rfl (by omega) (by omega) ?_
  refine G_cSi dX6_miles_31 (c_X6_less l (d + 0) nu v (v 35 u) (v 45 (s / 2)) h2 h4) mcX6_200 rfl rfl (by show _ ≤ d + 1; omega) rfl rfl (Nat.le_refl _) (Nat.le_refl _) ?_
  refine G_iadd dX6_miles_34 (iRm (by unfold lessS; split <;> split <;> omega) (by unfold lessS; split <;> split <;> omega)) ?_
  exact G_iret dX6_miles_35 rfl rfl rfl ⟨rfl, rfl, rfl⟩
set_option maxRecDepth 20000 in
set_option maxHeartbeats 1000000 in
theorem c_X6_seatOf (l : Launch) (d nu : Nat) (v : VV) (u : Int) (hg : 0 ≤ v 27 34 ∧ v 27 34 ≤ 8) : Ct l yX6_seatOf cX6_seatOf (some .int) 3 (d + 0) 0 0 [ar (some 27), ai u] (SG nu) v (rI (SG nu) (seatOfS v u) v) := by
  refine Ct_of_G [some (ar (some 27)), some (ai u), none] (by decide) rfl rfl ?_
  have loop : ∀ (n : Nat) (s : Int), 0 ≤ s → s + n = 2 * v 27 34 → G l (yX6_seatOf, cX6_seatOf, (some .int), 3, (d + 0), 0, 0, none) (rI (SG nu) (fst (fun s => decide (v 48 s = u)) n s) v) 0 0 (SG nu) 2 [some (ar (some 27)), some (ai u), some (ai s)] [] v := by
    intro n
    induction n using Nat.strongRecOn with
    | ind n ih =>
    intro s h0 h1
    refine G_iload_n dX6_seatOf_2 rfl ?_
    refine G_iconst (n := 2) dX6_seatOf_3 ⟨by decide, by decide⟩ ?_
    refine G_aload_n dX6_seatOf_4 rfl ?_
    refine G_getI (jj := 34) dX6_seatOf_5 flX6_184 rfl rfl rfl ?_
    refine G_imul dX6_seatOf_8 (iRm (by omega) (by omega)) ?_
    refine G_icmp_ge 30 dX6_seatOf_9 (by decide) (fun h9 => ?_) (fun h9 => ?_)
    · obtain rfl : n = 0 := by omega
      refine G_iconst (n := (-1)) dX6_seatOf_30 ⟨by decide, by decide⟩ ?_
      exact G_iret dX6_seatOf_31 rfl rfl rfl ⟨rfl, rfl, rfl⟩
    · obtain ⟨n, rfl⟩ : ∃ k, n = k + 1 := ⟨n - 1, by omega⟩
      refine G_aload_n dX6_seatOf_12 rfl ?_
      refine G_getR (jj := 31) dX6_seatOf_13 flX6_71 rfl rfl rfl ?_
      refine G_iload_n dX6_seatOf_16 rfl ?_
      refine G_iald dX6_seatOf_17 rfl (by omega) (by omega) ?_
      refine G_iload_n dX6_seatOf_18 rfl ?_
      refine G_icmp_ne 24 dX6_seatOf_19 (by decide) (fun h19 => ?_) (fun h19 => ?_)
      · rw [fst_no (by simpa using h19)]
        refine G_iinc dX6_seatOf_24 rfl (iRm (by omega) (by omega)) rfl rfl ?_
        refine G_goto 2 dX6_seatOf_27 (by decide) ?_
        exact ih n (by omega) (s + 1) (by omega) (by omega)
      · rw [fst_yes (by simpa using h19)]
        refine G_iload_n dX6_seatOf_22 rfl ?_
        exact G_iret dX6_seatOf_23 rfl rfl rfl ⟨rfl, rfl, rfl⟩
  refine G_iconst (n := 0) dX6_seatOf_0 ⟨by decide, by decide⟩ ?_
  refine G_istore_n dX6_seatOf_1 rfl rfl ?_
  exact loop _ 0 (by omega) (by omega)
set_option maxRecDepth 20000 in
set_option maxHeartbeats 1000000 in
theorem c_X6_filled (l : Launch) (d nu : Nat) (v : VV) (hg : 0 ≤ v 27 34 ∧ v 27 34 ≤ 8) : Ct l yX6_filled cX6_filled (some .int) 3 (d + 0) 0 0 [ar (some 27)] (SG nu) v (rI (SG nu) (filledS v) v) := by
  refine Ct_of_G [some (ar (some 27)), none, none] (by decide) rfl rfl ?_
  have loop : ∀ (n : Nat) (a s : Int), 0 ≤ s → s + n = 2 * v 27 34 → 0 ≤ a → a ≤ s → G l (yX6_filled, cX6_filled, (some .int), 3, (d + 0), 0, 0, none) (rI (SG nu) (a + sumF (fun s => if v 48 s = -1 then 0 else 1) n s) v) 0 0 (SG nu) 4 [some (ar (some 27)), some (ai a), some (ai s)] [] v := by
    intro n
    induction n using Nat.strongRecOn with
    | ind n ih =>
    intro a s h0 h1 h2 h3
    refine G_iload_n dX6_filled_4 rfl ?_
    refine G_iconst (n := 2) dX6_filled_5 ⟨by decide, by decide⟩ ?_
    refine G_aload_n dX6_filled_6 rfl ?_
    refine G_getI (jj := 34) dX6_filled_7 flX6_184 rfl rfl rfl ?_
    refine G_imul dX6_filled_10 (iRm (by omega) (by omega)) ?_
    refine G_icmp_ge 33 dX6_filled_11 (by decide) (fun h11 => ?_) (fun h11 => ?_)
    · obtain rfl : n = 0 := by omega
      refine G_iload_n dX6_filled_33 rfl ?_
      exact G_iret dX6_filled_34 rfl rfl rfl ⟨by rw [sumF, Int.add_zero], rfl, rfl⟩
    · obtain ⟨n, rfl⟩ : ∃ k, n = k + 1 := ⟨n - 1, by omega⟩
      refine G_aload_n dX6_filled_14 rfl ?_
      refine G_getR (jj := 31) dX6_filled_15 flX6_71 rfl rfl rfl ?_
      refine G_iload_n dX6_filled_18 rfl ?_
      refine G_iald dX6_filled_19 rfl (by omega) (by omega) ?_
      refine G_iconst (n := (-1)) dX6_filled_20 ⟨by decide, by decide⟩ ?_
      refine G_icmp_eq 27 dX6_filled_21 (by decide) (fun h21 => ?_) (fun h21 => ?_)
      · refine G_iinc dX6_filled_27 rfl (iRm (by omega) (by omega)) rfl rfl ?_
        refine G_goto 4 dX6_filled_30 (by decide) ?_
        exact GI_eq (by simp [sumF, h21]; try omega) (ih n (by omega) _ (s + 1) (by omega) (by omega) (by omega) (by omega))
      · refine G_iinc dX6_filled_24 rfl (iRm (by omega) (by omega)) rfl rfl ?_
        refine G_iinc dX6_filled_27 rfl (iRm (by omega) (by omega)) rfl rfl ?_
        refine G_goto 4 dX6_filled_30 (by decide) ?_
        exact GI_eq (by simp [sumF, h21]; try omega) (ih n (by omega) _ (s + 1) (by omega) (by omega) (by omega) (by omega))
  refine G_iconst (n := 0) dX6_filled_0 ⟨by decide, by decide⟩ ?_
  refine G_istore_n dX6_filled_1 rfl rfl ?_
  refine G_iconst (n := 0) dX6_filled_2 ⟨by decide, by decide⟩ ?_
  refine G_istore_n dX6_filled_3 rfl rfl ?_
  have e := loop (2 * v 27 34).toNat 0 0 (by omega) (by omega) (by omega) (by omega)
  rw [Int.zero_add] at e
  exact e
set_option maxRecDepth 20000 in
set_option maxHeartbeats 1000000 in
theorem c_X6_placeOf (l : Launch) (d nu : Nat) (v : VV) (s : Int) (hs : 0 ≤ s ∧ s < 16) : Ct l yX6_placeOf cX6_placeOf (some .int) 2 (d + 0) 0 0 [ar (some 27), ai s] (SG nu) v (rI (SG nu) (if v 48 s = -1 then 20 else v 48 s) v) := by
  refine Ct_of_G [some (ar (some 27)), some (ai s)] (by decide) rfl rfl ?_
  refine G_aload_n dX6_placeOf_0 rfl ?_
  refine G_getR (jj := 31) dX6_placeOf_1 flX6_71 rfl rfl rfl ?_
  refine G_iload_n dX6_placeOf_4 rfl ?_
  refine G_iald dX6_placeOf_5 rfl (by omega) (by omega) ?_
  refine G_iconst (n := (-1)) dX6_placeOf_6 ⟨by decide, by decide⟩ ?_
  refine G_icmp_ne 15 dX6_placeOf_7 (by decide) (fun h7 => ?_) (fun h7 => ?_)
  · refine G_aload_n dX6_placeOf_15 rfl ?_
    refine G_getR (jj := 31) dX6_placeOf_16 flX6_71 rfl rfl rfl ?_
    refine G_iload_n dX6_placeOf_19 rfl ?_
    refine G_iald dX6_placeOf_20 rfl (by omega) (by omega) ?_
    exact G_iret dX6_placeOf_21 rfl rfl rfl ⟨by first | (rw [if_pos (by omega)]) | (rw [if_neg (by omega)]), rfl, rfl⟩
  · refine G_bipush (n := 20) dX6_placeOf_10 (by decide) ⟨by decide, by decide⟩ ?_
    refine G_goto 21 dX6_placeOf_12 (by decide) ?_
    exact G_iret dX6_placeOf_21 rfl rfl rfl ⟨by first | (rw [if_pos (by omega)]) | (rw [if_neg (by omega)]), rfl, rfl⟩
set_option maxRecDepth 20000 in
set_option maxHeartbeats 1000000 in
theorem c_X6_pays (l : Launch) (d nu : Nat) (v : VV) (s : Int) (hs : 0 ≤ s ∧ s < 16) (hw : -1 ≤ v 48 s ∧ v 48 s < 20) : Ct l yX6_pays cX6_pays (some .int) 2 (d + 0) 0 0 [ar (some 27), ai s] (SG nu) v (rI (SG nu) (if v 48 s = -1 then 1000000 else v 52 (20 * s + v 48 s)) v) := by
  refine Ct_of_G [some (ar (some 27)), some (ai s)] (by decide) rfl rfl ?_
  refine G_aload_n dX6_pays_0 rfl ?_
  refine G_getR (jj := 31) dX6_pays_1 flX6_71 rfl rfl rfl ?_
  refine G_iload_n dX6_pays_4 rfl ?_
  refine G_iald dX6_pays_5 rfl (by omega) (by omega) ?_
  refine G_iconst (n := (-1)) dX6_pays_6 ⟨by decide, by decide⟩ ?_
  refine G_icmp_ne 15 dX6_pays_7 (by decide) (fun h7 => ?_) (fun h7 => ?_)
  · refine G_aload_n dX6_pays_15 rfl ?_
    refine G_getR (jj := 39) dX6_pays_16 flX6_83 rfl rfl rfl ?_
    refine G_bipush (n := 20) dX6_pays_19 (by decide) ⟨by decide, by decide⟩ ?_
    refine G_iload_n dX6_pays_21 rfl ?_
    refine G_imul dX6_pays_22 (iRm (by omega) (by omega)) ?_
    refine G_aload_n dX6_pays_23 rfl ?_
    refine G_getR (jj := 31) dX6_pays_24 flX6_71 rfl rfl rfl ?_
    refine G_iload_n dX6_pays_27 rfl ?_
    refine G_iald dX6_pays_28 rfl (by omega) (by omega) ?_
    refine G_iadd dX6_pays_29 (iRm (by omega) (by omega)) ?_
    refine G_iald dX6_pays_30 rfl (by omega) (by omega) ?_
    exact G_iret dX6_pays_31 rfl rfl rfl ⟨by first | (rw [if_pos (by omega)]) | (rw [if_neg (by omega)]), rfl, rfl⟩
  · refine G_ldc (n := 1000000) dX6_pays_10 (show Cond.constant RX6 217 (Int32.ofInt 1000000) ∈ lw_good by decide +kernel) ⟨by decide, by decide⟩ ?_
    refine G_goto 31 dX6_pays_12 (by decide) ?_
    exact G_iret dX6_pays_31 rfl rfl rfl ⟨by first | (rw [if_pos (by omega)]) | (rw [if_neg (by omega)]), rfl, rfl⟩
set_option maxRecDepth 20000 in
set_option maxHeartbeats 1000000 in
theorem c_X6_offer (l : Launch) (d nu : Nat) (v : VV) (to c a q : Int) (ht : 0 ≤ to ∧ to < 22) : Ct l yX6_offer cX6_offer none 5 (d + 0) 0 0 [ar (some 27), ai to, ai c, ai a, ai q] (SG nu) v (rV (SG nu) (if v 55 to ≤ c then v else up (up (up (up v 55 to c) 56 to a) 57 to q) 27 45 1)) := by
  refine Ct_of_G [some (ar (some 27)), some (ai to), some (ai c), some (ai a), some (ai q)] (by decide) rfl rfl ?_
  refine G_iload_n dX6_offer_0 rfl ?_
  refine G_aload_n dX6_offer_1 rfl ?_
  refine G_getR (jj := 42) dX6_offer_2 flX6_92 rfl rfl rfl ?_
  refine G_iload_n dX6_offer_5 rfl ?_
  refine G_iald dX6_offer_6 rfl (by omega) (by omega) ?_
  refine G_icmp_lt 11 dX6_offer_7 (by decide) (fun h7 => ?_) (fun h7 => ?_)
  · refine G_aload_n dX6_offer_11 rfl ?_
    refine G_getR (jj := 42) dX6_offer_12 flX6_92 rfl rfl rfl ?_
    refine G_iload_n dX6_offer_15 rfl ?_
    refine G_iload_n dX6_offer_16 rfl ?_
    refine G_iast dX6_offer_17 rfl (by omega) (by omega) ?_
    refine G_aload_n dX6_offer_18 rfl ?_
    refine G_getR (jj := 43) dX6_offer_19 flX6_95 rfl rfl rfl ?_
    refine G_iload_n dX6_offer_22 rfl ?_
    refine G_iload_n dX6_offer_23 rfl ?_
    refine G_iast dX6_offer_24 rfl (by omega) (by omega) ?_
    refine G_aload_n dX6_offer_25 rfl ?_
    refine G_getR (jj := 44) dX6_offer_26 flX6_98 rfl rfl rfl ?_
    refine G_iload_n dX6_offer_29 rfl ?_
    refine G_iload dX6_offer_30 rfl ?_
    refine G_iast dX6_offer_32 rfl (by omega) (by omega) ?_
    refine G_aload_n dX6_offer_33 rfl ?_
    refine G_iconst (n := 1) dX6_offer_34 ⟨by decide, by decide⟩ ?_
    refine G_putZ (jj := 45) dX6_offer_35 flX6_232 rfl rfl rfl rfl (by omega) ?_
    exact G_vret dX6_offer_38 rfl rfl rfl ⟨rfl, rfl, by first | (rw [if_pos (by omega)]) | (rw [if_neg (by omega)])⟩
  · exact G_vret dX6_offer_10 rfl rfl rfl ⟨rfl, rfl, by first | (rw [if_pos (by omega)]) | (rw [if_neg (by omega)])⟩
set_option maxRecDepth 20000 in
set_option maxHeartbeats 1000000 in
theorem c_X6_bad (l : Launch) (d nu : Nat) (v : VV) (k : Int) : Ct l yX6_bad cX6_bad (some .boolean) 2 (d + 0) 0 0 [ar (some 27), ai k] (SG nu) v (rI (SG nu) (0) (up (up v 27 13 (if v 27 11 = 1 then 1 else k)) 27 14 (v 27 10))) := by
  refine Ct_of_G [some (ar (some 27)), some (ai k)] (by decide) rfl rfl ?_
  refine G_aload_n dX6_bad_0 rfl ?_
  refine G_aload_n dX6_bad_1 rfl ?_
  refine G_getI (jj := 11) dX6_bad_2 flX6_121 rfl rfl rfl ?_
  refine G_iconst (n := 1) dX6_bad_5 ⟨by decide, by decide⟩ ?_
  refine G_icmp_ne 13 dX6_bad_6 (by decide) (fun h6 => ?_) (fun h6 => ?_)
  · refine G_iload_n dX6_bad_13 rfl ?_
    refine G_putI (jj := 13) dX6_bad_14 flX6_158 rfl rfl rfl rfl ?_
    refine G_aload_n dX6_bad_17 rfl ?_
    refine G_aload_n dX6_bad_18 rfl ?_
    refine G_getI (jj := 10) dX6_bad_19 flX6_118 rfl rfl rfl ?_
    refine G_putI (jj := 14) dX6_bad_22 flX6_161 rfl rfl rfl rfl ?_
    refine G_iconst (n := 0) dX6_bad_25 ⟨by decide, by decide⟩ ?_
    exact G_zret dX6_bad_26 rfl (by omega) rfl rfl ⟨rfl, rfl, by simp [up_get, *]⟩
  · refine G_iconst (n := 1) dX6_bad_9 ⟨by decide, by decide⟩ ?_
    refine G_goto 14 dX6_bad_10 (by decide) ?_
    refine G_putI (jj := 13) dX6_bad_14 flX6_158 rfl rfl rfl rfl ?_
    refine G_aload_n dX6_bad_17 rfl ?_
    refine G_aload_n dX6_bad_18 rfl ?_
    refine G_getI (jj := 10) dX6_bad_19 flX6_118 rfl rfl rfl ?_
    refine G_putI (jj := 14) dX6_bad_22 flX6_161 rfl rfl rfl rfl ?_
    refine G_iconst (n := 0) dX6_bad_25 ⟨by decide, by decide⟩ ?_
    exact G_zret dX6_bad_26 rfl (by omega) rfl rfl ⟨rfl, rfl, by simp [up_get, *]⟩
set_option maxRecDepth 20000 in
set_option maxHeartbeats 1000000 in
theorem c_X6_fault (l : Launch) (d nu : Nat) (v : VV)  : Ct l yX6_fault cX6_fault (some .int) 1 (d + 0) 0 0 [ar (some 27)] (SG nu) v (rI (SG nu) (v 27 13) (up v 27 0 0)) := by
  refine Ct_of_G [some (ar (some 27))] (by decide) rfl rfl ?_
  refine G_aload_n dX6_fault_0 rfl ?_
  refine G_iconst (n := 0) dX6_fault_1 ⟨by decide, by decide⟩ ?_
  refine G_putI (jj := 0) dX6_fault_2 flX6_101 rfl rfl rfl rfl ?_
  refine G_aload_n dX6_fault_5 rfl ?_
  refine G_getI (jj := 13) dX6_fault_6 flX6_158 rfl rfl rfl ?_
  exact G_iret dX6_fault_9 rfl rfl rfl ⟨rfl, rfl, rfl⟩
