set_option maxRecDepth 20000 in
set_option maxHeartbeats 1000000 in
theorem c_X3_byteAt (l : Launch) (d nu : Nat) (v : VV) (n : Int) (t : Int → Int) (hn : v 1 1 = n ∧ 0 ≤ n ∧ n ≤ 180) (ht : ∀ i, 0 ≤ t i ∧ t i ≤ 255) (hb : ∀ i, 0 ≤ i → i < n → v 2 i = if t i < 128 then t i else t i - 256) (i : Int) : Ct l yX3_byteAt cX3_byteAt (some .int) 2 (d + 0) 0 0 [ar (some 1), ai i] (SG nu) v (rI (SG nu) (if 0 ≤ i ∧ i < n then (if t i < 128 then t i else t i - 256) else 0) v) := by
  refine Ct_of_G [some (ar (some 1)), some (ai i)] (by decide) rfl rfl ?_
  refine G_iload_n dX3_byteAt_0 rfl ?_
  refine G_if_lt 21 dX3_byteAt_1 (by decide) (fun h1 => ?_) (fun h1 => ?_)
  · refine G_iconst (n := 0) dX3_byteAt_21 ⟨by decide, by decide⟩ ?_
    exact G_iret dX3_byteAt_22 rfl rfl rfl ⟨by first | (rw [if_pos (show 0 ≤ i ∧ i < n by omega)]) | (rw [if_neg (show ¬ (0 ≤ i ∧ i < n) by omega)]), rfl, rfl⟩
  · refine G_iload_n dX3_byteAt_4 rfl ?_
    refine G_aload_n dX3_byteAt_5 rfl ?_
    refine G_getI (jj := 1) dX3_byteAt_6 flX3_13 rfl rfl rfl ?_
    refine G_icmp_ge 21 dX3_byteAt_9 (by decide) (fun h9 => ?_) (fun h9 => ?_)
    · refine G_iconst (n := 0) dX3_byteAt_21 ⟨by decide, by decide⟩ ?_
      exact G_iret dX3_byteAt_22 rfl rfl rfl ⟨by first | (rw [if_pos (show 0 ≤ i ∧ i < n by omega)]) | (rw [if_neg (show ¬ (0 ≤ i ∧ i < n) by omega)]), rfl, rfl⟩
    · refine G_aload_n dX3_byteAt_12 rfl ?_
      refine G_getR (jj := 0) dX3_byteAt_13 flX3_9 rfl rfl rfl ?_
      refine G_iload_n dX3_byteAt_16 rfl ?_
      refine G_bald dX3_byteAt_17 rfl (by omega) (by omega) ?_
      rw [hb i (by omega) (by omega)]
      refine G_goto 22 dX3_byteAt_18 (by decide) ?_
      exact G_iret dX3_byteAt_22 rfl rfl rfl ⟨by first | (rw [if_pos (show 0 ≤ i ∧ i < n by omega)]) | (rw [if_neg (show ¬ (0 ≤ i ∧ i < n) by omega)]), rfl, rfl⟩
set_option maxRecDepth 20000 in
set_option maxHeartbeats 1000000 in
theorem c_X3_isBlank (l : Launch) (d nu : Nat) (v : VV) (n : Int) (t : Int → Int) (hn : v 1 1 = n ∧ 0 ≤ n ∧ n ≤ 180) (ht : ∀ i, 0 ≤ t i ∧ t i ≤ 255) (hb : ∀ i, 0 ≤ i → i < n → v 2 i = if t i < 128 then t i else t i - 256) (i : Int) : Ct l yX3_isBlank cX3_isBlank (some .boolean) 3 (d + 1) 0 0 [ar (some 1), ai i] (SG nu) v (rI (SG nu) (if (0 ≤ i ∧ i < n) ∧ (t i = 32 ∨ t i = 10) then 1 else 0) v) := by
  refine Ct_of_G [some (ar (some 1)), some (ai i), none] (by decide) rfl rfl ?_
  refine G_aload_n dX3_isBlank_0 rfl ?_
  refine G_iload_n dX3_isBlank_1 rfl ?_
  refine G_cVi (ci := 3) dX3_isBlank_2 rfl (by decide) rfl (c_X3_byteAt l (d + 0) nu v n t hn ht hb i) mcX3_21 rfl rfl (by show _ ≤ d + 1; omega) rfl rfl (Nat.le_refl _) (Nat.le_refl _) ?_
  refine G_istore_n dX3_isBlank_5 rfl rfl ?_
  refine G_iload_n dX3_isBlank_6 rfl ?_
  refine G_bipush (n := 32) dX3_isBlank_7 (by decide) ⟨by decide, by decide⟩ ?_
  refine G_icmp_eq 18 dX3_isBlank_9 (by decide) (fun h9 => ?_) (fun h9 => ?_)
  · refine G_iconst (n := 1) dX3_isBlank_18 ⟨by decide, by decide⟩ ?_
    refine G_goto 23 dX3_isBlank_19 (by decide) ?_
    exact G_zret dX3_isBlank_23 rfl (by omega) rfl rfl ⟨by have h9 := ht i; first | (rw [if_pos (by omega)]) | (rw [if_neg (by omega)]), rfl, rfl⟩
  · refine G_iload_n dX3_isBlank_12 rfl ?_
    refine G_bipush (n := 10) dX3_isBlank_13 (by decide) ⟨by decide, by decide⟩ ?_
    refine G_icmp_ne 22 dX3_isBlank_15 (by decide) (fun h15 => ?_) (fun h15 => ?_)
    · refine G_iconst (n := 0) dX3_isBlank_22 ⟨by decide, by decide⟩ ?_
      exact G_zret dX3_isBlank_23 rfl (by omega) rfl rfl ⟨by have h9 := ht i; first | (rw [if_pos (by omega)]) | (rw [if_neg (by omega)]), rfl, rfl⟩
    · refine G_iconst (n := 1) dX3_isBlank_18 ⟨by decide, by decide⟩ ?_
      refine G_goto 23 dX3_isBlank_19 (by decide) ?_
      exact G_zret dX3_isBlank_23 rfl (by omega) rfl rfl ⟨by have h9 := ht i; first | (rw [if_pos (by omega)]) | (rw [if_neg (by omega)]), rfl, rfl⟩
set_option maxRecDepth 20000 in
set_option maxHeartbeats 1000000 in
theorem c_X3_isLetter (l : Launch) (d nu : Nat) (v : VV) (n : Int) (t : Int → Int) (hn : v 1 1 = n ∧ 0 ≤ n ∧ n ≤ 180) (ht : ∀ i, 0 ≤ t i ∧ t i ≤ 255) (hb : ∀ i, 0 ≤ i → i < n → v 2 i = if t i < 128 then t i else t i - 256) (i : Int) : Ct l yX3_isLetter cX3_isLetter (some .boolean) 3 (d + 1) 0 0 [ar (some 1), ai i] (SG nu) v (rI (SG nu) (if (0 ≤ i ∧ i < n) ∧ (97 ≤ t i ∧ t i ≤ 122) then 1 else 0) v) := by
  refine Ct_of_G [some (ar (some 1)), some (ai i), none] (by decide) rfl rfl ?_
  refine G_aload_n dX3_isLetter_0 rfl ?_
  refine G_iload_n dX3_isLetter_1 rfl ?_
  refine G_cVi (ci := 3) dX3_isLetter_2 rfl (by decide) rfl (c_X3_byteAt l (d + 0) nu v n t hn ht hb i) mcX3_21 rfl rfl (by show _ ≤ d + 1; omega) rfl rfl (Nat.le_refl _) (Nat.le_refl _) ?_
  refine G_istore_n dX3_isLetter_5 rfl rfl ?_
  refine G_iload_n dX3_isLetter_6 rfl ?_
  refine G_bipush (n := 97) dX3_isLetter_7 (by decide) ⟨by decide, by decide⟩ ?_
  refine G_icmp_lt 22 dX3_isLetter_9 (by decide) (fun h9 => ?_) (fun h9 => ?_)
  · refine G_iconst (n := 0) dX3_isLetter_22 ⟨by decide, by decide⟩ ?_
    exact G_zret dX3_isLetter_23 rfl (by omega) rfl rfl ⟨by have h9 := ht i; first | (rw [if_pos (by omega)]) | (rw [if_neg (by omega)]), rfl, rfl⟩
  · refine G_iload_n dX3_isLetter_12 rfl ?_
    refine G_bipush (n := 122) dX3_isLetter_13 (by decide) ⟨by decide, by decide⟩ ?_
    refine G_icmp_gt 22 dX3_isLetter_15 (by decide) (fun h15 => ?_) (fun h15 => ?_)
    · refine G_iconst (n := 0) dX3_isLetter_22 ⟨by decide, by decide⟩ ?_
      exact G_zret dX3_isLetter_23 rfl (by omega) rfl rfl ⟨by have h9 := ht i; first | (rw [if_pos (by omega)]) | (rw [if_neg (by omega)]), rfl, rfl⟩
    · refine G_iconst (n := 1) dX3_isLetter_18 ⟨by decide, by decide⟩ ?_
      refine G_goto 23 dX3_isLetter_19 (by decide) ?_
      exact G_zret dX3_isLetter_23 rfl (by omega) rfl rfl ⟨by have h9 := ht i; first | (rw [if_pos (by omega)]) | (rw [if_neg (by omega)]), rfl, rfl⟩
set_option maxRecDepth 20000 in
set_option maxHeartbeats 1000000 in
theorem c_X3_isDigit (l : Launch) (d nu : Nat) (v : VV) (n : Int) (t : Int → Int) (hn : v 1 1 = n ∧ 0 ≤ n ∧ n ≤ 180) (ht : ∀ i, 0 ≤ t i ∧ t i ≤ 255) (hb : ∀ i, 0 ≤ i → i < n → v 2 i = if t i < 128 then t i else t i - 256) (i : Int) : Ct l yX3_isDigit cX3_isDigit (some .boolean) 3 (d + 1) 0 0 [ar (some 1), ai i] (SG nu) v (rI (SG nu) (if (0 ≤ i ∧ i < n) ∧ (48 ≤ t i ∧ t i ≤ 57) then 1 else 0) v) := by
  refine Ct_of_G [some (ar (some 1)), some (ai i), none] (by decide) rfl rfl ?_
  refine G_aload_n dX3_isDigit_0 rfl ?_
  refine G_iload_n dX3_isDigit_1 rfl ?_
  refine G_cVi (ci := 3) dX3_isDigit_2 rfl (by decide) rfl (c_X3_byteAt l (d + 0) nu v n t hn ht hb i) mcX3_21 rfl rfl (by show _ ≤ d + 1; omega) rfl rfl (Nat.le_refl _) (Nat.le_refl _) ?_
  refine G_istore_n dX3_isDigit_5 rfl rfl ?_
  refine G_iload_n dX3_isDigit_6 rfl ?_
  refine G_bipush (n := 48) dX3_isDigit_7 (by decide) ⟨by decide, by decide⟩ ?_
  refine G_icmp_lt 22 dX3_isDigit_9 (by decide) (fun h9 => ?_) (fun h9 => ?_)
  · refine G_iconst (n := 0) dX3_isDigit_22 ⟨by decide, by decide⟩ ?_
    exact G_zret dX3_isDigit_23 rfl (by omega) rfl rfl ⟨by have h9 := ht i; first | (rw [if_pos (by omega)]) | (rw [if_neg (by omega)]), rfl, rfl⟩
  · refine G_iload_n dX3_isDigit_12 rfl ?_
    refine G_bipush (n := 57) dX3_isDigit_13 (by decide) ⟨by decide, by decide⟩ ?_
    refine G_icmp_gt 22 dX3_isDigit_15 (by decide) (fun h15 => ?_) (fun h15 => ?_)
    · refine G_iconst (n := 0) dX3_isDigit_22 ⟨by decide, by decide⟩ ?_
      exact G_zret dX3_isDigit_23 rfl (by omega) rfl rfl ⟨by have h9 := ht i; first | (rw [if_pos (by omega)]) | (rw [if_neg (by omega)]), rfl, rfl⟩
    · refine G_iconst (n := 1) dX3_isDigit_18 ⟨by decide, by decide⟩ ?_
      refine G_goto 23 dX3_isDigit_19 (by decide) ?_
      exact G_zret dX3_isDigit_23 rfl (by omega) rfl rfl ⟨by have h9 := ht i; first | (rw [if_pos (by omega)]) | (rw [if_neg (by omega)]), rfl, rfl⟩
set_option maxRecDepth 20000 in
set_option maxHeartbeats 1000000 in
theorem c_X1_fail (l : Launch) (d nu : Nat) (v : VV) (k p : Int) : Ct l yX1_fail cX1_fail none 3 (d + 0) 0 0 [ar (some 3), ai k, ai p] (SG nu) v (rV (SG nu) (up (up v 3 5 k) 3 6 p)) := by
  refine Ct_of_G [some (ar (some 3)), some (ai k), some (ai p)] (by decide) rfl rfl ?_
  refine G_aload_n dX1_fail_0 rfl ?_
  refine G_iload_n dX1_fail_1 rfl ?_
  refine G_putI (jj := 5) dX1_fail_2 flX1_21 rfl rfl rfl rfl ?_
  refine G_aload_n dX1_fail_5 rfl ?_
  refine G_iload_n dX1_fail_6 rfl ?_
  refine G_putI (jj := 6) dX1_fail_7 flX1_59 rfl rfl rfl rfl ?_
  exact G_vret dX1_fail_10 rfl rfl rfl ⟨rfl, rfl, rfl⟩
