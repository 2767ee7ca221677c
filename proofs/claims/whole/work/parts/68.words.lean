theorem sh0 : ∀ i, i < 9 → (Int32.ofInt ((sLn.getD i 0 : Nat) : Int) >>> (Int32.ofInt 0 &&& 31)).toInt = ((sLn.getD i 0 : Nat) : Int) := by decide +kernel
theorem ch_ok : ∀ i, i < 9 → ∀ j, j < sLn.getD i 0 → (Int32.ofInt (sCh i ((j : Nat) : Int)) &&& Int32.ofInt 255).toInt = sCh i ((j : Nat) : Int) ∧ ((Int32.ofInt (sCh i ((j : Nat) : Int))).toUInt32 % 65536).toInt32 = Int32.ofInt (sCh i ((j : Nat) : Int)) ∧ (97 ≤ sCh i ((j : Nat) : Int) ∧ sCh i ((j : Nat) : Int) ≤ 122) := by decide +kernel
theorem ch_nar {x : Int} (h : 97 ≤ x ∧ x ≤ 122) : narrow .char (.int (Int32.ofInt x)) = .int (Int32.ofInt x) := by
  have h2 : ∀ k : Nat, k < 26 → narrow .char (.int (Int32.ofInt ((97 + k : Nat) : Int))) = .int (Int32.ofInt ((97 + k : Nat) : Int)) := by decide +kernel
  have h3 := h2 (x - 97).toNat (by omega)
  rwa [show ((97 + (x - 97).toNat : Nat) : Int) = x from by omega] at h3
theorem ch_at {i : Nat} (hi : i < 9) {j : Int} (h0 : 0 ≤ j) (h1 : j < ((sLn.getD i 0 : Nat) : Int)) : (Int32.ofInt (sCh i j) &&& Int32.ofInt 255).toInt = sCh i j ∧ ((Int32.ofInt (sCh i j)).toUInt32 % 65536).toInt32 = Int32.ofInt (sCh i j) ∧ (97 ≤ sCh i j ∧ sCh i j ≤ 122) := by
  have h := ch_ok i hi j.toNat (by omega)
  rwa [show ((j.toNat : Nat) : Int) = j from by omega] at h
set_option maxRecDepth 20000 in
set_option maxHeartbeats 1000000 in
theorem c_J0_coder_7d493 (l : Launch) (d nu : Nat) (v : VV) (i : Nat) (hi : i < 9) : Ct l yJ0_coder_7d493 cJ0_coder_7d493 (some .byte) 1 (d + 0) 0 0 [ax (10 + i)] (SG nu) v (rI (SG nu) 0 v) := by
  refine Ct_of_G [some (ax (10 + i))] (by decide) rfl rfl ?_
  refine G_compact dJ0_coder_7d493_0 (show Cond.fieldLink RJ0 38 RJ0 "COMPACT_STRINGS" "Z" ∈ lw_good by decide +kernel) ?_
  refine G_if_eq 13 dJ0_coder_7d493_3 (by decide) (fun h3 => by omega) (fun h3 => ?_)
  refine G_aload_nX dJ0_coder_7d493_6 rfl ?_
  refine G_coderX hi dJ0_coder_7d493_7 (show Cond.fieldLink RJ0 15 RJ0 "coder" "B" ∈ lw_good by decide +kernel) ?_
  refine G_goto 14 dJ0_coder_7d493_10 (by decide) ?_
  exact G_nret dJ0_coder_7d493_14 rfl rfl rfl rfl ⟨rfl, rfl, rfl⟩
set_option maxRecDepth 20000 in
set_option maxHeartbeats 1000000 in
theorem c_J0_isLatin1_aae02 (l : Launch) (d nu : Nat) (v : VV) (i : Nat) (hi : i < 9) : Ct l yJ0_isLatin1_aae02 cJ0_isLatin1_aae02 (some .boolean) 1 (d + 0) 0 0 [ax (10 + i)] (SG nu) v (rI (SG nu) 1 v) := by
  refine Ct_of_G [some (ax (10 + i))] (by decide) rfl rfl ?_
  refine G_compact dJ0_isLatin1_aae02_0 (show Cond.fieldLink RJ0 38 RJ0 "COMPACT_STRINGS" "Z" ∈ lw_good by decide +kernel) ?_
  refine G_if_eq 17 dJ0_isLatin1_aae02_3 (by decide) (fun h3 => by omega) (fun h3 => ?_)
  refine G_aload_nX dJ0_isLatin1_aae02_6 rfl ?_
  refine G_coderX hi dJ0_isLatin1_aae02_7 (show Cond.fieldLink RJ0 15 RJ0 "coder" "B" ∈ lw_good by decide +kernel) ?_
  refine G_if_ne 17 dJ0_isLatin1_aae02_10 (by decide) (fun h10 => absurd rfl h10) (fun h10 => ?_)
  refine G_iconst (n := 1) dJ0_isLatin1_aae02_13 ⟨by decide, by decide⟩ ?_
  refine G_goto 18 dJ0_isLatin1_aae02_14 (by decide) ?_
  exact G_zret dJ0_isLatin1_aae02_18 rfl (Or.inr rfl) rfl rfl ⟨rfl, rfl, rfl⟩
set_option maxRecDepth 20000 in
set_option maxHeartbeats 1000000 in
theorem c_J0_length_8abf5 (l : Launch) (d nu : Nat) (v : VV) (i : Nat) (hi : i < 9) : Ct l yJ0_length_8abf5 cJ0_length_8abf5 (some .int) 1 (d + 1) 0 0 [ax (10 + i)] (SG nu) v (rI (SG nu) ((sLn.getD i 0 : Nat) : Int) v) := by
  refine Ct_of_G [some (ax (10 + i))] (by decide) rfl rfl ?_
  refine G_aload_nX dJ0_length_8abf5_0 rfl ?_
  refine G_valueX hi dJ0_length_8abf5_1 (show Cond.fieldLink RJ0 9 RJ0 "value" "[B" ∈ lw_good by decide +kernel) ?_
  refine G_alenX hi dJ0_length_8abf5_4 ?_
  refine G_aload_nX dJ0_length_8abf5_5 rfl ?_
  refine G_callVX (i := i) hi dJ0_length_8abf5_6 rfl (c_J0_coder_7d493 l (d + 0) nu v i hi) mcJ0_335 rfl rfl (by show _ ≤ d + 1; omega) rfl rfl (Nat.le_refl _) (Nat.le_refl _) (fun r S2 v2 hq9 => ?_)
  obtain ⟨rfl, rfl, rfl⟩ := hq9
  refine G_ishr ((sLn.getD i 0 : Nat) : Int) dJ0_length_8abf5_9 (sh0 i hi) ?_
  exact G_iret dJ0_length_8abf5_10 rfl rfl rfl ⟨rfl, rfl, rfl⟩
set_option maxRecDepth 20000 in
set_option maxHeartbeats 1000000 in
theorem c_J3_checkIndex_8e157 (l : Launch) (d nu : Nat) (v : VV) (i n : Int) (hi : 0 ≤ i ∧ i < n) : Ct l yJ3_checkIndex_8e157 cJ3_checkIndex_8e157 (some .int) 3 (d + 0) 0 0 [ai i, ai n, ar none] (SG nu) v (rI (SG nu) i v) := by
  refine Ct_of_G [some (ai i), some (ai n), some (ar none)] (by decide) rfl rfl ?_
  refine G_iload_n dJ3_checkIndex_8e157_0 rfl ?_
  refine G_if_lt 9 dJ3_checkIndex_8e157_1 (by decide) (fun h1 => by omega) (fun h1 => ?_)
  refine G_iload_n dJ3_checkIndex_8e157_4 rfl ?_
  refine G_iload_n dJ3_checkIndex_8e157_5 rfl ?_
  refine G_icmp_lt 16 dJ3_checkIndex_8e157_6 (by decide) (fun h6 => ?_) (fun h6 => by omega)
  refine G_iload_n dJ3_checkIndex_8e157_16 rfl ?_
  exact G_iret dJ3_checkIndex_8e157_17 rfl rfl rfl ⟨rfl, rfl, rfl⟩
set_option maxRecDepth 20000 in
set_option maxHeartbeats 1000000 in
theorem c_J3_checkIndexX (l : Launch) (d nu : Nat) (v : VV) (i n : Int) (hi : 0 ≤ i ∧ i < n) : Ct l yJ3_checkIndex_8e157 cJ3_checkIndex_8e157 (some .int) 3 (d + 0) 0 0 [ai i, ai n, ax 9] (SG nu) v (rI (SG nu) i v) := by
  refine Ct_of_G [some (ai i), some (ai n), some (ax 9)] (by decide) rfl rfl ?_
  refine G_iload_n dJ3_checkIndex_8e157_0 rfl ?_
  refine G_if_lt 9 dJ3_checkIndex_8e157_1 (by decide) (fun h1 => by omega) (fun h1 => ?_)
  refine G_iload_n dJ3_checkIndex_8e157_4 rfl ?_
  refine G_iload_n dJ3_checkIndex_8e157_5 rfl ?_
  refine G_icmp_lt 16 dJ3_checkIndex_8e157_6 (by decide) (fun h6 => ?_) (fun h6 => by omega)
  refine G_iload_n dJ3_checkIndex_8e157_16 rfl ?_
  exact G_iret dJ3_checkIndex_8e157_17 rfl rfl rfl ⟨rfl, rfl, rfl⟩
theorem no9_l {i n : Int} : ∀ (k : Nat) (a : AV), ([some (ai i), some (ai n)] : LL)[k]? = some (some a) → no9 a := by
  intro k a h
  match k, h with
  | 0, h => cases h; exact fun e => by cases e
  | 1, h => cases h; exact fun e => by cases e
set_option maxRecDepth 20000 in
set_option maxHeartbeats 1000000 in
theorem c_J0_checkIndex_df160 (l : Launch) (d nu : Nat) (v : VV) (i n : Int) (hi : 0 ≤ i ∧ i < n) : Ct l yJ0_checkIndex_df160 cJ0_checkIndex_df160 none 2 (d + 1) 0 0 [ai i, ai n] (SG nu) v (rV (SG nu) v) := by
  refine Ct_of_G [some (ai i), some (ai n)] (by decide) rfl rfl ?_
  refine G_iload_n dJ0_checkIndex_df160_0 rfl ?_
  refine G_iload_n dJ0_checkIndex_df160_1 rfl ?_
  refine G_getsQ dJ0_checkIndex_df160_2 (show Cond.fieldLink RJ0 1053 RJ3 "SIOOBE_FORMATTER" "Ljava/util/function/BiFunction;" ∈ lw_good by decide +kernel) rfl (fun r S2 v2 h => h.1) no9_l (fun a ha => by rcases List.mem_cons.mp ha with e | e; (rw [e]; exact fun z => by cases z); (rw [List.mem_singleton.mp e]; exact fun z => by cases z)) ?_ ?_
  · refine G_cSi dJ0_checkIndex_df160_5 (c_J3_checkIndex_8e157 l (d + 0) nu v i n hi) mcJ0_1059 rfl rfl (by show _ ≤ d + 1; omega) rfl rfl (Nat.le_refl _) (Nat.le_refl _) ?_
    refine G_pop_i dJ0_checkIndex_df160_8 ?_
    exact G_vret dJ0_checkIndex_df160_9 rfl rfl rfl ⟨rfl, rfl, rfl⟩
  · refine G_cSi dJ0_checkIndex_df160_5 (c_J3_checkIndexX l (d + 0) nu v i n hi) mcJ0_1059 rfl rfl (by show _ ≤ d + 1; omega) rfl rfl (Nat.le_refl _) (Nat.le_refl _) ?_
    refine G_pop_i dJ0_checkIndex_df160_8 ?_
    exact G_vret dJ0_checkIndex_df160_9 rfl rfl rfl ⟨rfl, rfl, rfl⟩
set_option maxRecDepth 20000 in
set_option maxHeartbeats 1000000 in
theorem c_J1_charAt_3b067 (l : Launch) (d nu : Nat) (v : VV) (i : Nat) (hi : i < 9) (j : Int) (hj : 0 ≤ j ∧ j < ((sLn.getD i 0 : Nat) : Int)) : Ct l yJ1_charAt_3b067 cJ1_charAt_3b067 (some .char) 2 (d + 2) 0 0 [ax (30 + i), ai j] (SG nu) v (rI (SG nu) (sCh i j) v) := by
  refine Ct_of_G [some (ax (30 + i)), some (ai j)] (by decide) rfl rfl ?_
  refine G_iload_n dJ1_charAt_3b067_0 rfl ?_
  refine G_aload_nX dJ1_charAt_3b067_1 rfl ?_
  refine G_alenX hi dJ1_charAt_3b067_2 ?_
  refine G_cSv dJ1_charAt_3b067_3 (c_J0_checkIndex_df160 l (d + 0) nu v j _ hj) mcJ1_9 rfl rfl (by show _ ≤ d + 2; omega) rfl rfl (Nat.le_refl _) (Nat.le_refl _) ?_
  refine G_aload_nX dJ1_charAt_3b067_6 rfl ?_
  refine G_iload_n dJ1_charAt_3b067_7 rfl ?_
  refine G_baldX hi hj.1 hj.2 dJ1_charAt_3b067_8 ?_
  refine G_sipush (n := 255) dJ1_charAt_3b067_9 (by decide) ⟨by decide, by decide⟩ ?_
  refine G_iand (sCh i j) dJ1_charAt_3b067_12 (ch_at hi hj.1 hj.2).1 ?_
  refine G_i2c (sCh i j) dJ1_charAt_3b067_13 (ch_at hi hj.1 hj.2).2.1 (iRm (by have := (ch_at hi hj.1 hj.2).2.2; omega) (by have := (ch_at hi hj.1 hj.2).2.2; omega)) ?_
  exact G_nret dJ1_charAt_3b067_14 rfl (ch_nar (ch_at hi hj.1 hj.2).2.2) rfl rfl ⟨rfl, rfl, rfl⟩
set_option maxRecDepth 20000 in
set_option maxHeartbeats 1000000 in
theorem c_J0_charAt_5068e (l : Launch) (d nu : Nat) (v : VV) (i : Nat) (hi : i < 9) (j : Int) (hj : 0 ≤ j ∧ j < ((sLn.getD i 0 : Nat) : Int)) : Ct l yJ0_charAt_5068e cJ0_charAt_5068e (some .char) 2 (d + 3) 0 0 [ax (10 + i), ai j] (SG nu) v (rI (SG nu) (sCh i j) v) := by
  refine Ct_of_G [some (ax (10 + i)), some (ai j)] (by decide) rfl rfl ?_
  refine G_aload_nX dJ0_charAt_5068e_0 rfl ?_
  refine G_callVX (i := i) hi dJ0_charAt_5068e_1 rfl (c_J0_isLatin1_aae02 l (d + 0) nu v i hi) mcJ0_492 rfl rfl (by show _ ≤ d + 3; omega) rfl rfl (Nat.le_refl _) (Nat.le_refl _) (fun r S2 v2 hq9 => ?_)
  obtain ⟨rfl, rfl, rfl⟩ := hq9
  refine G_if_eq 16 dJ0_charAt_5068e_4 (by decide) (fun h4 => by omega) (fun h4 => ?_)
  refine G_aload_nX dJ0_charAt_5068e_7 rfl ?_
  refine G_valueX hi dJ0_charAt_5068e_8 (show Cond.fieldLink RJ0 9 RJ0 "value" "[B" ∈ lw_good by decide +kernel) ?_
  refine G_iload_n dJ0_charAt_5068e_11 rfl ?_
  refine G_cSi dJ0_charAt_5068e_12 (c_J1_charAt_3b067 l (d + 0) nu v2 i hi j hj) mcJ0_495 rfl rfl (by show _ ≤ d + 3; omega) rfl rfl (Nat.le_refl _) (Nat.le_refl _) ?_
  exact G_nret dJ0_charAt_5068e_15 rfl (ch_nar (ch_at hi hj.1 hj.2).2.2) rfl rfl ⟨rfl, rfl, rfl⟩
set_option maxRecDepth 20000 in
set_option maxHeartbeats 1000000 in
theorem c_X1_wordOf (l : Launch) (d nu : Nat) (v : VV) (k : Int) (hk : 0 ≤ k ∧ k < 9) : Ct l yX1_wordOf cX1_wordOf (some (.object "java/lang/String")) 1 (d + 0) 0 0 [ai k] (SG nu) v (fun r S2 v2 => r = some (ax (10 + k.toNat)) ∧ S2 = SG nu ∧ v2 = v) := by
  refine Ct_of_G [some (ai k)] (by decide) rfl rfl ?_
  refine G_iload_n dX1_wordOf_0 rfl ?_
  rcases (show (k < 0 ∨ 7 < k) ∨ k = 0 ∨ k = 1 ∨ k = 2 ∨ k = 3 ∨ k = 4 ∨ k = 5 ∨ k = 6 ∨ k = 7 by omega) with hsw | hsw | hsw | hsw | hsw | hsw | hsw | hsw | hsw
  · refine G_tableOut 72 dX1_wordOf_1 hsw (by decide) ?_
    refine G_ldcS (i := 8) (by decide) rfl dX1_wordOf_72 ?_
    exact G_aretX dX1_wordOf_74 rfl (Or.inl ⟨_, rfl⟩) rfl rfl ⟨by rw [show k.toNat = 8 from by omega], rfl, rfl⟩
  · refine G_tableIn 48 dX1_wordOf_1 (by omega) (by omega) (by rw [hsw]; rfl) (by decide) ?_
    refine G_ldcS (i := 0) (by decide) rfl dX1_wordOf_48 ?_
    exact G_aretX dX1_wordOf_50 rfl (Or.inl ⟨_, rfl⟩) rfl rfl ⟨by rw [show k.toNat = 0 from by omega], rfl, rfl⟩
  · refine G_tableIn 51 dX1_wordOf_1 (by omega) (by omega) (by rw [hsw]; rfl) (by decide) ?_
    refine G_ldcS (i := 1) (by decide) rfl dX1_wordOf_51 ?_
    exact G_aretX dX1_wordOf_53 rfl (Or.inl ⟨_, rfl⟩) rfl rfl ⟨by rw [show k.toNat = 1 from by omega], rfl, rfl⟩
  · refine G_tableIn 54 dX1_wordOf_1 (by omega) (by omega) (by rw [hsw]; rfl) (by decide) ?_
    refine G_ldcS (i := 2) (by decide) rfl dX1_wordOf_54 ?_
    exact G_aretX dX1_wordOf_56 rfl (Or.inl ⟨_, rfl⟩) rfl rfl ⟨by rw [show k.toNat = 2 from by omega], rfl, rfl⟩
  · refine G_tableIn 57 dX1_wordOf_1 (by omega) (by omega) (by rw [hsw]; rfl) (by decide) ?_
    refine G_ldcS (i := 3) (by decide) rfl dX1_wordOf_57 ?_
    exact G_aretX dX1_wordOf_59 rfl (Or.inl ⟨_, rfl⟩) rfl rfl ⟨by rw [show k.toNat = 3 from by omega], rfl, rfl⟩
  · refine G_tableIn 60 dX1_wordOf_1 (by omega) (by omega) (by rw [hsw]; rfl) (by decide) ?_
    refine G_ldcS (i := 4) (by decide) rfl dX1_wordOf_60 ?_
    exact G_aretX dX1_wordOf_62 rfl (Or.inl ⟨_, rfl⟩) rfl rfl ⟨by rw [show k.toNat = 4 from by omega], rfl, rfl⟩
  · refine G_tableIn 63 dX1_wordOf_1 (by omega) (by omega) (by rw [hsw]; rfl) (by decide) ?_
    refine G_ldcS (i := 5) (by decide) rfl dX1_wordOf_63 ?_
    exact G_aretX dX1_wordOf_65 rfl (Or.inl ⟨_, rfl⟩) rfl rfl ⟨by rw [show k.toNat = 5 from by omega], rfl, rfl⟩
  · refine G_tableIn 66 dX1_wordOf_1 (by omega) (by omega) (by rw [hsw]; rfl) (by decide) ?_
    refine G_ldcS (i := 6) (by decide) rfl dX1_wordOf_66 ?_
    exact G_aretX dX1_wordOf_68 rfl (Or.inl ⟨_, rfl⟩) rfl rfl ⟨by rw [show k.toNat = 6 from by omega], rfl, rfl⟩
  · refine G_tableIn 69 dX1_wordOf_1 (by omega) (by omega) (by rw [hsw]; rfl) (by decide) ?_
    refine G_ldcS (i := 7) (by decide) rfl dX1_wordOf_69 ?_
    exact G_aretX dX1_wordOf_71 rfl (Or.inl ⟨_, rfl⟩) rfl rfl ⟨by rw [show k.toNat = 7 from by omega], rfl, rfl⟩
/-- the TOKEN from a to e is the WORD of RULE k -/
def WD (t : Int → Int) (a e : Int) (k : Nat) : Prop := e - a = ((sLn.getD k 0 : Nat) : Int) ∧ ∀ j : Int, 0 ≤ j → j < ((sLn.getD k 0 : Nat) : Int) → t (a + j) = sCh k j
set_option maxRecDepth 20000 in
set_option maxHeartbeats 1000000 in
theorem c_X1_isWord (l : Launch) (d nu : Nat) (v : VV) (n : Int) (t : Int → Int) (hn : v 1 1 = n ∧ 0 ≤ n ∧ n ≤ 180) (ht : ∀ i, 0 ≤ t i ∧ t i ≤ 255) (hb : ∀ i, 0 ≤ i → i < n → v 2 i = if t i < 128 then t i else t i - 256) (a e : Int) (ha : 0 ≤ a ∧ a ≤ e ∧ e ≤ n) (i : Nat) (hi : i < 9) : Ct l yX1_isWord cX1_isWord (some .boolean) 5 (d + 4) 0 0 [ar (some 1), ai a, ai e, ax (10 + i)] (SG nu) v (rI (SG nu) (bP (WD t a e i)) v) := by
  refine Ct_of_G [some (ar (some 1)), some (ai a), some (ai e), some (ax (10 + i)), none] (by decide) rfl rfl ?_
  have loop : ∀ (N : Nat) (x : Int), 0 ≤ x → x + N = ((sLn.getD i 0 : Nat) : Int) → e - a = ((sLn.getD i 0 : Nat) : Int) → (∀ j : Int, 0 ≤ j → j < x → t (a + j) = sCh i j) → G l (yX1_isWord, cX1_isWord, (some .boolean), 5, (d + 4), 0, 0, none) (rI (SG nu) (bP (WD t a e i)) v) 0 0 (SG nu) 15 [some (ar (some 1)), some (ai a), some (ai e), some (ax (10 + i)), some (ai x)] [] v := by
    intro N
    induction N using Nat.strongRecOn with
    | ind N ih =>
    intro x h0 h1 hle hp
    have hlen := sLn_bd i hi
    refine G_iload dX1_isWord_15 rfl ?_
    refine G_aload_nX dX1_isWord_17 rfl ?_
    refine G_callVX (i := i) hi dX1_isWord_18 rfl (c_J0_length_8abf5 l (d + 2) nu v i hi) mcX1_119 rfl rfl (by show _ ≤ d + 4; omega) rfl rfl (Nat.le_refl _) (Nat.le_refl _) (fun r S2 w9 hq9 => ?_)
    obtain ⟨rfl, rfl, rfl⟩ := hq9
    refine G_icmp_ge 49 dX1_isWord_21 (by decide) (fun h21 => ?_) (fun h21 => ?_)
    · refine G_iconst (n := 1) dX1_isWord_49 ⟨by decide, by decide⟩ ?_
      exact G_zret dX1_isWord_50 rfl (Or.inr rfl) rfl rfl ⟨congrArg (fun x => some (ai x)) (bP_t ⟨hle, fun j j0 j1 => hp j j0 (by omega)⟩).symm, rfl, rfl⟩
    · refine G_aload_n dX1_isWord_24 rfl ?_
      refine G_iload_n dX1_isWord_25 rfl ?_
      refine G_iload dX1_isWord_26 rfl ?_
      refine G_iadd dX1_isWord_28 (iRm (by omega) (by omega)) ?_
      refine G_cVi (ci := 3) dX1_isWord_29 rfl (by decide) rfl (c_X3_byteAt l (d + 3) nu w9 n t hn ht hb (a + x)) mcX1_95 rfl rfl (by show _ ≤ d + 4; omega) rfl rfl (Nat.le_refl _) (Nat.le_refl _) ?_
      rw [if_pos (show 0 ≤ a + x ∧ a + x < n by omega)]
      have htx := ht (a + x)
      have hch := (ch_at hi h0 (show x < _ by omega)).2.2
      refine G_aload_nX dX1_isWord_32 rfl ?_
      refine G_iload dX1_isWord_33 rfl ?_
      refine G_callVX (i := i) hi dX1_isWord_35 rfl (c_J0_charAt_5068e l (d + 0) nu w9 i hi x ⟨h0, by omega⟩) mcX1_122 rfl rfl (by show _ ≤ d + 4; omega) rfl rfl (Nat.le_refl _) (Nat.le_refl _) (fun r S2 w8 hq9 => ?_)
      obtain ⟨rfl, rfl, rfl⟩ := hq9
      refine G_icmp_eq 43 dX1_isWord_38 (by decide) (fun h38 => ?_) (fun h38 => ?_)
      · have hok : t (a + x) = sCh i x := by
          by_cases g : t (a + x) < 128
          · rw [if_pos g] at h38; exact h38
          · rw [if_neg g] at h38; omega
        refine G_iinc dX1_isWord_43 rfl (iRm (by omega) (by omega)) rfl rfl ?_
        refine G_goto 15 dX1_isWord_46 (by decide) ?_
        exact ih (N - 1) (by omega) (x + 1) (by omega) (by omega) hle (fun j j0 j1 => by by_cases g : j = x; (rw [g]; exact hok); exact hp j j0 (by omega))
      · have hno : t (a + x) ≠ sCh i x := fun g => h38 (by rw [if_pos (by omega)]; exact g)
        refine G_iconst (n := 0) dX1_isWord_41 ⟨by decide, by decide⟩ ?_
        exact G_zret dX1_isWord_42 rfl (Or.inl rfl) rfl rfl ⟨congrArg (fun x => some (ai x)) (bP_f (fun h => hno (h.2 x h0 (by omega)))).symm, rfl, rfl⟩
  refine G_iload_n dX1_isWord_0 rfl ?_
  refine G_iload_n dX1_isWord_1 rfl ?_
  refine G_isub dX1_isWord_2 (iRm (by omega) (by omega)) ?_
  refine G_aload_nX dX1_isWord_3 rfl ?_
  refine G_callVX (i := i) hi dX1_isWord_4 rfl (c_J0_length_8abf5 l (d + 2) nu v i hi) mcX1_119 rfl rfl (by show _ ≤ d + 4; omega) rfl rfl (Nat.le_refl _) (Nat.le_refl _) (fun r S2 w9 hq9 => ?_)
  obtain ⟨rfl, rfl, rfl⟩ := hq9
  have hlen := sLn_bd i hi
  refine G_icmp_eq 12 dX1_isWord_7 (by decide) (fun h7 => ?_) (fun h7 => ?_)
  · refine G_iconst (n := 0) dX1_isWord_12 ⟨by decide, by decide⟩ ?_
    refine G_istore dX1_isWord_13 rfl rfl ?_
    exact loop (sLn.getD i 0) 0 (by omega) (by omega) h7 (fun j j0 j1 => by omega)
  · refine G_iconst (n := 0) dX1_isWord_10 ⟨by decide, by decide⟩ ?_
    exact G_zret dX1_isWord_11 rfl (Or.inl rfl) rfl rfl ⟨congrArg (fun x => some (ai x)) (bP_f (fun h => h7 h.1)).symm, rfl, rfl⟩
def KW (t : Int → Int) (a e k : Int) : Prop := ((0 ≤ k ∧ k < 9) ∧ WD t a e k.toNat) ∨ (k = -1 ∧ ∀ i : Nat, i < 9 → ¬ WD t a e i)
set_option maxRecDepth 20000 in
set_option maxHeartbeats 1000000 in
theorem c_X1_kindOfWord (l : Launch) (d nu : Nat) (v : VV) (n : Int) (t : Int → Int) (hn : v 1 1 = n ∧ 0 ≤ n ∧ n ≤ 180) (ht : ∀ i, 0 ≤ t i ∧ t i ≤ 255) (hb : ∀ i, 0 ≤ i → i < n → v 2 i = if t i < 128 then t i else t i - 256) (a e : Int) (ha : 0 ≤ a ∧ a ≤ e ∧ e ≤ n) : Ct l yX1_kindOfWord cX1_kindOfWord (some .int) 4 (d + 5) 0 0 [ar (some 1), ai a, ai e] (SG nu) v (rE (SG nu) (KW t a e) v) := by
  refine Ct_of_G [some (ar (some 1)), some (ai a), some (ai e), none] (by decide) rfl rfl ?_
  have loop : ∀ (N : Nat) (x : Int), 0 ≤ x → x + N = 9 → (∀ i : Nat, (i : Int) < x → ¬ WD t a e i) → G l (yX1_kindOfWord, cX1_kindOfWord, (some .int), 4, (d + 5), 0, 0, none) (rE (SG nu) (KW t a e) v) 0 0 (SG nu) 2 [some (ar (some 1)), some (ai a), some (ai e), some (ai x)] [] v := by
    intro N
    induction N using Nat.strongRecOn with
    | ind N ih =>
    intro x h0 h1 hp
    refine G_iload_n dX1_kindOfWord_2 rfl ?_
    refine G_bipush (n := 9) dX1_kindOfWord_3 (by decide) ⟨by decide, by decide⟩ ?_
    refine G_icmp_ge 29 dX1_kindOfWord_5 (by decide) (fun h5 => ?_) (fun h5 => ?_)
    · refine G_iconst (n := (-1)) dX1_kindOfWord_29 ⟨by decide, by decide⟩ ?_
      exact G_iret dX1_kindOfWord_30 rfl rfl rfl ⟨-1, rfl, Or.inr ⟨rfl, fun i i0 => hp i (by omega)⟩, rfl, rfl⟩
    · refine G_aload_n dX1_kindOfWord_8 rfl ?_
      refine G_iload_n dX1_kindOfWord_9 rfl ?_
      refine G_iload_n dX1_kindOfWord_10 rfl ?_
      refine G_iload_n dX1_kindOfWord_11 rfl ?_
      refine G_cSq dX1_kindOfWord_12 (c_X1_wordOf l (d + 4) nu v x ⟨h0, by omega⟩) mcX1_111 rfl rfl (by show _ ≤ d + 5; omega) rfl rfl (Nat.le_refl _) (Nat.le_refl _) (fun r S2 w9 hq9 => ?_)
      obtain ⟨rfl, rfl, rfl⟩ := hq9
      refine G_cSi dX1_kindOfWord_15 (c_X1_isWord l (d + 0) nu w9 n t hn ht hb a e ha x.toNat (by omega)) mcX1_115 rfl rfl (by show _ ≤ d + 5; omega) rfl rfl (Nat.le_refl _) (Nat.le_refl _) ?_
      refine G_if_eq 23 dX1_kindOfWord_18 (by decide) (fun h18 => ?_) (fun h18 => ?_)
      · refine G_iinc dX1_kindOfWord_23 rfl (iRm (by omega) (by omega)) rfl rfl ?_
        refine G_goto 2 dX1_kindOfWord_26 (by decide) ?_
        exact ih (N - 1) (by omega) (x + 1) (by omega) (by omega) (fun i i0 => by by_cases g : (i : Int) = x; (rw [show i = x.toNat from by omega]; exact bP_0.mp h18); exact hp i (by omega))
      · refine G_iload_n dX1_kindOfWord_21 rfl ?_
        exact G_iret dX1_kindOfWord_22 rfl rfl rfl ⟨x, rfl, Or.inl ⟨⟨h0, by omega⟩, bP_1.mp (by rcases bP_01 (WD t a e x.toNat) with g | g; exact absurd g h18; exact g)⟩, rfl, rfl⟩
  refine G_iconst (n := 0) dX1_kindOfWord_0 ⟨by decide, by decide⟩ ?_
  refine G_istore_n dX1_kindOfWord_1 rfl rfl ?_
  exact loop 9 0 (by omega) (by omega) (fun i i0 => by omega)
def failV (v : VV) (c a : Int) : VV := up (up v 3 5 c) 3 6 a
def TWP (t : Int → Int) (a e : Int) (v w : VV) : Prop := ∃ k, KW t a e k ∧ ((k = -1 ∧ w = failV v 1 a) ∨ (k ≠ -1 ∧ bandI (v 3 4) (shlI 1 k) ≠ 0 ∧ w = failV v 3 a) ∨ (k ≠ -1 ∧ bandI (v 3 4) (shlI 1 k) = 0 ∧ w = up (up (up v 3 4 (borI (v 3 4) (shlI 1 k))) 3 3 k) 3 2 1))
def NU (t : Int → Int) (a e x : Int) : Prop := ((e - a ≤ 3 ∧ ∀ j, a ≤ j → j < e → isD (t j)) ∧ x = hr10 t a (e - a).toNat) ∨ (¬ (e - a ≤ 3 ∧ ∀ j, a ≤ j → j < e → isD (t j)) ∧ x = -1)
def TNP (t : Int → Int) (a e : Int) (v w : VV) : Prop := ∃ x, NU t a e x ∧ ((x = -1 ∧ w = failV v 1 a) ∨ (x ≠ -1 ∧ ¬ (xLe.getD (v 3 3).toNat 0 ≤ x ∧ x ≤ xMo.getD (v 3 3).toNat 0) ∧ w = failV v 2 a) ∨ (x ≠ -1 ∧ (xLe.getD (v 3 3).toNat 0 ≤ x ∧ x ≤ xMo.getD (v 3 3).toNat 0) ∧ w = up (up v 5 (v 3 3) x) 3 2 2))
set_option maxRecDepth 20000 in
set_option maxHeartbeats 1000000 in
theorem c_X1_takeWord (l : Launch) (d nu : Nat) (v : VV) (n : Int) (t : Int → Int) (hn : v 1 1 = n ∧ 0 ≤ n ∧ n ≤ 180) (ht : ∀ i, 0 ≤ t i ∧ t i ≤ 255) (hb : ∀ i, 0 ≤ i → i < n → v 2 i = if t i < 128 then t i else t i - 256) (a e : Int) (ha : 0 ≤ a ∧ a ≤ e ∧ e ≤ n) : Ct l yX1_takeWord cX1_takeWord none 5 (d + 6) 0 0 [ar (some 3), ar (some 1), ai a, ai e] (SG nu) v (fun r S2 w => r = none ∧ S2 = SG nu ∧ TWP t a e v w) := by
  refine Ct_of_G [some (ar (some 3)), some (ar (some 1)), some (ai a), some (ai e), none] (by decide) rfl rfl ?_
  refine G_aload_n dX1_takeWord_0 rfl ?_
  refine G_iload_n dX1_takeWord_1 rfl ?_
  refine G_iload_n dX1_takeWord_2 rfl ?_
  refine G_cSq dX1_takeWord_3 (c_X1_kindOfWord l (d + 0) nu v n t hn ht hb a e ha) mcX1_98 rfl rfl (by show _ ≤ d + 6; omega) rfl rfl (Nat.le_refl _) (Nat.le_refl _) (fun r S2 w9 hq9 => ?_)
  obtain ⟨k, rfl, hk, rfl, rfl⟩ := hq9
  refine G_istore dX1_takeWord_6 rfl rfl ?_
  refine G_iload dX1_takeWord_8 rfl ?_
  refine G_iconst (n := (-1)) dX1_takeWord_10 ⟨by decide, by decide⟩ ?_
  refine G_icmp_ne 23 dX1_takeWord_11 (by decide) (fun h11 => ?_) (fun h11 => ?_)
  · refine G_aload_n dX1_takeWord_23 rfl ?_
    refine G_getI (jj := 4) dX1_takeWord_24 flX1_68 rfl rfl rfl ?_
    refine G_iconst (n := 1) dX1_takeWord_27 ⟨by decide, by decide⟩ ?_
    refine G_iload dX1_takeWord_28 rfl ?_
    refine G_ishl (shlI 1 k) dX1_takeWord_30 rfl ?_
    refine G_iand (bandI (w9 3 4) (shlI 1 k)) dX1_takeWord_31 rfl ?_
    refine G_if_eq 44 dX1_takeWord_32 (by decide) (fun h32 => ?_) (fun h32 => ?_)
    · refine G_aload_n dX1_takeWord_44 rfl ?_
      refine G_dup_a dX1_takeWord_45 ?_
      refine G_getI (jj := 4) dX1_takeWord_46 flX1_68 rfl rfl rfl ?_
      refine G_iconst (n := 1) dX1_takeWord_49 ⟨by decide, by decide⟩ ?_
      refine G_iload dX1_takeWord_50 rfl ?_
      refine G_ishl (shlI 1 k) dX1_takeWord_52 rfl ?_
      refine G_ior (borI (w9 3 4) (shlI 1 k)) dX1_takeWord_53 rfl ?_
      refine G_putI (jj := 4) dX1_takeWord_54 flX1_68 rfl rfl rfl rfl ?_
      refine G_aload_n dX1_takeWord_57 rfl ?_
      refine G_iload dX1_takeWord_58 rfl ?_
      refine G_putI (jj := 3) dX1_takeWord_60 flX1_77 rfl rfl rfl rfl ?_
      refine G_aload_n dX1_takeWord_63 rfl ?_
      refine G_iconst (n := 1) dX1_takeWord_64 ⟨by decide, by decide⟩ ?_
      refine G_putI (jj := 2) dX1_takeWord_65 flX1_52 rfl rfl rfl rfl ?_
      exact G_vret dX1_takeWord_68 rfl rfl rfl ⟨rfl, rfl, k, hk, by first | exact Or.inl ⟨h11e, rfl⟩ | exact Or.inr (Or.inl ⟨h11, h32, rfl⟩) | exact Or.inr (Or.inr ⟨h11, h32, rfl⟩)⟩
    · refine G_aload_n dX1_takeWord_35 rfl ?_
      refine G_iconst (n := 3) dX1_takeWord_36 ⟨by decide, by decide⟩ ?_
      refine G_iload_n dX1_takeWord_37 rfl ?_
      refine G_cVv (ci := 1) dX1_takeWord_38 rfl (by decide) rfl (c_X1_fail l (d + 5) nu w9 3 a) mcX1_55 rfl rfl (by show _ ≤ d + 6; omega) rfl rfl (Nat.le_refl _) (Nat.le_refl _) ?_
      refine G_goto 68 dX1_takeWord_41 (by decide) ?_
      exact G_vret dX1_takeWord_68 rfl rfl rfl ⟨rfl, rfl, k, hk, by first | exact Or.inl ⟨h11e, rfl⟩ | exact Or.inr (Or.inl ⟨h11, h32, rfl⟩) | exact Or.inr (Or.inr ⟨h11, h32, rfl⟩)⟩
  · have h11e : k = -1 := h11
    refine G_aload_n dX1_takeWord_14 rfl ?_
    refine G_iconst (n := 1) dX1_takeWord_15 ⟨by decide, by decide⟩ ?_
    refine G_iload_n dX1_takeWord_16 rfl ?_
    refine G_cVv (ci := 1) dX1_takeWord_17 rfl (by decide) rfl (c_X1_fail l (d + 5) nu w9 1 a) mcX1_55 rfl rfl (by show _ ≤ d + 6; omega) rfl rfl (Nat.le_refl _) (Nat.le_refl _) ?_
    refine G_goto 68 dX1_takeWord_20 (by decide) ?_
    exact G_vret dX1_takeWord_68 rfl rfl rfl ⟨rfl, rfl, k, hk, by first | exact Or.inl ⟨h11e, rfl⟩ | exact Or.inr (Or.inl ⟨h11, h32, rfl⟩) | exact Or.inr (Or.inr ⟨h11, h32, rfl⟩)⟩
set_option maxRecDepth 20000 in
set_option maxHeartbeats 1000000 in
theorem c_X1_takeNumber (l : Launch) (d nu : Nat) (v : VV) (n : Int) (t : Int → Int) (hn : v 1 1 = n ∧ 0 ≤ n ∧ n ≤ 180) (ht : ∀ i, 0 ≤ t i ∧ t i ≤ 255) (hb : ∀ i, 0 ≤ i → i < n → v 2 i = if t i < 128 then t i else t i - 256) (a e : Int) (ha : 0 ≤ a ∧ a ≤ e ∧ e ≤ n) (hc : 0 ≤ v 3 3 ∧ v 3 3 < 9) : Ct l yX1_takeNumber cX1_takeNumber none 5 (d + 4) 0 0 [ar (some 3), ar (some 1), ai a, ai e] (SG nu) v (fun r S2 w => r = none ∧ S2 = SG nu ∧ TNP t a e v w) := by
  refine Ct_of_G [some (ar (some 3)), some (ar (some 1)), some (ai a), some (ai e), none] (by decide) rfl rfl ?_
  refine G_aload_n dX1_takeNumber_0 rfl ?_
  refine G_iload_n dX1_takeNumber_1 rfl ?_
  refine G_iload_n dX1_takeNumber_2 rfl ?_
  refine G_cSq dX1_takeNumber_3 (c_X1_numberOf l (d + 0) nu v n t hn ht hb a e ha) mcX1_102 rfl rfl (by show _ ≤ d + 4; omega) rfl rfl (Nat.le_refl _) (Nat.le_refl _) (fun r S2 w9 hq9 => ?_)
  obtain ⟨x, rfl, hx, rfl, rfl⟩ := hq9
  refine G_istore dX1_takeNumber_6 rfl rfl ?_
  refine G_iload dX1_takeNumber_8 rfl ?_
  refine G_iconst (n := (-1)) dX1_takeNumber_10 ⟨by decide, by decide⟩ ?_
  refine G_icmp_ne 23 dX1_takeNumber_11 (by decide) (fun h11 => ?_) (fun h11 => ?_)
  · refine G_iload dX1_takeNumber_23 rfl ?_
    refine G_getsT (e := 2) dX1_takeNumber_25 (by decide) (show Cond.fieldLink RX1 105 RX1 (nT 2) "[I" ∈ lw_good by decide +kernel) ?_
    refine G_aload_n dX1_takeNumber_28 rfl ?_
    refine G_getI (jj := 3) dX1_takeNumber_29 flX1_77 rfl rfl rfl ?_
    refine G_ialdX (e := 2) dX1_takeNumber_32 (by decide) hc.1 hc.2 ?_
    rw [show xT 2 = xLe from rfl]
    refine G_icmp_lt 49 dX1_takeNumber_33 (by decide) (fun h33 => ?_) (fun h33 => ?_)
    · refine G_aload_n dX1_takeNumber_49 rfl ?_
      refine G_iconst (n := 2) dX1_takeNumber_50 ⟨by decide, by decide⟩ ?_
      refine G_iload_n dX1_takeNumber_51 rfl ?_
      refine G_cVv (ci := 1) dX1_takeNumber_52 rfl (by decide) rfl (c_X1_fail l (d + 3) nu w9 2 a) mcX1_55 rfl rfl (by show _ ≤ d + 4; omega) rfl rfl (Nat.le_refl _) (Nat.le_refl _) ?_
      refine G_goto 74 dX1_takeNumber_55 (by decide) ?_
      exact G_vret dX1_takeNumber_74 rfl rfl rfl ⟨rfl, rfl, x, hx, by first | exact Or.inl ⟨h11e, rfl⟩ | exact Or.inr (Or.inl ⟨h11, by omega, rfl⟩) | exact Or.inr (Or.inr ⟨h11, by omega, rfl⟩)⟩
    · refine G_iload dX1_takeNumber_36 rfl ?_
      refine G_getsT (e := 3) dX1_takeNumber_38 (by decide) (show Cond.fieldLink RX1 108 RX1 (nT 3) "[I" ∈ lw_good by decide +kernel) ?_
      refine G_aload_n dX1_takeNumber_41 rfl ?_
      refine G_getI (jj := 3) dX1_takeNumber_42 flX1_77 rfl rfl rfl ?_
      refine G_ialdX (e := 3) dX1_takeNumber_45 (by decide) hc.1 hc.2 ?_
      rw [show xT 3 = xMo from rfl]
      refine G_icmp_le 58 dX1_takeNumber_46 (by decide) (fun h46 => ?_) (fun h46 => ?_)
      · refine G_aload_n dX1_takeNumber_58 rfl ?_
        refine G_getR (jj := 1) dX1_takeNumber_59 flX1_15 rfl rfl rfl ?_
        refine G_aload_n dX1_takeNumber_62 rfl ?_
        refine G_getI (jj := 3) dX1_takeNumber_63 flX1_77 rfl rfl rfl ?_
        refine G_iload dX1_takeNumber_66 rfl ?_
        refine G_iast dX1_takeNumber_68 rfl (by omega) (by omega) ?_
        refine G_aload_n dX1_takeNumber_69 rfl ?_
        refine G_iconst (n := 2) dX1_takeNumber_70 ⟨by decide, by decide⟩ ?_
        refine G_putI (jj := 2) dX1_takeNumber_71 flX1_52 rfl rfl rfl rfl ?_
        exact G_vret dX1_takeNumber_74 rfl rfl rfl ⟨rfl, rfl, x, hx, by first | exact Or.inl ⟨h11e, rfl⟩ | exact Or.inr (Or.inl ⟨h11, by omega, rfl⟩) | exact Or.inr (Or.inr ⟨h11, by omega, rfl⟩)⟩
      · refine G_aload_n dX1_takeNumber_49 rfl ?_
        refine G_iconst (n := 2) dX1_takeNumber_50 ⟨by decide, by decide⟩ ?_
        refine G_iload_n dX1_takeNumber_51 rfl ?_
        refine G_cVv (ci := 1) dX1_takeNumber_52 rfl (by decide) rfl (c_X1_fail l (d + 3) nu w9 2 a) mcX1_55 rfl rfl (by show _ ≤ d + 4; omega) rfl rfl (Nat.le_refl _) (Nat.le_refl _) ?_
        refine G_goto 74 dX1_takeNumber_55 (by decide) ?_
        exact G_vret dX1_takeNumber_74 rfl rfl rfl ⟨rfl, rfl, x, hx, by first | exact Or.inl ⟨h11e, rfl⟩ | exact Or.inr (Or.inl ⟨h11, by omega, rfl⟩) | exact Or.inr (Or.inr ⟨h11, by omega, rfl⟩)⟩
  · have h11e : x = -1 := h11
    refine G_aload_n dX1_takeNumber_14 rfl ?_
    refine G_iconst (n := 1) dX1_takeNumber_15 ⟨by decide, by decide⟩ ?_
    refine G_iload_n dX1_takeNumber_16 rfl ?_
    refine G_cVv (ci := 1) dX1_takeNumber_17 rfl (by decide) rfl (c_X1_fail l (d + 3) nu w9 1 a) mcX1_55 rfl rfl (by show _ ≤ d + 4; omega) rfl rfl (Nat.le_refl _) (Nat.le_refl _) ?_
    refine G_goto 74 dX1_takeNumber_20 (by decide) ?_
    exact G_vret dX1_takeNumber_74 rfl rfl rfl ⟨rfl, rfl, x, hx, by first | exact Or.inl ⟨h11e, rfl⟩ | exact Or.inr (Or.inl ⟨h11, by omega, rfl⟩) | exact Or.inr (Or.inr ⟨h11, by omega, rfl⟩)⟩
def TKP (t : Int → Int) (a e : Int) (v w : VV) : Prop := (isL (t a) ∧ v 3 2 = 0 ∧ TWP t a e v w) ∨ (isD (t a) ∧ v 3 2 = 1 ∧ TNP t a e v w) ∨ (t a = 59 ∧ v 3 2 = 2 ∧ w = up v 3 2 0) ∨ (¬ (isL (t a) ∧ v 3 2 = 0) ∧ ¬ (isD (t a) ∧ v 3 2 = 1) ∧ ¬ (t a = 59 ∧ v 3 2 = 2) ∧ w = failV v 1 a)
set_option maxRecDepth 20000 in
set_option maxHeartbeats 1000000 in
theorem c_X1_take (l : Launch) (d nu : Nat) (v : VV) (n : Int) (t : Int → Int) (hn : v 1 1 = n ∧ 0 ≤ n ∧ n ≤ 180) (ht : ∀ i, 0 ≤ t i ∧ t i ≤ 255) (hb : ∀ i, 0 ≤ i → i < n → v 2 i = if t i < 128 then t i else t i - 256) (a e : Int) (ha : 0 ≤ a ∧ a < e ∧ e ≤ n) (hc : v 3 2 = 1 → 0 ≤ v 3 3 ∧ v 3 3 < 9) : Ct l yX1_take cX1_take none 4 (d + 7) 0 0 [ar (some 3), ar (some 1), ai a, ai e] (SG nu) v (fun r S2 w => r = none ∧ S2 = SG nu ∧ TKP t a e v w) := by
  refine Ct_of_G [some (ar (some 3)), some (ar (some 1)), some (ai a), some (ai e)] (by decide) rfl rfl ?_
  refine G_aload_n dX1_take_0 rfl ?_
  refine G_iload_n dX1_take_1 rfl ?_
  refine G_cVi (ci := 3) dX1_take_2 rfl (by decide) rfl (c_X3_isLetter l (d + 5) nu v n t hn ht hb a) mcX1_80 rfl rfl (by show _ ≤ d + 7; omega) rfl rfl (Nat.le_refl _) (Nat.le_refl _) ?_
  refine G_if_eq 25 dX1_take_5 (by decide) (fun h5 => ?_) (fun h5 => ?_)
  · have hL : ¬ isL (t a) := fun g => by rw [if_pos ⟨⟨ha.1, by omega⟩, g⟩] at h5; omega
    refine G_aload_n dX1_take_25 rfl ?_
    refine G_iload_n dX1_take_26 rfl ?_
    refine G_cVi (ci := 3) dX1_take_27 rfl (by decide) rfl (c_X3_isDigit l (d + 5) nu v n t hn ht hb a) mcX1_83 rfl rfl (by show _ ≤ d + 7; omega) rfl rfl (Nat.le_refl _) (Nat.le_refl _) ?_
    refine G_if_eq 51 dX1_take_30 (by decide) (fun h30 => ?_) (fun h30 => ?_)
    · have hDd : ¬ isD (t a) := fun g => by rw [if_pos ⟨⟨ha.1, by omega⟩, g⟩] at h30; omega
      refine G_aload_n dX1_take_51 rfl ?_
      refine G_iload_n dX1_take_52 rfl ?_
      refine G_cVi (ci := 3) dX1_take_53 rfl (by decide) rfl (c_X3_byteAt l (d + 6) nu v n t hn ht hb a) mcX1_95 rfl rfl (by show _ ≤ d + 7; omega) rfl rfl (Nat.le_refl _) (Nat.le_refl _) ?_
      rw [if_pos (show 0 ≤ a ∧ a < n by omega)]
      have hta := ht a
      refine G_bipush (n := 59) dX1_take_56 (by decide) ⟨by decide, by decide⟩ ?_
      refine G_icmp_ne 77 dX1_take_58 (by decide) (fun h58 => ?_) (fun h58 => ?_)
      · have h59 : t a ≠ 59 := fun g => h58 (by rw [if_pos (by omega)]; exact g)
        refine G_aload_n dX1_take_77 rfl ?_
        refine G_iconst (n := 1) dX1_take_78 ⟨by decide, by decide⟩ ?_
        refine G_iload_n dX1_take_79 rfl ?_
        refine G_cVv (ci := 1) dX1_take_80 rfl (by decide) rfl (c_X1_fail l (d + 6) nu v 1 a) mcX1_55 rfl rfl (by show _ ≤ d + 7; omega) rfl rfl (Nat.le_refl _) (Nat.le_refl _) ?_
        have hP2 : TKP t a e v (up (up v 3 5 1) 3 6 a) := Or.inr (Or.inr (Or.inr ⟨by (first | (exact fun g => hL g.1) | (exact fun g => h12 g.2)), by (first | (exact fun g => hDd g.1) | (exact fun g => h38 g.2) | (exact fun g => hnD g.1)), by (first | (exact fun g => h59 g.1) | (exact fun g => h66 g.2) | (intro g; unfold isD at *; omega)), rfl⟩))
        exact G_vret dX1_take_83 rfl rfl rfl ⟨rfl, rfl, hP2⟩
      · have h59 : t a = 59 := by
          by_cases g : t a < 128
          · rw [if_pos g] at h58; exact h58
          · rw [if_neg g] at h58; omega
        refine G_aload_n dX1_take_61 rfl ?_
        refine G_getI (jj := 2) dX1_take_62 flX1_52 rfl rfl rfl ?_
        refine G_iconst (n := 2) dX1_take_65 ⟨by decide, by decide⟩ ?_
        refine G_icmp_ne 77 dX1_take_66 (by decide) (fun h66 => ?_) (fun h66 => ?_)
        · refine G_aload_n dX1_take_77 rfl ?_
          refine G_iconst (n := 1) dX1_take_78 ⟨by decide, by decide⟩ ?_
          refine G_iload_n dX1_take_79 rfl ?_
          refine G_cVv (ci := 1) dX1_take_80 rfl (by decide) rfl (c_X1_fail l (d + 6) nu v 1 a) mcX1_55 rfl rfl (by show _ ≤ d + 7; omega) rfl rfl (Nat.le_refl _) (Nat.le_refl _) ?_
          have hP2 : TKP t a e v (up (up v 3 5 1) 3 6 a) := Or.inr (Or.inr (Or.inr ⟨by (first | (exact fun g => hL g.1) | (exact fun g => h12 g.2)), by (first | (exact fun g => hDd g.1) | (exact fun g => h38 g.2) | (exact fun g => hnD g.1)), by (first | (exact fun g => h59 g.1) | (exact fun g => h66 g.2) | (intro g; unfold isD at *; omega)), rfl⟩))
          exact G_vret dX1_take_83 rfl rfl rfl ⟨rfl, rfl, hP2⟩
        · refine G_aload_n dX1_take_69 rfl ?_
          refine G_iconst (n := 0) dX1_take_70 ⟨by decide, by decide⟩ ?_
          refine G_putI (jj := 2) dX1_take_71 flX1_52 rfl rfl rfl rfl ?_
          have hP2 : TKP t a e v (up v 3 2 0) := Or.inr (Or.inr (Or.inl ⟨h59, h66, rfl⟩))
          refine G_goto 83 dX1_take_74 (by decide) ?_
          exact G_vret dX1_take_83 rfl rfl rfl ⟨rfl, rfl, hP2⟩
    · have hDd : isD (t a) := by
        apply Classical.byContradiction
        intro g
        rw [if_neg (fun z => g z.2)] at h30
        exact h30 rfl
      refine G_aload_n dX1_take_33 rfl ?_
      refine G_getI (jj := 2) dX1_take_34 flX1_52 rfl rfl rfl ?_
      refine G_iconst (n := 1) dX1_take_37 ⟨by decide, by decide⟩ ?_
      refine G_icmp_ne 51 dX1_take_38 (by decide) (fun h38 => ?_) (fun h38 => ?_)
      · refine G_aload_n dX1_take_51 rfl ?_
        refine G_iload_n dX1_take_52 rfl ?_
        refine G_cVi (ci := 3) dX1_take_53 rfl (by decide) rfl (c_X3_byteAt l (d + 6) nu v n t hn ht hb a) mcX1_95 rfl rfl (by show _ ≤ d + 7; omega) rfl rfl (Nat.le_refl _) (Nat.le_refl _) ?_
        rw [if_pos (show 0 ≤ a ∧ a < n by omega)]
        have hta := ht a
        refine G_bipush (n := 59) dX1_take_56 (by decide) ⟨by decide, by decide⟩ ?_
        refine G_icmp_ne 77 dX1_take_58 (by decide) (fun h58 => ?_) (fun h58 => ?_)
        · have h59 : t a ≠ 59 := fun g => h58 (by rw [if_pos (by omega)]; exact g)
          refine G_aload_n dX1_take_77 rfl ?_
          refine G_iconst (n := 1) dX1_take_78 ⟨by decide, by decide⟩ ?_
          refine G_iload_n dX1_take_79 rfl ?_
          refine G_cVv (ci := 1) dX1_take_80 rfl (by decide) rfl (c_X1_fail l (d + 6) nu v 1 a) mcX1_55 rfl rfl (by show _ ≤ d + 7; omega) rfl rfl (Nat.le_refl _) (Nat.le_refl _) ?_
          have hP2 : TKP t a e v (up (up v 3 5 1) 3 6 a) := Or.inr (Or.inr (Or.inr ⟨by (first | (exact fun g => hL g.1) | (exact fun g => h12 g.2)), by (first | (exact fun g => hDd g.1) | (exact fun g => h38 g.2) | (exact fun g => hnD g.1)), by (first | (exact fun g => h59 g.1) | (exact fun g => h66 g.2) | (intro g; unfold isD at *; omega)), rfl⟩))
          exact G_vret dX1_take_83 rfl rfl rfl ⟨rfl, rfl, hP2⟩
        · have h59 : t a = 59 := by
            by_cases g : t a < 128
            · rw [if_pos g] at h58; exact h58
            · rw [if_neg g] at h58; omega
          refine G_aload_n dX1_take_61 rfl ?_
          refine G_getI (jj := 2) dX1_take_62 flX1_52 rfl rfl rfl ?_
          refine G_iconst (n := 2) dX1_take_65 ⟨by decide, by decide⟩ ?_
          refine G_icmp_ne 77 dX1_take_66 (by decide) (fun h66 => ?_) (fun h66 => ?_)
          · refine G_aload_n dX1_take_77 rfl ?_
            refine G_iconst (n := 1) dX1_take_78 ⟨by decide, by decide⟩ ?_
            refine G_iload_n dX1_take_79 rfl ?_
            refine G_cVv (ci := 1) dX1_take_80 rfl (by decide) rfl (c_X1_fail l (d + 6) nu v 1 a) mcX1_55 rfl rfl (by show _ ≤ d + 7; omega) rfl rfl (Nat.le_refl _) (Nat.le_refl _) ?_
            have hP2 : TKP t a e v (up (up v 3 5 1) 3 6 a) := Or.inr (Or.inr (Or.inr ⟨by (first | (exact fun g => hL g.1) | (exact fun g => h12 g.2)), by (first | (exact fun g => hDd g.1) | (exact fun g => h38 g.2) | (exact fun g => hnD g.1)), by (first | (exact fun g => h59 g.1) | (exact fun g => h66 g.2) | (intro g; unfold isD at *; omega)), rfl⟩))
            exact G_vret dX1_take_83 rfl rfl rfl ⟨rfl, rfl, hP2⟩
          · refine G_aload_n dX1_take_69 rfl ?_
            refine G_iconst (n := 0) dX1_take_70 ⟨by decide, by decide⟩ ?_
            refine G_putI (jj := 2) dX1_take_71 flX1_52 rfl rfl rfl rfl ?_
            have hP2 : TKP t a e v (up v 3 2 0) := Or.inr (Or.inr (Or.inl ⟨h59, h66, rfl⟩))
            refine G_goto 83 dX1_take_74 (by decide) ?_
            exact G_vret dX1_take_83 rfl rfl rfl ⟨rfl, rfl, hP2⟩
      · refine G_aload_n dX1_take_41 rfl ?_
        refine G_aload_n dX1_take_42 rfl ?_
        refine G_iload_n dX1_take_43 rfl ?_
        refine G_iload_n dX1_take_44 rfl ?_
        refine G_cVq (ci := 1) dX1_take_45 rfl (by decide) rfl (c_X1_takeNumber l (d + 2) nu v n t hn ht hb a e ⟨ha.1, by omega, ha.2.2⟩ (hc h38)) mcX1_92 rfl rfl (by show _ ≤ d + 7; omega) rfl rfl (Nat.le_refl _) (Nat.le_refl _) (fun r S2 w9 hq9 => ?_)
        obtain ⟨rfl, rfl, hP⟩ := hq9
        have hP2 : TKP t a e v w9 := Or.inr (Or.inl ⟨hDd, h38, hP⟩)
        refine G_goto 83 dX1_take_48 (by decide) ?_
        exact G_vret dX1_take_83 rfl rfl rfl ⟨rfl, rfl, hP2⟩
  · have hL : isL (t a) := by
      apply Classical.byContradiction
      intro g
      rw [if_neg (fun z => g z.2)] at h5
      exact h5 rfl
    have hnD : ¬ isD (t a) := fun g => by unfold isL isD at *; omega
    refine G_aload_n dX1_take_8 rfl ?_
    refine G_getI (jj := 2) dX1_take_9 flX1_52 rfl rfl rfl ?_
    refine G_if_ne 25 dX1_take_12 (by decide) (fun h12 => ?_) (fun h12 => ?_)
    · refine G_aload_n dX1_take_25 rfl ?_
      refine G_iload_n dX1_take_26 rfl ?_
      refine G_cVi (ci := 3) dX1_take_27 rfl (by decide) rfl (c_X3_isDigit l (d + 5) nu v n t hn ht hb a) mcX1_83 rfl rfl (by show _ ≤ d + 7; omega) rfl rfl (Nat.le_refl _) (Nat.le_refl _) ?_
      refine G_if_eq 51 dX1_take_30 (by decide) (fun h30 => ?_) (fun h30 => ?_)
      · have hDd : ¬ isD (t a) := fun g => by rw [if_pos ⟨⟨ha.1, by omega⟩, g⟩] at h30; omega
        refine G_aload_n dX1_take_51 rfl ?_
        refine G_iload_n dX1_take_52 rfl ?_
        refine G_cVi (ci := 3) dX1_take_53 rfl (by decide) rfl (c_X3_byteAt l (d + 6) nu v n t hn ht hb a) mcX1_95 rfl rfl (by show _ ≤ d + 7; omega) rfl rfl (Nat.le_refl _) (Nat.le_refl _) ?_
        rw [if_pos (show 0 ≤ a ∧ a < n by omega)]
        have hta := ht a
        refine G_bipush (n := 59) dX1_take_56 (by decide) ⟨by decide, by decide⟩ ?_
        refine G_icmp_ne 77 dX1_take_58 (by decide) (fun h58 => ?_) (fun h58 => ?_)
        · have h59 : t a ≠ 59 := fun g => h58 (by rw [if_pos (by omega)]; exact g)
          refine G_aload_n dX1_take_77 rfl ?_
          refine G_iconst (n := 1) dX1_take_78 ⟨by decide, by decide⟩ ?_
          refine G_iload_n dX1_take_79 rfl ?_
          refine G_cVv (ci := 1) dX1_take_80 rfl (by decide) rfl (c_X1_fail l (d + 6) nu v 1 a) mcX1_55 rfl rfl (by show _ ≤ d + 7; omega) rfl rfl (Nat.le_refl _) (Nat.le_refl _) ?_
          have hP2 : TKP t a e v (up (up v 3 5 1) 3 6 a) := Or.inr (Or.inr (Or.inr ⟨by (first | (exact fun g => hL g.1) | (exact fun g => h12 g.2)), by (first | (exact fun g => hDd g.1) | (exact fun g => h38 g.2) | (exact fun g => hnD g.1)), by (first | (exact fun g => h59 g.1) | (exact fun g => h66 g.2) | (intro g; unfold isD at *; omega)), rfl⟩))
          exact G_vret dX1_take_83 rfl rfl rfl ⟨rfl, rfl, hP2⟩
        · have h59 : t a = 59 := by
            by_cases g : t a < 128
            · rw [if_pos g] at h58; exact h58
            · rw [if_neg g] at h58; omega
          refine G_aload_n dX1_take_61 rfl ?_
          refine G_getI (jj := 2) dX1_take_62 flX1_52 rfl rfl rfl ?_
          refine G_iconst (n := 2) dX1_take_65 ⟨by decide, by decide⟩ ?_
          refine G_icmp_ne 77 dX1_take_66 (by decide) (fun h66 => ?_) (fun h66 => ?_)
          · refine G_aload_n dX1_take_77 rfl ?_
            refine G_iconst (n := 1) dX1_take_78 ⟨by decide, by decide⟩ ?_
            refine G_iload_n dX1_take_79 rfl ?_
            refine G_cVv (ci := 1) dX1_take_80 rfl (by decide) rfl (c_X1_fail l (d + 6) nu v 1 a) mcX1_55 rfl rfl (by show _ ≤ d + 7; omega) rfl rfl (Nat.le_refl _) (Nat.le_refl _) ?_
            have hP2 : TKP t a e v (up (up v 3 5 1) 3 6 a) := Or.inr (Or.inr (Or.inr ⟨by (first | (exact fun g => hL g.1) | (exact fun g => h12 g.2)), by (first | (exact fun g => hDd g.1) | (exact fun g => h38 g.2) | (exact fun g => hnD g.1)), by (first | (exact fun g => h59 g.1) | (exact fun g => h66 g.2) | (intro g; unfold isD at *; omega)), rfl⟩))
            exact G_vret dX1_take_83 rfl rfl rfl ⟨rfl, rfl, hP2⟩
          · refine G_aload_n dX1_take_69 rfl ?_
            refine G_iconst (n := 0) dX1_take_70 ⟨by decide, by decide⟩ ?_
            refine G_putI (jj := 2) dX1_take_71 flX1_52 rfl rfl rfl rfl ?_
            have hP2 : TKP t a e v (up v 3 2 0) := Or.inr (Or.inr (Or.inl ⟨h59, h66, rfl⟩))
            refine G_goto 83 dX1_take_74 (by decide) ?_
            exact G_vret dX1_take_83 rfl rfl rfl ⟨rfl, rfl, hP2⟩
      · have hDd : isD (t a) := by
          apply Classical.byContradiction
          intro g
          rw [if_neg (fun z => g z.2)] at h30
          exact h30 rfl
        refine G_aload_n dX1_take_33 rfl ?_
        refine G_getI (jj := 2) dX1_take_34 flX1_52 rfl rfl rfl ?_
        refine G_iconst (n := 1) dX1_take_37 ⟨by decide, by decide⟩ ?_
        refine G_icmp_ne 51 dX1_take_38 (by decide) (fun h38 => ?_) (fun h38 => ?_)
        · refine G_aload_n dX1_take_51 rfl ?_
          refine G_iload_n dX1_take_52 rfl ?_
          refine G_cVi (ci := 3) dX1_take_53 rfl (by decide) rfl (c_X3_byteAt l (d + 6) nu v n t hn ht hb a) mcX1_95 rfl rfl (by show _ ≤ d + 7; omega) rfl rfl (Nat.le_refl _) (Nat.le_refl _) ?_
          rw [if_pos (show 0 ≤ a ∧ a < n by omega)]
          have hta := ht a
          refine G_bipush (n := 59) dX1_take_56 (by decide) ⟨by decide, by decide⟩ ?_
          refine G_icmp_ne 77 dX1_take_58 (by decide) (fun h58 => ?_) (fun h58 => ?_)
          · have h59 : t a ≠ 59 := fun g => h58 (by rw [if_pos (by omega)]; exact g)
            refine G_aload_n dX1_take_77 rfl ?_
            refine G_iconst (n := 1) dX1_take_78 ⟨by decide, by decide⟩ ?_
            refine G_iload_n dX1_take_79 rfl ?_
            refine G_cVv (ci := 1) dX1_take_80 rfl (by decide) rfl (c_X1_fail l (d + 6) nu v 1 a) mcX1_55 rfl rfl (by show _ ≤ d + 7; omega) rfl rfl (Nat.le_refl _) (Nat.le_refl _) ?_
            have hP2 : TKP t a e v (up (up v 3 5 1) 3 6 a) := Or.inr (Or.inr (Or.inr ⟨by (first | (exact fun g => hL g.1) | (exact fun g => h12 g.2)), by (first | (exact fun g => hDd g.1) | (exact fun g => h38 g.2) | (exact fun g => hnD g.1)), by (first | (exact fun g => h59 g.1) | (exact fun g => h66 g.2) | (intro g; unfold isD at *; omega)), rfl⟩))
            exact G_vret dX1_take_83 rfl rfl rfl ⟨rfl, rfl, hP2⟩
          · have h59 : t a = 59 := by
              by_cases g : t a < 128
              · rw [if_pos g] at h58; exact h58
              · rw [if_neg g] at h58; omega
            refine G_aload_n dX1_take_61 rfl ?_
            refine G_getI (jj := 2) dX1_take_62 flX1_52 rfl rfl rfl ?_
            refine G_iconst (n := 2) dX1_take_65 ⟨by decide, by decide⟩ ?_
            refine G_icmp_ne 77 dX1_take_66 (by decide) (fun h66 => ?_) (fun h66 => ?_)
            · refine G_aload_n dX1_take_77 rfl ?_
              refine G_iconst (n := 1) dX1_take_78 ⟨by decide, by decide⟩ ?_
              refine G_iload_n dX1_take_79 rfl ?_
              refine G_cVv (ci := 1) dX1_take_80 rfl (by decide) rfl (c_X1_fail l (d + 6) nu v 1 a) mcX1_55 rfl rfl (by show _ ≤ d + 7; omega) rfl rfl (Nat.le_refl _) (Nat.le_refl _) ?_
              have hP2 : TKP t a e v (up (up v 3 5 1) 3 6 a) := Or.inr (Or.inr (Or.inr ⟨by (first | (exact fun g => hL g.1) | (exact fun g => h12 g.2)), by (first | (exact fun g => hDd g.1) | (exact fun g => h38 g.2) | (exact fun g => hnD g.1)), by (first | (exact fun g => h59 g.1) | (exact fun g => h66 g.2) | (intro g; unfold isD at *; omega)), rfl⟩))
              exact G_vret dX1_take_83 rfl rfl rfl ⟨rfl, rfl, hP2⟩
            · refine G_aload_n dX1_take_69 rfl ?_
              refine G_iconst (n := 0) dX1_take_70 ⟨by decide, by decide⟩ ?_
              refine G_putI (jj := 2) dX1_take_71 flX1_52 rfl rfl rfl rfl ?_
              have hP2 : TKP t a e v (up v 3 2 0) := Or.inr (Or.inr (Or.inl ⟨h59, h66, rfl⟩))
              refine G_goto 83 dX1_take_74 (by decide) ?_
              exact G_vret dX1_take_83 rfl rfl rfl ⟨rfl, rfl, hP2⟩
        · refine G_aload_n dX1_take_41 rfl ?_
          refine G_aload_n dX1_take_42 rfl ?_
          refine G_iload_n dX1_take_43 rfl ?_
          refine G_iload_n dX1_take_44 rfl ?_
          refine G_cVq (ci := 1) dX1_take_45 rfl (by decide) rfl (c_X1_takeNumber l (d + 2) nu v n t hn ht hb a e ⟨ha.1, by omega, ha.2.2⟩ (hc h38)) mcX1_92 rfl rfl (by show _ ≤ d + 7; omega) rfl rfl (Nat.le_refl _) (Nat.le_refl _) (fun r S2 w9 hq9 => ?_)
          obtain ⟨rfl, rfl, hP⟩ := hq9
          have hP2 : TKP t a e v w9 := Or.inr (Or.inl ⟨hDd, h38, hP⟩)
          refine G_goto 83 dX1_take_48 (by decide) ?_
          exact G_vret dX1_take_83 rfl rfl rfl ⟨rfl, rfl, hP2⟩
    · refine G_aload_n dX1_take_15 rfl ?_
      refine G_aload_n dX1_take_16 rfl ?_
      refine G_iload_n dX1_take_17 rfl ?_
      refine G_iload_n dX1_take_18 rfl ?_
      refine G_cVq (ci := 1) dX1_take_19 rfl (by decide) rfl (c_X1_takeWord l (d + 0) nu v n t hn ht hb a e ⟨ha.1, by omega, ha.2.2⟩) mcX1_89 rfl rfl (by show _ ≤ d + 7; omega) rfl rfl (Nat.le_refl _) (Nat.le_refl _) (fun r S2 w9 hq9 => ?_)
      obtain ⟨rfl, rfl, hP⟩ := hq9
      have hP2 : TKP t a e v w9 := Or.inl ⟨hL, h12, hP⟩
      refine G_goto 83 dX1_take_22 (by decide) ?_
      exact G_vret dX1_take_83 rfl rfl rfl ⟨rfl, rfl, hP2⟩
set_option maxRecDepth 20000 in
set_option maxHeartbeats 1000000 in
theorem c_X1_begin (l : Launch) (d nu : Nat) (v : VV)  : Ct l yX1_begin cX1_begin none 1 (d + 1) 0 0 [ar (some 3)] (SG nu) v (rV (SG nu) (up (up (up (up (up (cpX v 5 xUs) 3 2 0) 3 3 0) 3 4 0) 3 5 0) 3 6 0)) := by
  refine Ct_of_G [some (ar (some 3))] (by decide) rfl rfl ?_
  refine G_getsT (e := 1) dX1_begin_0 (by decide) (show Cond.fieldLink RX1 18 RX1 (nT 1) "[I" ∈ lw_good by decide +kernel) ?_
  refine G_iconst (n := 0) dX1_begin_3 ⟨by decide, by decide⟩ ?_
  refine G_aload_n dX1_begin_4 rfl ?_
  refine G_getR (jj := 1) dX1_begin_5 flX1_15 rfl rfl rfl ?_
  refine G_iconst (n := 0) dX1_begin_8 ⟨by decide, by decide⟩ ?_
  refine G_bipush (n := 9) dX1_begin_9 (by decide) ⟨by decide, by decide⟩ ?_
  refine G_cpyX dX1_begin_11 ac_62 rfl (by show 1 ≤ d + 1; omega) rfl ?_
  refine G_aload_n dX1_begin_14 rfl ?_
  refine G_iconst (n := 0) dX1_begin_15 ⟨by decide, by decide⟩ ?_
  refine G_putI (jj := 2) dX1_begin_16 flX1_52 rfl rfl rfl rfl ?_
  refine G_aload_n dX1_begin_19 rfl ?_
  refine G_iconst (n := 0) dX1_begin_20 ⟨by decide, by decide⟩ ?_
  refine G_putI (jj := 3) dX1_begin_21 flX1_77 rfl rfl rfl rfl ?_
  refine G_aload_n dX1_begin_24 rfl ?_
  refine G_iconst (n := 0) dX1_begin_25 ⟨by decide, by decide⟩ ?_
  refine G_putI (jj := 4) dX1_begin_26 flX1_68 rfl rfl rfl rfl ?_
  refine G_aload_n dX1_begin_29 rfl ?_
  refine G_iconst (n := 0) dX1_begin_30 ⟨by decide, by decide⟩ ?_
  refine G_putI (jj := 5) dX1_begin_31 flX1_21 rfl rfl rfl rfl ?_
  refine G_aload_n dX1_begin_34 rfl ?_
  refine G_iconst (n := 0) dX1_begin_35 ⟨by decide, by decide⟩ ?_
  refine G_putI (jj := 6) dX1_begin_36 flX1_59 rfl rfl rfl rfl ?_
  exact G_vret dX1_begin_39 rfl rfl rfl ⟨rfl, rfl, rfl⟩
