/-! Sender: 17; 18 prices, 19 columnOf, 20 rowOf, 21 rowPart, 22 columnPart, 23 slack, 24 link, 25 queue, 26 seen -/
def SD (m n : Nat) (v : VV) : Prop := v 17 9 = m ∧ v 17 10 = n ∧ v 17 11 = ((m + n : Nat) : Int) ∧ m ≤ 16 ∧ n ≤ 20
def fr (ks : List Nat) (v w : VV) : Prop := ∀ k, k ∉ ks → w k = v k
theorem fr_up {ks : List Nat} {v w : VV} {k : Nat} (h : fr ks v w) (hk : k ∈ ks) (j x : Int) : fr ks v (up w k j x) := fun a ha => by
  have e : a ≠ k := fun e => ha (by rw [e]; exact hk)
  rw [up_ne e]
  exact h a ha
theorem fr_rf {ks : List Nat} {v : VV} : fr ks v v := fun _ _ => rfl
theorem fr_tr {ks js : List Nat} {a b c : VV} (h : fr ks a b) (h2 : fr js b c) (hs : ∀ k ∈ ks, k ∈ js) : fr js a c := fun k hk => (h2 k hk).trans (h k (fun z => hk (hs k z)))
theorem fr_sub {ks js : List Nat} {a b : VV} (h : fr ks a b) (hs : ∀ k ∈ ks, k ∈ js) : fr js a b := fun k hk => h k (fun z => hk (hs k z))
theorem SD.fr {m n : Nat} {ks : List Nat} {v w : VV} (h : SD m n v) (hf : fr ks v w) (hk : 17 ∉ ks) : SD m n w := by
  unfold SD
  rw [hf 17 hk]
  exact h
def PV (v : VV) (i c : Int) : Int := v 18 (20 * i + c)
def gv (m n : Nat) (v : VV) (i c : Int) : Int := cF m n (PV v) i c - v 21 i - v 22 c
def BP (v : VV) : Prop := ∀ x : Int, 0 ≤ x → x < 320 → 0 ≤ v 18 x ∧ v 18 x ≤ 10000000
def B4 (x : Int) : Prop := -400000000 ≤ x ∧ x ≤ 400000000
def BD (m n : Nat) (v : VV) : Prop := BP v ∧ ∀ i : Int, 0 ≤ i → i < ((m + n : Nat) : Int) → B4 (v 21 i) ∧ B4 (v 22 i)
theorem cF_bd {m n : Nat} {v : VV} (hD : SD m n v) (h : BP v) {i c : Int} (i0 : 0 ≤ i) (c0 : 0 ≤ c) : 0 ≤ cF m n (PV v) i c ∧ cF m n (PV v) i c ≤ 10000000 := by
  obtain ⟨-, -, -, hm, hn⟩ := hD
  unfold cF PV
  split
  · split
    · exact h _ (by omega) (by omega)
    · omega
  · omega
theorem gv_bd {m n : Nat} {v : VV} (hD : SD m n v) (h : BD m n v) {i c : Int} (i0 : 0 ≤ i) (i1 : i < ((m + n : Nat) : Int)) (c0 : 0 ≤ c) (c1 : c < ((m + n : Nat) : Int)) : -800000000 ≤ gv m n v i c ∧ gv m n v i c ≤ 810000000 := by
  have q1 := cF_bd hD h.1 i0 c0
  have q2 := (h.2 i i0 i1).1
  have q3 := (h.2 c c0 c1).2
  unfold B4 at q2 q3
  unfold gv
  omega
theorem gv_fr {m n : Nat} {ks : List Nat} {v w : VV} (hf : fr ks v w) (h18 : 18 ∉ ks) (h21 : 21 ∉ ks) (h22 : 22 ∉ ks) (i c : Int) : gv m n w i c = gv m n v i c := by
  unfold gv PV
  rw [hf 18 h18, hf 21 h21, hf 22 h22]
theorem BD.fr {m n : Nat} {ks : List Nat} {v w : VV} (h : BD m n v) (hf : fr ks v w) (h18 : 18 ∉ ks) (h21 : 21 ∉ ks) (h22 : 22 ∉ ks) : BD m n w := by
  unfold BD BP
  rw [hf 18 h18, hf 21 h21, hf 22 h22]
  exact h
set_option maxRecDepth 20000 in
set_option maxHeartbeats 1000000 in
theorem c_X2_pair (l : Launch) (d nu : Nat) (v : VV) (m n : Nat) (hD : SD m n v) (i c : Int) (hi : 0 ≤ i ∧ i < ((m + n : Nat) : Int)) (hc : 0 ≤ c ∧ c < ((m + n : Nat) : Int)) : Ct l yX2_pair cX2_pair none 3 (d + 0) 0 0 [ar (some 17), ai i, ai c] (SG nu) v (rV (SG nu) (up (up v 19 i c) 20 c i)) := by
  refine Ct_of_G [some (ar (some 17)), some (ai i), some (ai c)] (by decide) rfl rfl ?_
  obtain ⟨d9, d10, d11, hm, hn⟩ := id hD
  refine G_iload_n dX2_pair_0 rfl ?_
  refine G_if_lt 38 dX2_pair_1 (by decide) (fun h1 => by omega) (fun h1 => ?_)
  refine G_iload_n dX2_pair_4 rfl ?_
  refine G_aload_n dX2_pair_5 rfl ?_
  refine G_getIv (((m + n : Nat) : Int)) (jj := 11) dX2_pair_6 flX2_56 rfl rfl rfl d11 ?_
  refine G_icmp_ge 38 dX2_pair_9 (by decide) (fun h9 => by omega) (fun h9 => ?_)
  refine G_iload_n dX2_pair_12 rfl ?_
  refine G_if_lt 38 dX2_pair_13 (by decide) (fun h13 => by omega) (fun h13 => ?_)
  refine G_iload_n dX2_pair_16 rfl ?_
  refine G_aload_n dX2_pair_17 rfl ?_
  refine G_getIv (((m + n : Nat) : Int)) (jj := 11) dX2_pair_18 flX2_56 rfl rfl rfl d11 ?_
  refine G_icmp_ge 38 dX2_pair_21 (by decide) (fun h21 => by omega) (fun h21 => ?_)
  refine G_aload_n dX2_pair_24 rfl ?_
  refine G_getR (jj := 1) dX2_pair_25 flX2_15 rfl rfl rfl ?_
  refine G_iload_n dX2_pair_28 rfl ?_
  refine G_iload_n dX2_pair_29 rfl ?_
  refine G_iast dX2_pair_30 rfl (by omega) (by omega) ?_
  refine G_aload_n dX2_pair_31 rfl ?_
  refine G_getR (jj := 2) dX2_pair_32 flX2_18 rfl rfl rfl ?_
  refine G_iload_n dX2_pair_35 rfl ?_
  refine G_iload_n dX2_pair_36 rfl ?_
  refine G_iast dX2_pair_37 rfl (by omega) (by omega) ?_
  exact G_vret dX2_pair_38 rfl rfl rfl ⟨rfl, rfl, rfl⟩
set_option maxRecDepth 20000 in
set_option maxHeartbeats 1000000 in
theorem c_X2_gap (l : Launch) (d nu : Nat) (v : VV) (m n : Nat) (hD : SD m n v) (hB : BD m n v) (i c : Int) (hi : 0 ≤ i ∧ i < ((m + n : Nat) : Int)) (hc : 0 ≤ c ∧ c < ((m + n : Nat) : Int)) : Ct l yX2_gap cX2_gap (some .int) 4 (d + 0) 0 0 [ar (some 17), ai i, ai c] (SG nu) v (rI (SG nu) (gv m n v i c) v) := by
  refine Ct_of_G [some (ar (some 17)), some (ai i), some (ai c), none] (by decide) rfl rfl ?_
  obtain ⟨d9, d10, d11, hm, hn⟩ := id hD
  have h21 := (hB.2 i hi.1 hi.2).1
  have h22 := (hB.2 c hc.1 hc.2).2
  unfold B4 at h21 h22
  refine G_iconst (n := 0) dX2_gap_0 ⟨by decide, by decide⟩ ?_
  refine G_istore_n dX2_gap_1 rfl rfl ?_
  refine G_iload_n dX2_gap_2 rfl ?_
  refine G_aload_n dX2_gap_3 rfl ?_
  refine G_getIv ((m : Int)) (jj := 9) dX2_gap_4 flX2_49 rfl rfl rfl d9 ?_
  refine G_icmp_ge 35 dX2_gap_7 (by decide) (fun h7 => ?_) (fun h7 => ?_)
  · refine G_iload_n dX2_gap_35 rfl ?_
    refine G_aload_n dX2_gap_36 rfl ?_
    refine G_getR (jj := 3) dX2_gap_37 flX2_21 rfl rfl rfl ?_
    refine G_iload_n dX2_gap_40 rfl ?_
    refine G_iald dX2_gap_41 rfl (by omega) (by omega) ?_
    refine G_isub dX2_gap_42 (iRm (by omega) (by omega)) ?_
    refine G_aload_n dX2_gap_43 rfl ?_
    refine G_getR (jj := 4) dX2_gap_44 flX2_24 rfl rfl rfl ?_
    refine G_iload_n dX2_gap_47 rfl ?_
    refine G_iald dX2_gap_48 rfl (by omega) (by omega) ?_
    refine G_isub dX2_gap_49 (iRm (by omega) (by omega)) ?_
    exact G_iret dX2_gap_50 rfl rfl rfl ⟨by unfold gv cF; first | (rw [if_pos (by omega), if_pos (by omega)]) | (rw [if_pos (by omega), if_neg (by omega)]) | (rw [if_neg (by omega)]), rfl, rfl⟩
  · refine G_iload_n dX2_gap_10 rfl ?_
    refine G_aload_n dX2_gap_11 rfl ?_
    refine G_getIv ((n : Int)) (jj := 10) dX2_gap_12 flX2_53 rfl rfl rfl d10 ?_
    refine G_icmp_ge 32 dX2_gap_15 (by decide) (fun h15 => ?_) (fun h15 => ?_)
    · refine G_ldc (n := 100000) dX2_gap_32 (show Cond.constant RX2 71 (Int32.ofInt 100000) ∈ lw_good by decide +kernel) ⟨by decide, by decide⟩ ?_
      refine G_istore_n dX2_gap_34 rfl rfl ?_
      refine G_iload_n dX2_gap_35 rfl ?_
      refine G_aload_n dX2_gap_36 rfl ?_
      refine G_getR (jj := 3) dX2_gap_37 flX2_21 rfl rfl rfl ?_
      refine G_iload_n dX2_gap_40 rfl ?_
      refine G_iald dX2_gap_41 rfl (by omega) (by omega) ?_
      refine G_isub dX2_gap_42 (iRm (by omega) (by omega)) ?_
      refine G_aload_n dX2_gap_43 rfl ?_
      refine G_getR (jj := 4) dX2_gap_44 flX2_24 rfl rfl rfl ?_
      refine G_iload_n dX2_gap_47 rfl ?_
      refine G_iald dX2_gap_48 rfl (by omega) (by omega) ?_
      refine G_isub dX2_gap_49 (iRm (by omega) (by omega)) ?_
      exact G_iret dX2_gap_50 rfl rfl rfl ⟨by unfold gv cF; first | (rw [if_pos (by omega), if_pos (by omega)]) | (rw [if_pos (by omega), if_neg (by omega)]) | (rw [if_neg (by omega)]), rfl, rfl⟩
    · refine G_aload_n dX2_gap_18 rfl ?_
      refine G_getR (jj := 0) dX2_gap_19 flX2_9 rfl rfl rfl ?_
      refine G_iload_n dX2_gap_22 rfl ?_
      refine G_bipush (n := 20) dX2_gap_23 (by decide) ⟨by decide, by decide⟩ ?_
      refine G_imul dX2_gap_25 (iRm (by omega) (by omega)) ?_
      refine G_iload_n dX2_gap_26 rfl ?_
      refine G_iadd dX2_gap_27 (iRm (by omega) (by omega)) ?_
      refine G_ialdv (PV v i c) dX2_gap_28 rfl (by omega) (by omega) (by unfold PV; rw [Int.mul_comm 20 i]) ?_
      have hp := hB.1 (20 * i + c) (by omega) (by omega)
      rw [show v 18 (20 * i + c) = PV v i c from rfl] at hp
      refine G_goto 34 dX2_gap_29 (by decide) ?_
      refine G_istore_n dX2_gap_34 rfl rfl ?_
      refine G_iload_n dX2_gap_35 rfl ?_
      refine G_aload_n dX2_gap_36 rfl ?_
      refine G_getR (jj := 3) dX2_gap_37 flX2_21 rfl rfl rfl ?_
      refine G_iload_n dX2_gap_40 rfl ?_
      refine G_iald dX2_gap_41 rfl (by omega) (by omega) ?_
      refine G_isub dX2_gap_42 (iRm (by omega) (by omega)) ?_
      refine G_aload_n dX2_gap_43 rfl ?_
      refine G_getR (jj := 4) dX2_gap_44 flX2_24 rfl rfl rfl ?_
      refine G_iload_n dX2_gap_47 rfl ?_
      refine G_iald dX2_gap_48 rfl (by omega) (by omega) ?_
      refine G_isub dX2_gap_49 (iRm (by omega) (by omega)) ?_
      exact G_iret dX2_gap_50 rfl rfl rfl ⟨by unfold gv cF; first | (rw [if_pos (by omega), if_pos (by omega)]) | (rw [if_pos (by omega), if_neg (by omega)]) | (rw [if_neg (by omega)]), rfl, rfl⟩
set_option maxRecDepth 20000 in
set_option maxHeartbeats 1000000 in
theorem c_X2_forgetColumns (l : Launch) (d nu : Nat) (v : VV) (m n : Nat) (hD : SD m n v) : Ct l yX2_forgetColumns cX2_forgetColumns none 2 (d + 0) 0 0 [ar (some 17)] (SG nu) v (fun r S2 w => r = none ∧ S2 = SG nu ∧ fr [23, 24, 26] v w ∧ ∀ c : Int, 0 ≤ c → c < ((m + n : Nat) : Int) → w 26 c = 0 ∧ w 24 c = -1 ∧ w 23 c = 1000000000) := by
  refine Ct_of_G [some (ar (some 17)), none] (by decide) rfl rfl ?_
  obtain ⟨d9, d10, d11, hm, hn⟩ := id hD
  have loop : ∀ (N : Nat) (k : Int) (w : VV), 0 ≤ k → k + N = ((m + n : Nat) : Int) → fr [23, 24, 26] v w → (∀ c : Int, 0 ≤ c → c < k → w 26 c = 0 ∧ w 24 c = -1 ∧ w 23 c = 1000000000) → G l (yX2_forgetColumns, cX2_forgetColumns, none, 2, (d + 0), 0, 0, none) (fun r S2 w => r = none ∧ S2 = SG nu ∧ fr [23, 24, 26] v w ∧ ∀ c : Int, 0 ≤ c → c < ((m + n : Nat) : Int) → w 26 c = 0 ∧ w 24 c = -1 ∧ w 23 c = 1000000000) 0 0 (SG nu) 2 [some (ar (some 17)), some (ai k)] [] w := by
    intro N
    induction N using Nat.strongRecOn with
    | ind N ih =>
    intro k w h0 h1 hf hp
    have d11w : w 17 11 = ((m + n : Nat) : Int) := by rw [hf 17 (by decide)]; exact d11
    refine G_iload_n dX2_forgetColumns_2 rfl ?_
    refine G_aload_n dX2_forgetColumns_3 rfl ?_
    refine G_getIv (((m + n : Nat) : Int)) (jj := 11) dX2_forgetColumns_4 flX2_56 rfl rfl rfl d11w ?_
    refine G_icmp_ge 38 dX2_forgetColumns_7 (by decide) (fun h7 => ?_) (fun h7 => ?_)
    · exact G_vret dX2_forgetColumns_38 rfl rfl rfl ⟨rfl, rfl, hf, fun c c0 c1 => hp c c0 (by omega)⟩
    · refine G_aload_n dX2_forgetColumns_10 rfl ?_
      refine G_getR (jj := 8) dX2_forgetColumns_11 flX2_36 rfl rfl rfl ?_
      refine G_iload_n dX2_forgetColumns_14 rfl ?_
      refine G_iconst (n := 0) dX2_forgetColumns_15 ⟨by decide, by decide⟩ ?_
      refine G_zast dX2_forgetColumns_16 rfl (by omega) (by omega) (Or.inl rfl) ?_
      refine G_aload_n dX2_forgetColumns_17 rfl ?_
      refine G_getR (jj := 6) dX2_forgetColumns_18 flX2_30 rfl rfl rfl ?_
      refine G_iload_n dX2_forgetColumns_21 rfl ?_
      refine G_iconst (n := (-1)) dX2_forgetColumns_22 ⟨by decide, by decide⟩ ?_
      refine G_iast dX2_forgetColumns_23 rfl (by omega) (by omega) ?_
      refine G_aload_n dX2_forgetColumns_24 rfl ?_
      refine G_getR (jj := 5) dX2_forgetColumns_25 flX2_27 rfl rfl rfl ?_
      refine G_iload_n dX2_forgetColumns_28 rfl ?_
      refine G_ldc (n := 1000000000) dX2_forgetColumns_29 (show Cond.constant RX2 72 (Int32.ofInt 1000000000) ∈ lw_good by decide +kernel) ⟨by decide, by decide⟩ ?_
      refine G_iast dX2_forgetColumns_31 rfl (by omega) (by omega) ?_
      refine G_iinc dX2_forgetColumns_32 rfl (iRm (by omega) (by omega)) rfl rfl ?_
      refine G_goto 2 dX2_forgetColumns_35 (by decide) ?_
      exact ih (N - 1) (by omega) (k + 1) _ (by omega) (by omega) (fr_up (fr_up (fr_up hf (by decide) _ _) (by decide) _ _) (by decide) _ _) (fun c c0 c1 => by by_cases y : c = k; (subst y; simp [up_get]); (have := hp c c0 (by omega); simp [up_get, y]; exact this))
  refine G_iconst (n := 0) dX2_forgetColumns_0 ⟨by decide, by decide⟩ ?_
  refine G_istore_n dX2_forgetColumns_1 rfl rfl ?_
  exact loop (m + n) 0 v (by omega) (by omega) fr_rf (fun c c0 c1 => by omega)
def rS (m n : Nat) (v : VV) (i c : Int) : Int := if v 26 c = 0 ∧ gv m n v i c < v 23 c then gv m n v i c else v 23 c
def rK (m n : Nat) (v : VV) (i j c : Int) : Int := if v 26 c = 0 ∧ gv m n v i c < v 23 c then j else v 24 c
set_option maxRecDepth 20000 in
set_option maxHeartbeats 1000000 in
theorem c_X2_reach (l : Launch) (d nu : Nat) (v : VV) (m n : Nat) (hD : SD m n v) (hB : BD m n v) (i j : Int) (hi : 0 ≤ i ∧ i < ((m + n : Nat) : Int)) : Ct l yX2_reach cX2_reach none 5 (d + 1) 0 0 [ar (some 17), ai i, ai j] (SG nu) v (fun r S2 w => r = none ∧ S2 = SG nu ∧ fr [23, 24] v w ∧ ∀ c : Int, 0 ≤ c → c < ((m + n : Nat) : Int) → w 23 c = rS m n v i c ∧ w 24 c = rK m n v i j c) := by
  refine Ct_of_G [some (ar (some 17)), some (ai i), some (ai j), none, none] (by decide) rfl rfl ?_
  obtain ⟨d9, d10, d11, hm, hn⟩ := id hD
  have loop : ∀ (N : Nat) (k : Int) (w : VV) (Z4 : Option AV), 0 ≤ k → k + N = ((m + n : Nat) : Int) → fr [23, 24] v w → (∀ c : Int, 0 ≤ c → c < k → w 23 c = rS m n v i c ∧ w 24 c = rK m n v i j c) → (∀ c : Int, k ≤ c → w 23 c = v 23 c ∧ w 24 c = v 24 c) → G l (yX2_reach, cX2_reach, none, 5, (d + 1), 0, 0, none) (fun r S2 w => r = none ∧ S2 = SG nu ∧ fr [23, 24] v w ∧ ∀ c : Int, 0 ≤ c → c < ((m + n : Nat) : Int) → w 23 c = rS m n v i c ∧ w 24 c = rK m n v i j c) 0 0 (SG nu) 2 [some (ar (some 17)), some (ai i), some (ai j), some (ai k), Z4] [] w := by
    intro N
    induction N using Nat.strongRecOn with
    | ind N ih =>
    intro k w Z4 h0 h1 hf hp hq
    have d11w : w 17 11 = ((m + n : Nat) : Int) := by rw [hf 17 (by decide)]; exact d11
    have e26 : w 26 k = v 26 k := by rw [hf 26 (by decide)]
    refine G_iload_n dX2_reach_2 rfl ?_
    refine G_aload_n dX2_reach_3 rfl ?_
    refine G_getIv (((m + n : Nat) : Int)) (jj := 11) dX2_reach_4 flX2_56 rfl rfl rfl d11w ?_
    refine G_icmp_ge 59 dX2_reach_7 (by decide) (fun h7 => ?_) (fun h7 => ?_)
    · exact G_vret dX2_reach_59 rfl rfl rfl ⟨rfl, rfl, hf, fun c c0 c1 => hp c c0 (by omega)⟩
    · refine G_aload_n dX2_reach_10 rfl ?_
      refine G_getR (jj := 8) dX2_reach_11 flX2_36 rfl rfl rfl ?_
      refine G_iload_n dX2_reach_14 rfl ?_
      refine G_zald dX2_reach_15 rfl (by omega) (by omega) ?_
      refine G_if_ne 53 dX2_reach_16 (by decide) (fun h16 => ?_) (fun h16 => ?_)
      · refine G_iinc dX2_reach_53 rfl (iRm (by omega) (by omega)) rfl rfl ?_
        refine G_goto 2 dX2_reach_56 (by decide) ?_
        exact ih (N - 1) (by omega) (k + 1) _ _ (by omega) (by omega) hf (fun c c0 c1 => by by_cases y : c = k; (rw [y, (hq k (by omega)).1, (hq k (by omega)).2]; unfold rS rK; rw [if_neg (fun z => h16 (e26.trans z.1)), if_neg (fun z => h16 (e26.trans z.1))]; (first | done | exact ⟨rfl, rfl⟩)); (have := hp c c0 (by omega);  exact this)) (fun c c1 => by have := hq c (by omega); have y : c ≠ k := (by omega);  exact this)
      · refine G_aload_n dX2_reach_19 rfl ?_
        refine G_iload_n dX2_reach_20 rfl ?_
        refine G_iload_n dX2_reach_21 rfl ?_
        refine G_cVi (ci := 2) dX2_reach_22 rfl (by decide) rfl (c_X2_gap l (d + 0) nu w m n (hD.fr hf (by decide)) (hB.fr hf (by decide) (by decide) (by decide)) i k hi ⟨by omega, by omega⟩) mcX2_89 rfl rfl (by show _ ≤ d + 1; omega) rfl rfl (Nat.le_refl _) (Nat.le_refl _) ?_
        rw [gv_fr hf (by decide) (by decide) (by decide)]
        refine G_istore dX2_reach_25 rfl rfl ?_
        refine G_iload dX2_reach_27 rfl ?_
        refine G_aload_n dX2_reach_29 rfl ?_
        refine G_getR (jj := 5) dX2_reach_30 flX2_27 rfl rfl rfl ?_
        refine G_iload_n dX2_reach_33 rfl ?_
        refine G_iald dX2_reach_34 rfl (by omega) (by omega) ?_
        refine G_icmp_ge 53 dX2_reach_35 (by decide) (fun h35 => ?_) (fun h35 => ?_)
        · refine G_iinc dX2_reach_53 rfl (iRm (by omega) (by omega)) rfl rfl ?_
          refine G_goto 2 dX2_reach_56 (by decide) ?_
          exact ih (N - 1) (by omega) (k + 1) _ _ (by omega) (by omega) hf (fun c c0 c1 => by by_cases y : c = k; (rw [y, (hq k (by omega)).1, (hq k (by omega)).2]; unfold rS rK; rw [if_neg (fun z => by have := z.2; have := (hq k (by omega)).1; omega), if_neg (fun z => by have := z.2; have := (hq k (by omega)).1; omega)]; (first | done | exact ⟨rfl, rfl⟩)); (have := hp c c0 (by omega);  exact this)) (fun c c1 => by have := hq c (by omega); have y : c ≠ k := (by omega);  exact this)
        · refine G_aload_n dX2_reach_38 rfl ?_
          refine G_getR (jj := 5) dX2_reach_39 flX2_27 rfl rfl rfl ?_
          refine G_iload_n dX2_reach_42 rfl ?_
          refine G_iload dX2_reach_43 rfl ?_
          refine G_iast dX2_reach_45 rfl (by omega) (by omega) ?_
          refine G_aload_n dX2_reach_46 rfl ?_
          refine G_getR (jj := 6) dX2_reach_47 flX2_30 rfl rfl rfl ?_
          refine G_iload_n dX2_reach_50 rfl ?_
          refine G_iload_n dX2_reach_51 rfl ?_
          refine G_iast dX2_reach_52 rfl (by omega) (by omega) ?_
          refine G_iinc dX2_reach_53 rfl (iRm (by omega) (by omega)) rfl rfl ?_
          refine G_goto 2 dX2_reach_56 (by decide) ?_
          exact ih (N - 1) (by omega) (k + 1) _ _ (by omega) (by omega) (fr_up (fr_up hf (by decide) _ _) (by decide) _ _) (fun c c0 c1 => by by_cases y : c = k; (subst y; unfold rS rK; rw [if_pos ⟨by omega, by have := (hq c (by omega)).1; omega⟩, if_pos ⟨by omega, by have := (hq c (by omega)).1; omega⟩]; simp [up_get]); (have := hp c c0 (by omega); simp [up_get, y]; exact this)) (fun c c1 => by have := hq c (by omega); have y : c ≠ k := (by omega); simp [up_get, y]; exact this)
  refine G_iconst (n := 0) dX2_reach_0 ⟨by decide, by decide⟩ ?_
  refine G_istore_n dX2_reach_1 rfl rfl ?_
  exact loop (m + n) 0 v none (by omega) (by omega) fr_rf (fun c c0 c1 => by omega) (fun c c1 => ⟨rfl, rfl⟩)
set_option maxRecDepth 20000 in
set_option maxHeartbeats 1000000 in
theorem c_X2_nearest (l : Launch) (d nu : Nat) (v : VV) (m n : Nat) (hD : SD m n v) : Ct l yX2_nearest cX2_nearest (some .int) 3 (d + 0) 0 0 [ar (some 17)] (SG nu) v (rE (SG nu) (fun b => (b = -1 ∧ ∀ c : Int, 0 ≤ c → c < ((m + n : Nat) : Int) → v 26 c ≠ 0) ∨ ((0 ≤ b ∧ b < ((m + n : Nat) : Int)) ∧ v 26 b = 0 ∧ ∀ c : Int, 0 ≤ c → c < ((m + n : Nat) : Int) → v 26 c = 0 → v 23 b ≤ v 23 c)) v) := by
  refine Ct_of_G [some (ar (some 17)), none, none] (by decide) rfl rfl ?_
  obtain ⟨d9, d10, d11, hm, hn⟩ := id hD
  have loop : ∀ (N : Nat) (k b : Int), 0 ≤ k → k + N = ((m + n : Nat) : Int) → ((b = -1 ∧ ∀ c : Int, 0 ≤ c → c < k → v 26 c ≠ 0) ∨ ((0 ≤ b ∧ b < k) ∧ v 26 b = 0 ∧ ∀ c : Int, 0 ≤ c → c < k → v 26 c = 0 → v 23 b ≤ v 23 c)) → G l (yX2_nearest, cX2_nearest, (some .int), 3, (d + 0), 0, 0, none) (rE (SG nu) (fun b => (b = -1 ∧ ∀ c : Int, 0 ≤ c → c < ((m + n : Nat) : Int) → v 26 c ≠ 0) ∨ ((0 ≤ b ∧ b < ((m + n : Nat) : Int)) ∧ v 26 b = 0 ∧ ∀ c : Int, 0 ≤ c → c < ((m + n : Nat) : Int) → v 26 c = 0 → v 23 b ≤ v 23 c)) v) 0 0 (SG nu) 4 [some (ar (some 17)), some (ai b), some (ai k)] [] v := by
    intro N
    induction N using Nat.strongRecOn with
    | ind N ih =>
    intro k b h0 h1 hI
    have hbk : b < 36 := by omega
    refine G_iload_n dX2_nearest_4 rfl ?_
    refine G_aload_n dX2_nearest_5 rfl ?_
    refine G_getIv (((m + n : Nat) : Int)) (jj := 11) dX2_nearest_6 flX2_56 rfl rfl rfl d11 ?_
    refine G_icmp_ge 49 dX2_nearest_9 (by decide) (fun h9 => ?_) (fun h9 => ?_)
    · refine G_iload_n dX2_nearest_49 rfl ?_
      exact G_iret dX2_nearest_50 rfl rfl rfl ⟨_, rfl, (by rw [show k = ((m + n : Nat) : Int) from (by omega)] at hI; exact hI), rfl, rfl⟩
    · refine G_aload_n dX2_nearest_12 rfl ?_
      refine G_getR (jj := 8) dX2_nearest_13 flX2_36 rfl rfl rfl ?_
      refine G_iload_n dX2_nearest_16 rfl ?_
      refine G_zald dX2_nearest_17 rfl (by omega) (by omega) ?_
      refine G_if_ne 43 dX2_nearest_18 (by decide) (fun h18 => ?_) (fun h18 => ?_)
      · refine G_iinc dX2_nearest_43 rfl (iRm (by omega) (by omega)) rfl rfl ?_
        refine G_goto 4 dX2_nearest_46 (by decide) ?_
        exact ih (N - 1) (by omega) (k + 1) _ (by omega) (by omega) (by rcases hI with ⟨y1, y2⟩ | ⟨y1, y2, y3⟩; exact Or.inl ⟨y1, fun c c0 c1 => by by_cases y : c = k; rw [y]; exact h18; exact y2 c c0 (by omega)⟩; exact Or.inr ⟨⟨y1.1, by omega⟩, y2, fun c c0 c1 c2 => by by_cases y : c = k; rw [y] at c2; exact absurd c2 h18; exact y3 c c0 (by omega) c2⟩)
      · refine G_iload_n dX2_nearest_21 rfl ?_
        refine G_iconst (n := (-1)) dX2_nearest_22 ⟨by decide, by decide⟩ ?_
        refine G_icmp_eq 41 dX2_nearest_23 (by decide) (fun h23 => ?_) (fun h23 => ?_)
        · refine G_iload_n dX2_nearest_41 rfl ?_
          refine G_istore_n dX2_nearest_42 rfl rfl ?_
          refine G_iinc dX2_nearest_43 rfl (iRm (by omega) (by omega)) rfl rfl ?_
          refine G_goto 4 dX2_nearest_46 (by decide) ?_
          exact ih (N - 1) (by omega) (k + 1) _ (by omega) (by omega) (Or.inr ⟨⟨h0, by omega⟩, by omega, fun c c0 c1 c2 => by by_cases y : c = k; (rw [y]; omega); (rcases hI with ⟨y1, y2⟩ | ⟨y1, y2, y3⟩; exact absurd c2 (y2 c c0 (by omega)); omega)⟩)
        · refine G_aload_n dX2_nearest_26 rfl ?_
          refine G_getR (jj := 5) dX2_nearest_27 flX2_27 rfl rfl rfl ?_
          refine G_iload_n dX2_nearest_30 rfl ?_
          refine G_iald dX2_nearest_31 rfl (by omega) (by omega) ?_
          refine G_aload_n dX2_nearest_32 rfl ?_
          refine G_getR (jj := 5) dX2_nearest_33 flX2_27 rfl rfl rfl ?_
          refine G_iload_n dX2_nearest_36 rfl ?_
          refine G_iald dX2_nearest_37 rfl (by rcases hI with ⟨y1, y2⟩ | ⟨y1, y2, y3⟩ <;> omega) (by omega) ?_
          refine G_icmp_ge 43 dX2_nearest_38 (by decide) (fun h38 => ?_) (fun h38 => ?_)
          · refine G_iinc dX2_nearest_43 rfl (iRm (by omega) (by omega)) rfl rfl ?_
            refine G_goto 4 dX2_nearest_46 (by decide) ?_
            exact ih (N - 1) (by omega) (k + 1) _ (by omega) (by omega) (by rcases hI with ⟨y1, y2⟩ | ⟨y1, y2, y3⟩; omega; exact Or.inr ⟨⟨y1.1, by omega⟩, y2, fun c c0 c1 c2 => by by_cases y : c = k; (rw [y]; omega); exact y3 c c0 (by omega) c2⟩)
          · refine G_iload_n dX2_nearest_41 rfl ?_
            refine G_istore_n dX2_nearest_42 rfl rfl ?_
            refine G_iinc dX2_nearest_43 rfl (iRm (by omega) (by omega)) rfl rfl ?_
            refine G_goto 4 dX2_nearest_46 (by decide) ?_
            exact ih (N - 1) (by omega) (k + 1) _ (by omega) (by omega) (Or.inr ⟨⟨h0, by omega⟩, by omega, fun c c0 c1 c2 => by by_cases y : c = k; (rw [y]; omega); (rcases hI with ⟨y1, y2⟩ | ⟨y1, y2, y3⟩; exact absurd c2 (y2 c c0 (by omega)); have := y3 c c0 (by omega) c2; omega)⟩)
  refine G_iconst (n := (-1)) dX2_nearest_0 ⟨by decide, by decide⟩ ?_
  refine G_istore_n dX2_nearest_1 rfl rfl ?_
  refine G_iconst (n := 0) dX2_nearest_2 ⟨by decide, by decide⟩ ?_
  refine G_istore_n dX2_nearest_3 rfl rfl ?_
  exact loop (m + n) 0 (-1) (by omega) (by omega) (Or.inl ⟨rfl, fun c c0 c1 => by omega⟩)
