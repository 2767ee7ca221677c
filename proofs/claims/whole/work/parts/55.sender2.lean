/-- shiftParts, on the way -/
def SPI (m n : Nat) (v : VV) (k x j : Int) (w : VV) : Prop := fr [21, 22, 23] v w ∧ ∀ c : Int, 0 ≤ c → c < ((m + n : Nat) : Int) → w 23 c = (if v 26 c = 0 ∧ c < j then v 23 c - x else v 23 c) ∧ w 22 c = (if v 26 c ≠ 0 ∧ c < j then v 22 c - x else v 22 c) ∧ w 21 c = v 21 c + (if c = k ∨ (v 19 c ≠ -1 ∧ v 26 (v 19 c) ≠ 0 ∧ v 19 c < j) then x else 0)
def SPM (m n : Nat) (v : VV) (k : Int) : Prop := (∀ c : Int, 0 ≤ c → c < ((m + n : Nat) : Int) → v 26 c ≠ 0 → (0 ≤ v 20 c ∧ v 20 c < ((m + n : Nat) : Int)) ∧ v 20 c ≠ k ∧ v 19 (v 20 c) = c) ∧ ∀ i : Int, 0 ≤ i → i < ((m + n : Nat) : Int) → v 19 i = -1 ∨ ((0 ≤ v 19 i ∧ v 19 i < ((m + n : Nat) : Int)) ∧ v 20 (v 19 i) = i)
theorem SPI_un {m n : Nat} {v w : VV} {k x j : Int} (h : SPI m n v k x j w) (j0 : 0 ≤ j) (j1 : j < ((m + n : Nat) : Int)) (hj : v 26 j = 0) : SPI m n v k x (j + 1) (up w 23 j (w 23 j - x)) := by
  refine ⟨fr_up h.1 (by decide) _ _, fun c c0 c1 => ?_⟩
  obtain ⟨e1, e2, e3⟩ := h.2 c c0 c1
  rw [up_c (show 22 ≠ 23 by decide), up_c (show 21 ≠ 23 by decide), e2, e3]
  refine ⟨?_, ?_, ?_⟩
  · by_cases y : c = j
    · subst y
      rw [up_self, e1, if_neg (by omega), if_pos ⟨hj, by omega⟩]
    · rw [up_nj y, e1]
      by_cases z : v 26 c = 0 ∧ c < j
      · rw [if_pos z, if_pos ⟨z.1, by omega⟩]
      · rw [if_neg z, if_neg (fun t => z ⟨t.1, by omega⟩)]
  · by_cases z : v 26 c ≠ 0 ∧ c < j
    · rw [if_pos z, if_pos ⟨z.1, by omega⟩]
    · rw [if_neg z, if_neg (fun t => z ⟨t.1, by
        have : c ≠ j := fun e => t.1 (by rw [e]; exact hj)
        omega⟩)]
  · by_cases z : c = k ∨ (v 19 c ≠ -1 ∧ v 26 (v 19 c) ≠ 0 ∧ v 19 c < j)
    · rw [if_pos z, if_pos (z.imp id (fun t => ⟨t.1, t.2.1, by omega⟩))]
    · rw [if_neg z, if_neg (fun t => z (t.imp id (fun t => ⟨t.1, t.2.1, by
        have : v 19 c ≠ j := fun e => t.2.1 (by rw [e]; exact hj)
        omega⟩)))]
theorem SPI_se {m n : Nat} {v w : VV} {k x j : Int} (h : SPI m n v k x j w) (hM : SPM m n v k) (j0 : 0 ≤ j) (j1 : j < ((m + n : Nat) : Int)) (hj : v 26 j ≠ 0) : SPI m n v k x (j + 1) (up (up w 21 (v 20 j) (w 21 (v 20 j) + x)) 22 j (up w 21 (v 20 j) (w 21 (v 20 j) + x) 22 j - x)) := by
  refine ⟨fr_up (fr_up h.1 (by decide) _ _) (by decide) _ _, fun c c0 c1 => ?_⟩
  obtain ⟨e1, e2, e3⟩ := h.2 c c0 c1
  obtain ⟨m1, m2, m3⟩ := hM.1 j j0 j1 hj
  rw [up_c (show 23 ≠ 22 by decide), up_c (show 23 ≠ 21 by decide), e1, up_c (show 21 ≠ 22 by decide)]
  refine ⟨?_, ?_, ?_⟩
  · by_cases z : v 26 c = 0 ∧ c < j
    · rw [if_pos z, if_pos ⟨z.1, by omega⟩]
    · rw [if_neg z, if_neg (fun t => z ⟨t.1, by
        have : c ≠ j := fun e => hj (by rw [← e]; exact t.1)
        omega⟩)]
  · by_cases y : c = j
    · subst y
      rw [up_self, up_c (show 22 ≠ 21 by decide), e2, if_neg (by omega), if_pos ⟨hj, by omega⟩]
    · rw [up_nj y, up_c (show 22 ≠ 21 by decide), e2]
      by_cases z : v 26 c ≠ 0 ∧ c < j
      · rw [if_pos z, if_pos ⟨z.1, by omega⟩]
      · rw [if_neg z, if_neg (fun t => z ⟨t.1, by omega⟩)]
  · by_cases y : c = v 20 j
    · rw [y, up_self]
      obtain ⟨-, -, e3'⟩ := h.2 (v 20 j) m1.1 m1.2
      rw [e3', if_neg, if_pos]
      · omega
      · exact Or.inr (by rw [m3]; exact ⟨by omega, hj, by omega⟩)
      · rintro (t | t)
        · exact m2 t
        · rw [m3] at t; omega
    · rw [up_nj y, e3]
      by_cases z : c = k ∨ (v 19 c ≠ -1 ∧ v 26 (v 19 c) ≠ 0 ∧ v 19 c < j)
      · rw [if_pos z, if_pos (z.imp id (fun t => ⟨t.1, t.2.1, by omega⟩))]
      · rw [if_neg z, if_neg (fun t => z (t.imp id (fun t => ⟨t.1, t.2.1, by
          have : v 19 c ≠ j := fun e => by
            rcases hM.2 c c0 c1 with u | u
            · exact t.1 u
            · rw [e] at u; exact y u.2.symm
          omega⟩)))]
theorem SPI_bd {m n : Nat} {v w : VV} {k x j : Int} (h : SPI m n v k x j w) (hx : 0 ≤ x) {c : Int} (c0 : 0 ≤ c) (c1 : c < ((m + n : Nat) : Int)) : (v 21 c ≤ w 21 c ∧ w 21 c ≤ v 21 c + x) ∧ (v 22 c - x ≤ w 22 c ∧ w 22 c ≤ v 22 c) ∧ (v 23 c - x ≤ w 23 c ∧ w 23 c ≤ v 23 c) := by
  obtain ⟨e1, e2, e3⟩ := h.2 c c0 c1
  rw [e1, e2, e3]
  refine ⟨?_, ?_, ?_⟩ <;> split <;> omega
def SPP (m n : Nat) (v : VV) (k x : Int) (w : VV) : Prop := fr [21, 22, 23] v w ∧ ∀ c : Int, 0 ≤ c → c < ((m + n : Nat) : Int) → w 23 c = (if v 26 c = 0 then v 23 c - x else v 23 c) ∧ w 22 c = (if v 26 c ≠ 0 then v 22 c - x else v 22 c) ∧ w 21 c = v 21 c + (if c = k ∨ (v 19 c ≠ -1 ∧ v 26 (v 19 c) ≠ 0) then x else 0)
theorem SPI_end {m n : Nat} {v w : VV} {k x : Int} (hM : SPM m n v k) (h : SPI m n v k x ((m + n : Nat) : Int) w) : SPP m n v k x w := by
  refine ⟨h.1, fun c c0 c1 => ?_⟩
  obtain ⟨e1, e2, e3⟩ := h.2 c c0 c1
  rw [e1, e2, e3]
  refine ⟨?_, ?_, ?_⟩
  · by_cases z : v 26 c = 0
    · rw [if_pos ⟨z, c1⟩, if_pos z]
    · rw [if_neg (fun t => z t.1), if_neg z]
  · by_cases z : v 26 c ≠ 0
    · rw [if_pos ⟨z, c1⟩, if_pos z]
    · rw [if_neg (fun t => z t.1), if_neg z]
  · by_cases z : c = k ∨ (v 19 c ≠ -1 ∧ v 26 (v 19 c) ≠ 0)
    · rw [if_pos z, if_pos]
      rcases z with z | z
      · exact Or.inl z
      · refine Or.inr ⟨z.1, z.2, ?_⟩
        rcases hM.2 c c0 c1 with u | u
        · exact absurd u z.1
        · exact u.1.2
    · rw [if_neg z, if_neg (fun t => z (t.imp id (fun t => ⟨t.1, t.2.1⟩)))]
theorem SPP_0 {m n : Nat} {v : VV} {k : Int} : SPP m n v k 0 v := ⟨fr_rf, fun c c0 c1 => ⟨by split <;> omega, by split <;> omega, by split <;> omega⟩⟩
set_option maxRecDepth 20000 in
set_option maxHeartbeats 1000000 in
theorem c_X2_shiftParts (l : Launch) (d nu : Nat) (v : VV) (m n : Nat) (hD : SD m n v) (k x : Int) (hk : 0 ≤ k ∧ k < ((m + n : Nat) : Int)) (hx : 0 ≤ x ∧ x ≤ 10000000) (hM : SPM m n v k) (hB : ∀ c : Int, 0 ≤ c → c < ((m + n : Nat) : Int) → (-300000000 ≤ v 21 c ∧ v 21 c ≤ 300000000) ∧ (-300000000 ≤ v 22 c ∧ v 22 c ≤ 300000000) ∧ (0 ≤ v 23 c ∧ v 23 c ≤ 1000000000)) : Ct l yX2_shiftParts cX2_shiftParts none 4 (d + 0) 0 0 [ar (some 17), ai k, ai x] (SG nu) v (fun r S2 w => r = none ∧ S2 = SG nu ∧ SPP m n v k x w) := by
  refine Ct_of_G [some (ar (some 17)), some (ai k), some (ai x), none] (by decide) rfl rfl ?_
  obtain ⟨d9, d10, d11, hm, hn⟩ := id hD
  have loop : ∀ (N : Nat) (j : Int) (w : VV), 0 ≤ j → j + N = ((m + n : Nat) : Int) → SPI m n v k x j w → G l (yX2_shiftParts, cX2_shiftParts, none, 4, (d + 0), 0, 0, none) (fun r S2 w => r = none ∧ S2 = SG nu ∧ SPP m n v k x w) 0 0 (SG nu) 17 [some (ar (some 17)), some (ai k), some (ai x), some (ai j)] [] w := by
    intro N
    induction N using Nat.strongRecOn with
    | ind N ih =>
    intro j w h0 h1 hI
    have hf := hI.1
    have d11w : w 17 11 = ((m + n : Nat) : Int) := by rw [hf 17 (by decide)]; exact d11
    have e26 : w 26 j = v 26 j := by rw [hf 26 (by decide)]
    have e20 : w 20 j = v 20 j := by rw [hf 20 (by decide)]
    refine G_iload_n dX2_shiftParts_17 rfl ?_
    refine G_aload_n dX2_shiftParts_18 rfl ?_
    refine G_getIv (((m + n : Nat) : Int)) (jj := 11) dX2_shiftParts_19 flX2_56 rfl rfl rfl d11w ?_
    refine G_icmp_ge 88 dX2_shiftParts_22 (by decide) (fun h22 => ?_) (fun h22 => ?_)
    · exact G_vret dX2_shiftParts_88 rfl rfl rfl ⟨rfl, rfl, SPI_end hM (by rw [show ((m + n : Nat) : Int) = j from (by omega)]; exact hI)⟩
    · have bj := SPI_bd hI hx.1 h0 (by omega)
      have bv := hB j h0 (by omega)
      refine G_aload_n dX2_shiftParts_25 rfl ?_
      refine G_getR (jj := 8) dX2_shiftParts_26 flX2_36 rfl rfl rfl ?_
      refine G_iload_n dX2_shiftParts_29 rfl ?_
      refine G_zaldv (v 26 j) dX2_shiftParts_30 rfl (by omega) (by omega) e26 ?_
      refine G_if_ne 47 dX2_shiftParts_31 (by decide) (fun h31 => ?_) (fun h31 => ?_)
      · obtain ⟨m1, m2, m3⟩ := hM.1 j h0 (by omega) h31
        have bi := SPI_bd hI hx.1 m1.1 m1.2
        have bw := hB (v 20 j) m1.1 m1.2
        refine G_aload_n dX2_shiftParts_47 rfl ?_
        refine G_getR (jj := 2) dX2_shiftParts_48 flX2_18 rfl rfl rfl ?_
        refine G_iload_n dX2_shiftParts_51 rfl ?_
        refine G_ialdv (v 20 j) dX2_shiftParts_52 rfl (by omega) (by omega) e20 ?_
        refine G_iconst (n := (-1)) dX2_shiftParts_53 ⟨by decide, by decide⟩ ?_
        refine G_icmp_eq 82 dX2_shiftParts_54 (by decide) (fun h54 => by omega) (fun h54 => ?_)
        refine G_aload_n dX2_shiftParts_57 rfl ?_
        refine G_getR (jj := 3) dX2_shiftParts_58 flX2_21 rfl rfl rfl ?_
        refine G_aload_n dX2_shiftParts_61 rfl ?_
        refine G_getR (jj := 2) dX2_shiftParts_62 flX2_18 rfl rfl rfl ?_
        refine G_iload_n dX2_shiftParts_65 rfl ?_
        refine G_ialdv (v 20 j) dX2_shiftParts_66 rfl (by omega) (by omega) e20 ?_
        refine G_dup2 dX2_shiftParts_67 ?_
        refine G_iald dX2_shiftParts_68 rfl (by omega) (by omega) ?_
        refine G_iload_n dX2_shiftParts_69 rfl ?_
        refine G_iadd dX2_shiftParts_70 (iRm (by omega) (by omega)) ?_
        refine G_iast dX2_shiftParts_71 rfl (by omega) (by omega) ?_
        refine G_aload_n dX2_shiftParts_72 rfl ?_
        refine G_getR (jj := 4) dX2_shiftParts_73 flX2_24 rfl rfl rfl ?_
        refine G_iload_n dX2_shiftParts_76 rfl ?_
        refine G_dup2 dX2_shiftParts_77 ?_
        refine G_iald dX2_shiftParts_78 rfl (by omega) (by omega) ?_
        have b22 : up w 21 (v 20 j) (w 21 (v 20 j) + x) 22 j = w 22 j := by rw [up_c (show 22 ≠ 21 by decide)]
        refine G_iload_n dX2_shiftParts_79 rfl ?_
        refine G_isub dX2_shiftParts_80 (iRm (by omega) (by omega)) ?_
        refine G_iast dX2_shiftParts_81 rfl (by omega) (by omega) ?_
        refine G_iinc dX2_shiftParts_82 rfl (iRm (by omega) (by omega)) rfl rfl ?_
        refine G_goto 17 dX2_shiftParts_85 (by decide) ?_
        exact ih (N - 1) (by omega) (j + 1) _ (by omega) (by omega) (SPI_se hI hM h0 (by omega) h31)
      · refine G_aload_n dX2_shiftParts_34 rfl ?_
        refine G_getR (jj := 5) dX2_shiftParts_35 flX2_27 rfl rfl rfl ?_
        refine G_iload_n dX2_shiftParts_38 rfl ?_
        refine G_dup2 dX2_shiftParts_39 ?_
        refine G_iald dX2_shiftParts_40 rfl (by omega) (by omega) ?_
        refine G_iload_n dX2_shiftParts_41 rfl ?_
        refine G_isub dX2_shiftParts_42 (iRm (by omega) (by omega)) ?_
        refine G_iast dX2_shiftParts_43 rfl (by omega) (by omega) ?_
        refine G_goto 82 dX2_shiftParts_44 (by decide) ?_
        refine G_iinc dX2_shiftParts_82 rfl (iRm (by omega) (by omega)) rfl rfl ?_
        refine G_goto 17 dX2_shiftParts_85 (by decide) ?_
        exact ih (N - 1) (by omega) (j + 1) _ (by omega) (by omega) (SPI_un hI h0 (by omega) h31)
  refine G_iload_n dX2_shiftParts_0 rfl ?_
  refine G_if_ne 5 dX2_shiftParts_1 (by decide) (fun h1 => ?_) (fun h1 => ?_)
  · refine G_aload_n dX2_shiftParts_5 rfl ?_
    refine G_getR (jj := 3) dX2_shiftParts_6 flX2_21 rfl rfl rfl ?_
    refine G_iload_n dX2_shiftParts_9 rfl ?_
    refine G_dup2 dX2_shiftParts_10 ?_
    refine G_iald dX2_shiftParts_11 rfl (by omega) (by omega) ?_
    have hb21 := (hB k hk.1 hk.2).1
    refine G_iload_n dX2_shiftParts_12 rfl ?_
    refine G_iadd dX2_shiftParts_13 (iRm (by omega) (by omega)) ?_
    refine G_iast dX2_shiftParts_14 rfl (by omega) (by omega) ?_
    refine G_iconst (n := 0) dX2_shiftParts_15 ⟨by decide, by decide⟩ ?_
    refine G_istore_n dX2_shiftParts_16 rfl rfl ?_
    refine loop (m + n) 0 _ (by omega) (by omega) ⟨fr_up fr_rf (by decide) _ _, fun c c0 c1 => ⟨?_, ?_, ?_⟩⟩
    · rw [up_c (show 23 ≠ 21 by decide), if_neg (by omega)]
    · rw [up_c (show 22 ≠ 21 by decide), if_neg (by omega)]
    · by_cases y : c = k
      · rw [y, up_self, if_pos (Or.inl rfl)]
      · rw [up_nj y, if_neg]
        · omega
        · rintro (t | t)
          · exact y t
          · rcases hM.2 c c0 c1 with u | u
            · exact t.1 u
            · omega
  · obtain rfl : x = 0 := h1
    exact G_vret dX2_shiftParts_4 rfl rfl rfl ⟨rfl, rfl, SPP_0⟩
