/-! THE SIMULATION: the board's cells of v against the model's cells of z -/
def SC (nu : Nat) (v z : VV) : Prop := v 0 6 = nu ∧ v 0 7 = z 27 34 ∧ v 0 8 = z 27 35
def SU (nu : Nat) (v z : VV) : Prop := ∀ n : Nat, n < nu → v (59 + 3 * n) 0 = z 34 n ∧ v (59 + 3 * n) 1 = z 35 n ∧ v (59 + 3 * n) 2 = z 37 n ∧ v (59 + 3 * n) 3 = z 36 n ∧ v (59 + 3 * n) 5 = z 41 n ∧ v (59 + 3 * n) 6 = z 38 n ∧ v (59 + 3 * n) 7 = z 39 n ∧ v (59 + 3 * n) 8 = z 40 n
def SW (nu : Nat) (v z : VV) : Prop := ∀ n : Nat, n < nu → ∀ w : Int, 0 ≤ w → w ≤ 99 → v (60 + 3 * n) w = z 43 (100 * n + w) ∧ v (61 + 3 * n) w = z 42 (100 * n + w)
def SX (v z : VV) : Prop := ∀ g : Nat, (g : Int) < z 27 34 → v (8 + g) 0 = z 44 g ∧ v (8 + g) 1 = z 45 g ∧ v (8 + g) 2 = z 46 g ∧ v (8 + g) 3 = z 47 g
def INJ (z : VV) : Prop := ∀ s t : Int, 0 ≤ s → s < 2 * z 27 34 → 0 ≤ t → t < 2 * z 27 34 → z 48 s = z 48 t → z 48 s ≠ -1 → s = t
def SH (nu : Nat) (v z : VV) : Prop := (∀ s : Int, 0 ≤ s → s < 16 → v 16 s = if s < 2 * z 27 34 then z 48 s else -1) ∧ (∀ n : Nat, n < nu → v (59 + 3 * n) 4 = seatOfS z n) ∧ INJ z
def SR (v z : VV) : Prop := ∀ k : Int, 0 ≤ k → k < 9 → v 4 k = z 29 k
def ST (v z : VV) : Prop := v 3 5 = z 27 13 ∧ v 1 1 = z 27 2 ∧ (0 ≤ z 27 2 ∧ z 27 2 ≤ 180) ∧ (∀ i : Int, 0 ≤ z 28 i ∧ z 28 i ≤ 255) ∧ ∀ i : Int, 0 ≤ i → i < z 27 2 → v 2 i = if z 28 i < 128 then z 28 i else z 28 i - 256
/-- the bits of the MARKS given -/
def gvN (v : VV) : Nat := (Int32.ofInt (v 0 9)).toBitVec.toNat
def bitct (x : Nat) : Nat → Nat
  | 0 => 0
  | n + 1 => bitct x n + (if x.testBit n then 1 else 0)
def SK (v z : VV) : Prop := (∀ s : Int, 0 ≤ s → s < 2 * z 27 34 → (0 ≤ z 49 s ∧ z 49 s ≤ 3) ∧ ∀ c : Int, 0 ≤ c → c ≤ 1 → ((gvN v).testBit (2 * s + c).toNat = true ↔ bandI (shrI (z 49 s) c) 1 = 1)) ∧ (∀ i : Nat, 4 * z 27 34 ≤ i → (gvN v).testBit i = false) ∧ z 27 36 = bitct (gvN v) 32
def Simx (nu : Nat) (b : Int) (v z : VV) : Prop := MBx nu b z ∧ SC nu v z ∧ SU nu v z ∧ SW nu v z ∧ SX v z ∧ SH nu v z ∧ SR v z ∧ ST v z ∧ SK v z
def Sim (nu : Nat) (v z : VV) : Prop := Simx nu (z 27 35) v z
theorem seat_at {z : VV} (hi : INJ z) (hg : 0 ≤ z 27 34) {s u : Int} (h0 : 0 ≤ s) (h1 : s < 2 * z 27 34) (hu : u ≠ -1) (h : z 48 s = u) : seatOfS z u = s := by
  rcases seatOf_spec (v := z) u hg with ⟨-, h3⟩ | ⟨h3, h4, h5, -⟩
  · exact absurd h (h3 s h0 h1)
  · exact (hi s _ h0 h1 h3 h4 (h.trans h5.symm) (by rw [h]; exact hu)).symm
theorem seat_no {z : VV} (hg : 0 ≤ z 27 34) {u : Int} (h : ∀ s, 0 ≤ s → s < 2 * z 27 34 → z 48 s ≠ u) : seatOfS z u = -1 := by
  rcases seatOf_spec (v := z) u hg with ⟨h3, -⟩ | ⟨h3, h4, h5, -⟩
  · exact h3
  · exact absurd h5 (h _ h3 h4)
theorem bandI_0 (c : Int) : bandI 0 c = 0 := by
  unfold bandI
  rw [show (Int32.ofInt 0 &&& Int32.ofInt c) = 0 from by rw [show Int32.ofInt 0 = 0 from rfl, Int32.zero_and]]
  rfl
theorem cIn_z {nu : Nat} {v z : VV} (h : SW nu v z) {n : Nat} (hn : n < nu) {w : Int} (h0 : 0 ≤ w) (h1 : w ≤ 99) : cIn v n w = z 42 (100 * n + w) := by
  unfold cIn
  rw [if_pos ⟨h0, h1⟩]
  exact (h n hn w h0 h1).2
theorem row_iff {nu : Nat} {v z : VV} (h : Sim nu v z) {n : Nat} (hn : n < nu) : (z 29 0 ≤ z 27 35 ∧ ∀ j, z 27 35 - z 29 0 ≤ j → j < z 27 35 → cIn v n j ≠ 0) ↔ rowP z n := by
  have hw := h.1.2.2.1
  have hr := h.1.2.2.2.1.1
  constructor
  · rintro ⟨h1, h2⟩
    refine ⟨h1, fun r r0 r1 => ?_⟩
    have a := h2 (z 27 35 - 1 - r) (by omega) (by omega)
    rw [cIn_z h.2.2.2.1 hn (by omega) (by omega)] at a
    rw [show 100 * (n : Int) + z 27 35 - 1 - r = 100 * n + (z 27 35 - 1 - r) by omega]
    exact a
  · rintro ⟨h1, h2⟩
    refine ⟨h1, fun j j0 j1 => ?_⟩
    have a := h2 (z 27 35 - 1 - j) (by omega) (by omega)
    rw [cIn_z h.2.2.2.1 hn (by omega) (by omega)]
    rw [show 100 * (n : Int) + z 27 35 - 1 - (z 27 35 - 1 - j) = 100 * n + j by omega] at a
    exact a
theorem again_iff {nu : Nat} {v z : VV} (h : Sim nu v z) {n : Nat} (hn : n < nu) {s : Int} : (∃ j, z 27 35 - z 29 1 ≤ j ∧ j < z 27 35 ∧ bandI (cIn v n j) (z 46 (s / 2)) ≠ 0) ↔ againP z n s := by
  have hw := h.1.2.2.1
  have hr := h.1.2.2.2.1.2.1
  constructor
  · rintro ⟨j, h1, h2, h3⟩
    have h0 : 0 ≤ j := by
      by_cases q : j < 0
      · exfalso
        apply h3
        unfold cIn
        rw [if_neg (by omega), bandI_0]
      · omega
    rw [cIn_z h.2.2.2.1 hn h0 (by omega)] at h3
    refine ⟨z 27 35 - j, by omega, by omega, by omega, ?_⟩
    rw [show 100 * (n : Int) + z 27 35 - (z 27 35 - j) = 100 * n + j by omega]
    exact h3
  · rintro ⟨k, h1, h2, h3, h4⟩
    refine ⟨z 27 35 - k, by omega, by omega, ?_⟩
    rw [cIn_z h.2.2.2.1 hn (by omega) (by omega), show 100 * (n : Int) + (z 27 35 - k) = 100 * n + z 27 35 - k by omega]
    exact h4
/-- who sits there: nobody, or an UMPIRE's number -/
def hold (v : VV) (nu : Nat) (s : Int) : Option Nat := if (0 ≤ s ∧ s < 2 * v 0 7) ∧ (0 ≤ v 16 s ∧ v 16 s < nu) then some (59 + 3 * (v 16 s).toNat) else none
set_option maxRecDepth 20000 in
set_option maxHeartbeats 1000000 in
theorem c_X5_isPlace (l : Launch) (d nu : Nat) (v : VV) (x y : Int) : Ct l yX5_isPlace cX5_isPlace (some .boolean) 2 (d + 0) 0 0 [ai x, ai y] (SG nu) v (rI (SG nu) (if (0 ≤ x ∧ x ≤ 99) ∧ (0 ≤ y ∧ y ≤ 99) then 1 else 0) v) := by
  refine Ct_of_G [some (ai x), some (ai y)] (by decide) rfl rfl ?_
  refine G_iload_n dX5_isPlace_0 rfl ?_
  refine G_if_lt 24 dX5_isPlace_1 (by decide) (fun h1 => ?_) (fun h1 => ?_)
  · refine G_iconst (n := 0) dX5_isPlace_24 ⟨by decide, by decide⟩ ?_
    exact G_zret dX5_isPlace_25 rfl (by omega) rfl rfl ⟨by first | (rw [if_pos (by omega)]) | (rw [if_neg (by omega)]), rfl, rfl⟩
  · refine G_iload_n dX5_isPlace_4 rfl ?_
    refine G_bipush (n := 99) dX5_isPlace_5 (by decide) ⟨by decide, by decide⟩ ?_
    refine G_icmp_gt 24 dX5_isPlace_7 (by decide) (fun h7 => ?_) (fun h7 => ?_)
    · refine G_iconst (n := 0) dX5_isPlace_24 ⟨by decide, by decide⟩ ?_
      exact G_zret dX5_isPlace_25 rfl (by omega) rfl rfl ⟨by first | (rw [if_pos (by omega)]) | (rw [if_neg (by omega)]), rfl, rfl⟩
    · refine G_iload_n dX5_isPlace_10 rfl ?_
      refine G_if_lt 24 dX5_isPlace_11 (by decide) (fun h11 => ?_) (fun h11 => ?_)
      · refine G_iconst (n := 0) dX5_isPlace_24 ⟨by decide, by decide⟩ ?_
        exact G_zret dX5_isPlace_25 rfl (by omega) rfl rfl ⟨by first | (rw [if_pos (by omega)]) | (rw [if_neg (by omega)]), rfl, rfl⟩
      · refine G_iload_n dX5_isPlace_14 rfl ?_
        refine G_bipush (n := 99) dX5_isPlace_15 (by decide) ⟨by decide, by decide⟩ ?_
        refine G_icmp_gt 24 dX5_isPlace_17 (by decide) (fun h17 => ?_) (fun h17 => ?_)
        · refine G_iconst (n := 0) dX5_isPlace_24 ⟨by decide, by decide⟩ ?_
          exact G_zret dX5_isPlace_25 rfl (by omega) rfl rfl ⟨by first | (rw [if_pos (by omega)]) | (rw [if_neg (by omega)]), rfl, rfl⟩
        · refine G_iconst (n := 1) dX5_isPlace_20 ⟨by decide, by decide⟩ ?_
          refine G_goto 25 dX5_isPlace_21 (by decide) ?_
          exact G_zret dX5_isPlace_25 rfl (by omega) rfl rfl ⟨by first | (rw [if_pos (by omega)]) | (rw [if_neg (by omega)]), rfl, rfl⟩
set_option maxRecDepth 20000 in
set_option maxHeartbeats 1000000 in
theorem c_X5_isGrade (l : Launch) (d nu : Nat) (v : VV) (x : Int) : Ct l yX5_isGrade cX5_isGrade (some .boolean) 1 (d + 0) 0 0 [ai x] (SG nu) v (rI (SG nu) (if 1 ≤ x ∧ x ≤ 4 then 1 else 0) v) := by
  refine Ct_of_G [some (ai x)] (by decide) rfl rfl ?_
  refine G_iload_n dX5_isGrade_0 rfl ?_
  refine G_iconst (n := 1) dX5_isGrade_1 ⟨by decide, by decide⟩ ?_
  refine G_icmp_lt 14 dX5_isGrade_2 (by decide) (fun h2 => ?_) (fun h2 => ?_)
  · refine G_iconst (n := 0) dX5_isGrade_14 ⟨by decide, by decide⟩ ?_
    exact G_zret dX5_isGrade_15 rfl (by omega) rfl rfl ⟨by first | (rw [if_pos (by omega)]) | (rw [if_neg (by omega)]), rfl, rfl⟩
  · refine G_iload_n dX5_isGrade_5 rfl ?_
    refine G_iconst (n := 4) dX5_isGrade_6 ⟨by decide, by decide⟩ ?_
    refine G_icmp_gt 14 dX5_isGrade_7 (by decide) (fun h7 => ?_) (fun h7 => ?_)
    · refine G_iconst (n := 0) dX5_isGrade_14 ⟨by decide, by decide⟩ ?_
      exact G_zret dX5_isGrade_15 rfl (by omega) rfl rfl ⟨by first | (rw [if_pos (by omega)]) | (rw [if_neg (by omega)]), rfl, rfl⟩
    · refine G_iconst (n := 1) dX5_isGrade_10 ⟨by decide, by decide⟩ ?_
      refine G_goto 15 dX5_isGrade_11 (by decide) ?_
      exact G_zret dX5_isGrade_15 rfl (by omega) rfl rfl ⟨by first | (rw [if_pos (by omega)]) | (rw [if_neg (by omega)]), rfl, rfl⟩
set_option maxRecDepth 20000 in
set_option maxHeartbeats 1000000 in
theorem c_X5_isClub (l : Launch) (d nu : Nat) (v : VV) (x : Int) : Ct l yX5_isClub cX5_isClub (some .boolean) 1 (d + 0) 0 0 [ai x] (SG nu) v (rI (SG nu) (if 0 ≤ x ∧ x ≤ 11 then 1 else 0) v) := by
  refine Ct_of_G [some (ai x)] (by decide) rfl rfl ?_
  refine G_iload_n dX5_isClub_0 rfl ?_
  refine G_if_lt 14 dX5_isClub_1 (by decide) (fun h1 => ?_) (fun h1 => ?_)
  · refine G_iconst (n := 0) dX5_isClub_14 ⟨by decide, by decide⟩ ?_
    exact G_zret dX5_isClub_15 rfl (by omega) rfl rfl ⟨by first | (rw [if_pos (by omega)]) | (rw [if_neg (by omega)]), rfl, rfl⟩
  · refine G_iload_n dX5_isClub_4 rfl ?_
    refine G_bipush (n := 12) dX5_isClub_5 (by decide) ⟨by decide, by decide⟩ ?_
    refine G_icmp_ge 14 dX5_isClub_7 (by decide) (fun h7 => ?_) (fun h7 => ?_)
    · refine G_iconst (n := 0) dX5_isClub_14 ⟨by decide, by decide⟩ ?_
      exact G_zret dX5_isClub_15 rfl (by omega) rfl rfl ⟨by first | (rw [if_pos (by omega)]) | (rw [if_neg (by omega)]), rfl, rfl⟩
    · refine G_iconst (n := 1) dX5_isClub_10 ⟨by decide, by decide⟩ ?_
      refine G_goto 15 dX5_isClub_11 (by decide) ?_
      exact G_zret dX5_isClub_15 rfl (by omega) rfl rfl ⟨by first | (rw [if_pos (by omega)]) | (rw [if_neg (by omega)]), rfl, rfl⟩
set_option maxRecDepth 20000 in
set_option maxHeartbeats 1000000 in
theorem c_X5_isSeat (l : Launch) (d nu : Nat) (v : VV) (hg : 0 ≤ v 0 7 ∧ v 0 7 ≤ 8) (s : Int) : Ct l yX5_isSeat cX5_isSeat (some .boolean) 2 (d + 0) 0 0 [ar (some 0), ai s] (SG nu) v (rI (SG nu) (if 0 ≤ s ∧ s < 2 * v 0 7 then 1 else 0) v) := by
  refine Ct_of_G [some (ar (some 0)), some (ai s)] (by decide) rfl rfl ?_
  refine G_iload_n dX5_isSeat_0 rfl ?_
  refine G_if_lt 24 dX5_isSeat_1 (by decide) (fun h1 => ?_) (fun h1 => ?_)
  · refine G_iconst (n := 0) dX5_isSeat_24 ⟨by decide, by decide⟩ ?_
    exact G_zret dX5_isSeat_25 rfl (by omega) rfl rfl ⟨by first | (rw [if_pos (by omega)]) | (rw [if_neg (by omega)]), rfl, rfl⟩
  · refine G_iload_n dX5_isSeat_4 rfl ?_
    refine G_iconst (n := 2) dX5_isSeat_5 ⟨by decide, by decide⟩ ?_
    refine G_aload_n dX5_isSeat_6 rfl ?_
    refine G_getI (jj := 7) dX5_isSeat_7 flX5_101 rfl rfl rfl ?_
    refine G_imul dX5_isSeat_10 (iRm (by omega) (by omega)) ?_
    refine G_icmp_ge 24 dX5_isSeat_11 (by decide) (fun h11 => ?_) (fun h11 => ?_)
    · refine G_iconst (n := 0) dX5_isSeat_24 ⟨by decide, by decide⟩ ?_
      exact G_zret dX5_isSeat_25 rfl (by omega) rfl rfl ⟨by first | (rw [if_pos (by omega)]) | (rw [if_neg (by omega)]), rfl, rfl⟩
    · refine G_iload_n dX5_isSeat_14 rfl ?_
      refine G_bipush (n := 16) dX5_isSeat_15 (by decide) ⟨by decide, by decide⟩ ?_
      refine G_icmp_ge 24 dX5_isSeat_17 (by decide) (fun h17 => by omega) (fun h17 => ?_)
      refine G_iconst (n := 1) dX5_isSeat_20 ⟨by decide, by decide⟩ ?_
      refine G_goto 25 dX5_isSeat_21 (by decide) ?_
      exact G_zret dX5_isSeat_25 rfl (by omega) rfl rfl ⟨by first | (rw [if_pos (by omega)]) | (rw [if_neg (by omega)]), rfl, rfl⟩
set_option maxRecDepth 20000 in
set_option maxHeartbeats 1000000 in
theorem c_X5_umpireAt (l : Launch) (d nu : Nat) (v : VV) (hu : v 0 6 = nu ∧ nu ≤ 20) (u : Int) : Ct l yX5_umpireAt cX5_umpireAt (some (.object "WicketBoard$Umpire")) 2 (d + 0) 0 0 [ar (some 0), ai u] (SG nu) v (rA (SG nu) (if 0 ≤ u ∧ u < nu then some (59 + 3 * u.toNat) else none) v) := by
  refine Ct_of_G [some (ar (some 0)), some (ai u)] (by decide) rfl rfl ?_
  refine G_iload_n dX5_umpireAt_0 rfl ?_
  refine G_if_lt 27 dX5_umpireAt_1 (by decide) (fun h1 => ?_) (fun h1 => ?_)
  · refine G_null dX5_umpireAt_27 ?_
    exact G_aret dX5_umpireAt_28 rfl (Or.inl ⟨_, rfl⟩) rfl rfl ⟨by first | (rw [if_pos (by omega)]) | (rw [if_neg (by omega)]), rfl, rfl⟩
  · refine G_iload_n dX5_umpireAt_4 rfl ?_
    refine G_aload_n dX5_umpireAt_5 rfl ?_
    refine G_getI (jj := 6) dX5_umpireAt_6 flX5_73 rfl rfl rfl ?_
    refine G_icmp_ge 27 dX5_umpireAt_9 (by decide) (fun h9 => ?_) (fun h9 => ?_)
    · refine G_null dX5_umpireAt_27 ?_
      exact G_aret dX5_umpireAt_28 rfl (Or.inl ⟨_, rfl⟩) rfl rfl ⟨by first | (rw [if_pos (by omega)]) | (rw [if_neg (by omega)]), rfl, rfl⟩
    · refine G_iload_n dX5_umpireAt_12 rfl ?_
      refine G_bipush (n := 20) dX5_umpireAt_13 (by decide) ⟨by decide, by decide⟩ ?_
      refine G_icmp_ge 27 dX5_umpireAt_15 (by decide) (fun h15 => by omega) (fun h15 => ?_)
      refine G_aload_n dX5_umpireAt_18 rfl ?_
      refine G_getR (jj := 2) dX5_umpireAt_19 flX5_25 rfl rfl rfl ?_
      refine G_iload_n dX5_umpireAt_22 rfl ?_
      refine G_aaldv (some (59 + 3 * u.toNat)) dX5_umpireAt_23 rfl (by omega) (by omega) (Or.inl ⟨rfl, rfl⟩) (rf_ump (by omega) (by omega)) ?_
      refine G_goto 28 dX5_umpireAt_24 (by decide) ?_
      exact G_aret dX5_umpireAt_28 rfl (Or.inl ⟨_, rfl⟩) rfl rfl ⟨by first | (rw [if_pos (by omega)]) | (rw [if_neg (by omega)]), rfl, rfl⟩
set_option maxRecDepth 20000 in
set_option maxHeartbeats 1000000 in
theorem c_X5_holderOf (l : Launch) (d nu : Nat) (v : VV) (hu : v 0 6 = nu ∧ nu ≤ 20) (hg : 0 ≤ v 0 7 ∧ v 0 7 ≤ 8) (s : Int) : Ct l yX5_holderOf cX5_holderOf (some (.object "WicketBoard$Umpire")) 2 (d + 1) 0 0 [ar (some 0), ai s] (SG nu) v (rA (SG nu) (hold v nu s) v) := by
  refine Ct_of_G [some (ar (some 0)), some (ai s)] (by decide) rfl rfl ?_
  refine G_aload_n dX5_holderOf_0 rfl ?_
  refine G_iload_n dX5_holderOf_1 rfl ?_
  refine G_cVi (ci := 5) dX5_holderOf_2 rfl (by decide) rfl (c_X5_isSeat l (d + 0) nu v hg s) mcX5_150 rfl rfl (by show _ ≤ d + 1; omega) rfl rfl (Nat.le_refl _) (Nat.le_refl _) ?_
  refine G_if_eq 21 dX5_holderOf_5 (by decide) (fun h5 => ?_) (fun h5 => ?_)
  · refine G_null dX5_holderOf_21 ?_
    exact G_aret dX5_holderOf_22 rfl (Or.inl ⟨_, rfl⟩) rfl rfl ⟨by unfold hold; first | (rw [if_neg (by omega)]) | (simp [show 0 ≤ s ∧ s < 2 * v 0 7 by omega]), rfl, rfl⟩
  · refine G_aload_n dX5_holderOf_8 rfl ?_
    refine G_aload_n dX5_holderOf_9 rfl ?_
    refine G_getR (jj := 4) dX5_holderOf_10 flX5_36 rfl rfl rfl ?_
    refine G_iload_n dX5_holderOf_13 rfl ?_
    refine G_iald dX5_holderOf_14 rfl (by omega) (by omega) ?_
    refine G_cVa (ci := 5) dX5_holderOf_15 rfl (by decide) rfl (c_X5_umpireAt l (d + 0) nu v hu (v 16 s)) mcX5_87 rfl rfl (by show _ ≤ d + 1; omega) rfl rfl (Nat.le_refl _) (Nat.le_refl _) ?_
    refine G_goto 22 dX5_holderOf_18 (by decide) ?_
    exact G_aret dX5_holderOf_22 rfl (Or.inl ⟨_, rfl⟩) rfl rfl ⟨by unfold hold; first | (rw [if_neg (by omega)]) | (simp [show 0 ≤ s ∧ s < 2 * v 0 7 by omega]), rfl, rfl⟩
set_option maxRecDepth 20000 in
set_option maxHeartbeats 1000000 in
theorem c_X5_gameOf (l : Launch) (d nu : Nat) (v : VV) (hg : 0 ≤ v 0 7 ∧ v 0 7 ≤ 8) (s : Int) : Ct l yX5_gameOf cX5_gameOf (some (.object "WicketBoard$Game")) 2 (d + 1) 0 0 [ar (some 0), ai s] (SG nu) v (rA (SG nu) (if 0 ≤ s ∧ s < 2 * v 0 7 then some (8 + (s / 2).toNat) else none) v) := by
  refine Ct_of_G [some (ar (some 0)), some (ai s)] (by decide) rfl rfl ?_
  refine G_aload_n dX5_gameOf_0 rfl ?_
  refine G_iload_n dX5_gameOf_1 rfl ?_
  refine G_cVi (ci := 5) dX5_gameOf_2 rfl (by decide) rfl (c_X5_isSeat l (d + 0) nu v hg s) mcX5_150 rfl rfl (by show _ ≤ d + 1; omega) rfl rfl (Nat.le_refl _) (Nat.le_refl _) ?_
  refine G_if_eq 19 dX5_gameOf_5 (by decide) (fun h5 => ?_) (fun h5 => ?_)
  · refine G_null dX5_gameOf_19 ?_
    exact G_aret dX5_gameOf_20 rfl (Or.inl ⟨_, rfl⟩) rfl rfl ⟨by first | (rw [if_pos (by omega)]) | (rw [if_neg (by omega)]), rfl, rfl⟩
  · refine G_aload_n dX5_gameOf_8 rfl ?_
    refine G_getR (jj := 3) dX5_gameOf_9 flX5_31 rfl rfl rfl ?_
    refine G_iload_n dX5_gameOf_12 rfl ?_
    refine G_iconst (n := 2) dX5_gameOf_13 ⟨by decide, by decide⟩ ?_
    refine G_idiv dX5_gameOf_14 (by omega) (by omega) ?_
    refine G_aaldv (some (8 + (s / 2).toNat)) dX5_gameOf_15 rfl (by omega) (by omega) (Or.inr ⟨rfl, rfl⟩) (rf_game (by omega) (by omega)) ?_
    refine G_goto 20 dX5_gameOf_16 (by decide) ?_
    exact G_aret dX5_gameOf_20 rfl (Or.inl ⟨_, rfl⟩) rfl rfl ⟨by first | (rw [if_pos (by omega)]) | (rw [if_neg (by omega)]), rfl, rfl⟩
set_option maxRecDepth 20000 in
set_option maxHeartbeats 1000000 in
theorem c_X1_value (l : Launch) (d nu : Nat) (v : VV) (k : Int) : Ct l yX1_value cX1_value (some .int) 2 (d + 0) 0 0 [ar (some 3), ai k] (SG nu) v (rI (SG nu) (if 0 ≤ k ∧ k < 9 then v 4 k else -1) v) := by
  refine Ct_of_G [some (ar (some 3)), some (ai k)] (by decide) rfl rfl ?_
  refine G_iload_n dX1_value_0 rfl ?_
  refine G_if_lt 19 dX1_value_1 (by decide) (fun h1 => ?_) (fun h1 => ?_)
  · refine G_iconst (n := (-1)) dX1_value_19 ⟨by decide, by decide⟩ ?_
    exact G_iret dX1_value_20 rfl rfl rfl ⟨by first | (rw [if_pos (by omega)]) | (rw [if_neg (by omega)]), rfl, rfl⟩
  · refine G_iload_n dX1_value_4 rfl ?_
    refine G_bipush (n := 9) dX1_value_5 (by decide) ⟨by decide, by decide⟩ ?_
    refine G_icmp_ge 19 dX1_value_7 (by decide) (fun h7 => ?_) (fun h7 => ?_)
    · refine G_iconst (n := (-1)) dX1_value_19 ⟨by decide, by decide⟩ ?_
      exact G_iret dX1_value_20 rfl rfl rfl ⟨by first | (rw [if_pos (by omega)]) | (rw [if_neg (by omega)]), rfl, rfl⟩
    · refine G_aload_n dX1_value_10 rfl ?_
      refine G_getR (jj := 0) dX1_value_11 flX1_11 rfl rfl rfl ?_
      refine G_iload_n dX1_value_14 rfl ?_
      refine G_iald dX1_value_15 rfl (by omega) (by omega) ?_
      refine G_goto 20 dX1_value_16 (by decide) ?_
      exact G_iret dX1_value_20 rfl rfl rfl ⟨by first | (rw [if_pos (by omega)]) | (rw [if_neg (by omega)]), rfl, rfl⟩
