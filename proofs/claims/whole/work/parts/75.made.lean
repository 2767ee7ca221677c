/-! THE WORLD AS MADE is SG 0 -/
def We : AS := nS Wc1 5 1
theorem We_1 : (SG 0).1 = We.1 := rfl
theorem We_2 : ∀ k, k < 59 → (SG 0).2.1 k = We.2.1 k := by decide +kernel
theorem We_o : ∀ k, k < 59 → ¬ (We.2.1 k).1 < 16 → ∀ j : Nat, j < nf ((We.2.1 k).1 - 16) → (SG 0).2.2 k (j : Int) = We.2.2 k (j : Int) := by decide +kernel
theorem We_sh : ∀ k, k < 59 → (We.2.1 k).1 < 16 → k ≠ 7 → rfL k = [] := by decide +kernel
theorem We_k (k : Nat) (h : (We.2.1 k).1 < 16) : k ≠ 0 ∧ k ≠ 1 ∧ k ≠ 3 ∧ k ≠ 17 ∧ k ≠ 27 := by
  refine ⟨?_, ?_, ?_, ?_, ?_⟩ <;> (rintro rfl; exact absurd h (by decide +kernel))
theorem ups_k {S : AS} {k a : Nat} {i j : Int} {r : Option Nat} (h : a ≠ k) : (upS S k i r).2.2 a j = S.2.2 a j := if_neg fun e => h e.1
theorem ups_j {S : AS} {k a : Nat} {i j : Int} {r : Option Nat} (h : j ≠ i) : (upS S k i r).2.2 a j = S.2.2 a j := if_neg fun e => h e.2
theorem ns_n {S : AS} {t len a : Nat} {j : Int} (h : S.2.2 a j = none) : (nS S t len).2.2 a j = none := by
  show (if a = S.1 then none else S.2.2 a j) = none
  split
  · rfl
  · exact h
theorem gw_n {S : AS} {a : Nat} {g j : Int} (h : a ≠ 7 ∨ j ≠ g) (h1 : S.2.2 a j = none) : (gW S g).2.2 a j = none := by
  unfold gW
  rcases h with h | h
  · rw [ups_k h]; exact ns_n h1
  · rw [ups_j h]; exact ns_n h1
theorem aw_n {S : AS} {t i a : Nat} {j : Int} (h : a ≠ 17) (h1 : S.2.2 a j = none) : (aW S t i).2.2 a j = none := by
  unfold aW
  rw [ups_k h]; exact ns_n h1
theorem We_n {k : Nat} {j : Int} (h : k ≠ 0 ∧ k ≠ 1 ∧ k ≠ 3 ∧ k ≠ 17 ∧ k ≠ 27) (h7 : k ≠ 7 ∨ (j ≠ 0 ∧ j ≠ 1 ∧ j ≠ 2 ∧ j ≠ 3 ∧ j ≠ 4 ∧ j ≠ 5 ∧ j ≠ 6 ∧ j ≠ 7)) : We.2.2 k j = none := by
  obtain ⟨h0, h1, h3, h17, h27⟩ := h
  have a3 : Wb3.2.2 k j = none := by
    unfold Wb3
    rw [ups_k h1]
    exact ns_n (ns_n (ns_n rfl))
  have a9 : Wb9.2.2 k j = none := by
    unfold Wb9
    rw [ups_k h0]
    refine ns_n ?_
    unfold Wb8
    rw [ups_k h0]
    refine ns_n ?_
    unfold Wb7
    rw [ups_k h0]
    unfold Wb6
    rw [ups_k h3]
    refine ns_n ?_
    rw [ups_k h3]
    refine ns_n (ns_n ?_)
    unfold Wb4
    rw [ups_k h0]
    exact a3
  have aA : WbA.2.2 k j = none := by
    unfold WbA
    exact gw_n (by omega) (gw_n (by omega) (gw_n (by omega) (gw_n (by omega) (gw_n (by omega) (gw_n (by omega) (gw_n (by omega) (gw_n (by omega) a9)))))))
  have aD : WbD_.2.2 k j = none := by
    unfold WbD_
    refine aw_n h17 (aw_n h17 (aw_n h17 (aw_n h17 (aw_n h17 (aw_n h17 (aw_n h17 (aw_n h17 (aw_n h17 ?_))))))))
    refine ns_n ?_
    unfold WbB
    rw [ups_k h0]
    exact ns_n aA
  have aE : Wc0.2.2 k j = none := by
    refine ns_n ?_
    unfold WbE
    rw [ups_k h0]
    exact aD
  refine ns_n ?_
  unfold Wc1
  repeat (rw [ups_k h27]; refine ns_n ?_)
  exact aE
theorem We_3 (k : Nat) (hk : k < 59) : ((We.2.1 k).1 < 16 → ∀ j : Nat, (SG 0).2.2 k (j : Int) = We.2.2 k (j : Int)) ∧ (¬ (We.2.1 k).1 < 16 → ∀ j : Nat, j < nf ((We.2.1 k).1 - 16) → (SG 0).2.2 k (j : Int) = We.2.2 k (j : Int)) := by
  refine ⟨fun h j => ?_, We_o k hk⟩
  by_cases h7 : k = 7
  · subst h7
    by_cases hj : j < 8
    · have hz : j = 0 ∨ j = 1 ∨ j = 2 ∨ j = 3 ∨ j = 4 ∨ j = 5 ∨ j = 6 ∨ j = 7 := by omega
      rcases hz with rfl | rfl | rfl | rfl | rfl | rfl | rfl | rfl <;> decide +kernel
    · rw [We_n (by omega) (Or.inr (by omega))]
      show rfG 0 7 (j : Int) = none
      unfold rfG
      rw [if_pos (by omega), if_neg (by omega), if_pos (by omega), Int.toNat_natCast]
      rw [List.getD_eq_getElem?_getD, List.getElem?_eq_none (by show 8 ≤ j; omega)]
      rfl
  · rw [We_n (We_k k h) (Or.inl h7)]
    show rfG 0 k _ = none
    unfold rfG
    rw [if_pos hk, We_sh k hk h h7]
    split
    · rw [if_neg (by omega)]
    · split
      · rfl
      · rfl
theorem rfL_all : ∀ a, a < 59 → (rfL a).all (fun x => match x with | some q => Nat.blt q 59 | none => true) = true := by decide +kernel
theorem WR_0 : WR (SG 0) := by
  intro a ha b q hq
  have ha2 : a < 59 := ha
  have h1 : rfG 0 a b = some q := hq
  unfold rfG at h1
  rw [if_pos ha2] at h1
  split at h1
  · rw [if_neg (by omega)] at h1
    cases h1
  · split at h1
    · rw [List.getD_eq_getElem?_getD] at h1
      cases h2 : (rfL a)[b.toNat]? with
      | none => rw [h2] at h1; cases h1
      | some x =>
        rw [h2] at h1
        have h3 : x = some q := h1
        have h4 := List.all_eq_true.mp (rfL_all a ha2) x (List.mem_of_getElem? h2)
        rw [h3] at h4
        exact Nat.blt_eq.mp h4
    · cases h1
