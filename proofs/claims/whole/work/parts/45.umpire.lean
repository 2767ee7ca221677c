theorem shG_hi {nu k : Nat} (h : 59 + 3 * nu ≤ k) : shG nu k = (99, 0) := by
  unfold shG
  rw [if_neg (by omega), if_neg (by omega)]
theorem shG_lo {nu k : Nat} (h : k < 59 + 3 * nu) : shG (nu + 1) k = shG nu k := by
  unfold shG
  by_cases h1 : k < 59
  · rw [if_pos h1, if_pos h1]
  · rw [if_neg h1, if_neg h1, if_pos (by omega), if_pos h]
theorem SG_succ (nu : Nat) : upS (uS (nS (SG nu) 20 0) (59 + 3 * nu)) 6 nu (some (59 + 3 * nu)) = SG (nu + 1) := by
  refine Prod.ext ?_ (Prod.ext ?_ ?_)
  · show 59 + 3 * nu + 1 + 1 + 1 = 59 + 3 * (nu + 1)
    omega
  · funext k
    show (if k = 59 + 3 * nu + 1 + 1 then (0, 100) else if k = 59 + 3 * nu + 1 then (2, 100) else if k = 59 + 3 * nu then (20, 0) else shG nu k) = shG (nu + 1) k
    by_cases h0 : k < 59 + 3 * nu
    · rw [if_neg (by omega), if_neg (by omega), if_neg (by omega), shG_lo h0]
    · by_cases h1 : k = 59 + 3 * nu
      · subst h1
        rw [if_neg (by omega), if_neg (by omega), if_pos rfl]
        exact (sh_ump (Nat.lt_succ_self nu)).symm
      · by_cases h2 : k = 59 + 3 * nu + 1
        · subst h2
          rw [if_neg (by omega), if_pos rfl]
          have := sh_away (Nat.lt_succ_self nu)
          rw [show 60 + 3 * nu = 59 + 3 * nu + 1 by omega] at this
          exact this.symm
        · by_cases h3 : k = 59 + 3 * nu + 1 + 1
          · subst h3
            rw [if_pos rfl]
            have := sh_clubs (Nat.lt_succ_self nu)
            rw [show 61 + 3 * nu = 59 + 3 * nu + 1 + 1 by omega] at this
            exact this.symm
          · rw [if_neg h3, if_neg h2, if_neg h1, shG_hi (by omega), shG_hi (by omega)]
  · funext k j
    show (if k = 6 ∧ j = nu then some (59 + 3 * nu) else if k = 59 + 3 * nu ∧ j = 10 then some (59 + 3 * nu + 1 + 1) else if k = 59 + 3 * nu + 1 + 1 then none else if k = 59 + 3 * nu ∧ j = 9 then some (59 + 3 * nu + 1) else if k = 59 + 3 * nu + 1 then none else if k = 59 + 3 * nu then none else rfG nu k j) = rfG (nu + 1) k j
    by_cases h6 : k = 6
    · subst h6
      by_cases hj : j = nu
      · subst hj
        rw [if_pos ⟨rfl, rfl⟩]
        have := rf_ump (nu := nu + 1) (j := (nu : Int)) (by omega) (by omega)
        rw [Int.toNat_natCast] at this
        exact this.symm
      · rw [if_neg (fun q => hj q.2), if_neg (by omega), if_neg (by omega), if_neg (by omega), if_neg (by omega), if_neg (by omega)]
        by_cases hq : 0 ≤ j ∧ j < nu
        · exact (rf_ump (nu := nu) hq.1 hq.2).trans (rf_ump (nu := nu + 1) (by omega) (by omega)).symm
        · exact (rf_umpN (nu := nu) hq).trans (rf_umpN (nu := nu + 1) (by omega)).symm
    · rw [if_neg (fun q => h6 q.1)]
      unfold rfG
      by_cases h0 : k < 59
      · rw [if_neg (by omega), if_neg (by omega), if_neg (by omega), if_neg (by omega), if_neg (by omega), if_pos h0, if_pos h0, if_neg h6, if_neg h6]
      · by_cases h1 : k < 59 + 3 * nu
        · rw [if_neg (by omega), if_neg (by omega), if_neg (by omega), if_neg (by omega), if_neg (by omega), if_neg h0, if_neg h0, if_pos h1, if_pos (show k < 59 + 3 * (nu + 1) by omega)]
        · rw [if_neg h0, if_neg h0, if_neg h1]
          by_cases h2 : k = 59 + 3 * nu
          · subst h2
            rw [if_pos (show 59 + 3 * nu < 59 + 3 * (nu + 1) by omega), if_pos (show (59 + 3 * nu - 59) % 3 = 0 by omega)]
            by_cases h9 : j = 9
            · subst h9
              rw [if_neg (by omega), if_neg (by omega), if_pos ⟨rfl, rfl⟩, if_pos rfl]
            · by_cases h10 : j = 10
              · subst h10
                rw [if_pos ⟨rfl, rfl⟩, if_neg (by decide), if_pos rfl]
              · rw [if_neg (fun q => h10 q.2), if_neg (by omega), if_neg (fun q => h9 q.2), if_neg (by omega), if_pos rfl, if_neg h9, if_neg h10]
          · rw [if_neg (fun q => h2 q.1)]
            by_cases h3 : k = 59 + 3 * nu + 1 + 1
            · subst h3
              rw [if_pos rfl, if_pos (show 59 + 3 * nu + 1 + 1 < 59 + 3 * (nu + 1) by omega), if_neg (by omega)]
            · rw [if_neg h3, if_neg (fun q => h2 q.1)]
              by_cases h4 : k = 59 + 3 * nu + 1
              · subst h4
                rw [if_pos rfl, if_pos (show 59 + 3 * nu + 1 < 59 + 3 * (nu + 1) by omega), if_neg (by omega)]
              · rw [if_neg h4, if_neg h2, if_neg (by omega)]
