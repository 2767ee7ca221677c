/-- RULES are read from a TOKEN on: E, P the FAULT (E = 0: none), mm how many, f2 what they tell -/
def PRL (t : Int → Int) (n : Int) (lo hi : Int → Int) : Nat → Int → Int → Int → Int → Int → (Int → Int) → Int → Int → Int → Int → (Int → Int) → Prop
  | 0, _, _, _, _, _, _, _, _, _, _, _ => False
  | k + 1, K, F, T, W, told, f, mc, E, P, mm, f2 => (K = 0 ∧ E = 0 ∧ mm = mc ∧ f2 = f) ∨ (K ≠ 0 ∧ ∃ x told2 f3 T2 E2 P2, RRP t n lo hi K F T W told f x told2 f3 T2 E2 P2 ∧ ((x = 0 ∧ E = E2 ∧ P = P2) ∨ (x = 1 ∧ ∃ K2 F2 T3 W2 U2, GoP t n T2 K2 F2 T3 W2 U2 ∧ PRL t n lo hi k K2 F2 T3 W2 told2 f3 (mc + 1) E P mm f2)))
theorem RRP_E {t : Int → Int} {n : Int} {lo hi : Int → Int} {K F T W told : Int} {f : Int → Int} {x told2 : Int} {f2 : Int → Int} {T2 E P : Int} (h : RRP t n lo hi K F T W told f x told2 f2 T2 E P) : (x = 0 ∧ (E = 1 ∨ E = 2 ∨ E = 3)) ∨ (x = 1 ∧ T < T2 ∧ T2 ≤ n) := by
  rcases h with ⟨-, h, e, -⟩ | ⟨-, ⟨-, h, e, -⟩ | ⟨-, K2, F2, T3, W2, U2, g, ⟨-, h, e, -⟩ | ⟨-, ⟨-, h, e, -⟩ | ⟨-, K3, F3, W3, U3, g3, ⟨-, h, e, -⟩ | ⟨h4, h, -⟩⟩⟩⟩⟩
  · exact Or.inl ⟨h, by omega⟩
  · exact Or.inl ⟨h, by omega⟩
  · exact Or.inl ⟨h, by omega⟩
  · exact Or.inl ⟨h, by omega⟩
  · exact Or.inl ⟨h, by omega⟩
  · have a := GoP_T g
    have b := GoP_T g3
    refine Or.inr ⟨h, ?_, b.2⟩
    obtain ⟨p, hs, h1 | ⟨-, h1 | ⟨h2, h3, h5 | ⟨-, -, -, h6⟩⟩⟩⟩ := g3
    · omega
    · omega
    · have := hs.1; omega
    · omega
def RU (v v2 : VV) : Prop := (∀ k, k ≠ 27 → k ≠ 29 → k ≠ 33 → v2 k = v k) ∧ ∀ j, ¬ (8 ≤ j ∧ j ≤ 16) → j ≠ 0 → j ≠ 2 → v2 27 j = v 27 j
def cpL (a b : Nat) : Nat → Int → VV → VV
  | 0, _, v => v
  | n + 1, i, v => cpL a b n (i + 1) (up v a i (v b i))
theorem cpL_get (a b : Nat) (hab : a ≠ b) : ∀ (n : Nat) (i : Int) (v : VV) (k : Nat) (j : Int), cpL a b n i v k j = if k = a ∧ i ≤ j ∧ j < i + n then v b j else v k j := by
  intro n
  induction n with
  | zero => intro i v k j; rw [cpL, if_neg (by omega)]
  | succ n ih =>
    intro i v k j
    rw [cpL, ih, up_get, up_get]
    by_cases hk : k = a
    · subst hk
      by_cases hj : j = i
      · subst hj
        rw [if_neg (by omega), if_pos ⟨rfl, rfl⟩, if_pos (by omega)]
      · by_cases h2 : i + 1 ≤ j ∧ j < i + 1 + n
        · rw [if_pos ⟨rfl, h2⟩, if_neg (fun y => hab y.1.symm), if_pos (by omega)]
        · rw [if_neg (by omega), if_neg (fun y => hj y.2), if_neg (by omega)]
    · rw [if_neg (fun y => hk y.1), if_neg (fun y => hk y.1), if_neg (fun y => hk y.1)]
theorem GoP_F {t : Int → Int} {n i K F T W U : Int} (hn : n ≤ 180) (hi : 0 ≤ i) (h : GoP t n i K F T W U) : 0 ≤ F ∧ F ≤ 180 := by
  obtain ⟨p, hs, h1 | ⟨-, h1 | ⟨h2, h3, -⟩⟩⟩ := h
  · omega
  · have := hs.1; omega
  · have := hs.1; omega
