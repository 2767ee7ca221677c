/-! THE WORLD'S LAYOUT: cells in the order of their making. 0 board, 1 Tape, 2 its bytes, 3 RuleBook, 4 values, 5 draft, 6 umpires, 7 games, 8..15 Games, 16 holders, 17 Sender, 18..26 its rows, 27 the model, 28..57 its rows, 58 the law's row, 59+3u an Umpire, 60+3u awayWeeks, 61+3u clubsByWeek -/
def shL : List (Nat × Nat) := [(21, 0), (19, 0), (1, 180), (17, 0), (0, 9), (0, 9), (3, 20), (4, 8), (16, 0), (16, 0), (16, 0), (16, 0), (16, 0), (16, 0), (16, 0), (16, 0), (0, 16), (18, 0), (0, 320), (0, 36), (0, 36), (0, 36), (0, 36), (0, 36), (0, 36), (0, 36), (2, 36),
  (22, 0), (0, 180), (0, 9), (0, 9), (0, 9), (0, 9), (0, 9), (0, 20), (0, 20), (0, 20), (0, 20), (0, 20), (0, 20), (0, 20), (0, 20), (0, 2000), (2, 2000), (0, 8), (0, 8), (0, 8), (0, 8), (0, 16), (0, 16), (0, 16), (0, 16), (0, 320), (0, 20), (2, 16), (0, 22), (0, 22), (0, 22), (5, 1)]
def shG (nu k : Nat) : Nat × Nat := if k < 59 then shL.getD k (99, 0) else if k < 59 + 3 * nu then (if (k - 59) % 3 = 0 then (20, 0) else if (k - 59) % 3 = 1 then (2, 100) else (0, 100)) else (99, 0)
def rfL (k : Nat) : List (Option Nat) := match k with
  | 0 => [some 1, some 3, some 6, some 7, some 16, some 17]
  | 1 => [some 2]
  | 3 => [some 4, some 5]
  | 7 => [some 8, some 9, some 10, some 11, some 12, some 13, some 14, some 15]
  | 17 => [some 18, some 19, some 20, some 21, some 22, some 23, some 24, some 25, some 26]
  | 27 => [none, some 28, none, some 29, some 30, some 31, some 32, some 33, none, none, none, none, none, none, none, none, none, some 34, some 35, some 36, some 37, some 38, some 39, some 40, some 41, some 42, some 43, some 44, some 45, some 46, some 47, some 48, some 49, none, none, none, none, some 50, some 51, some 52, some 53, some 54, some 55, some 56, some 57]
  | _ => []
def rfG (nu k : Nat) (j : Int) : Option Nat :=
  if k < 59 then (if k = 6 then (if 0 ≤ j ∧ j < nu then some (59 + 3 * j.toNat) else none) else if 0 ≤ j then (rfL k).getD j.toNat none else none)
  else if k < 59 + 3 * nu then (if (k - 59) % 3 = 0 then (if j = 9 then some (k + 1) else if j = 10 then some (k + 2) else none) else none) else none
def SG (nu : Nat) : AS := (59 + 3 * nu, shG nu, rfG nu)
theorem sh_ump {nu u : Nat} (h : u < nu) : (SG nu).2.1 (59 + 3 * u) = (20, 0) := by
  show shG nu _ = _
  unfold shG
  rw [if_neg (by omega), if_pos (by omega), if_pos (by omega)]
theorem sh_away {nu u : Nat} (h : u < nu) : (SG nu).2.1 (60 + 3 * u) = (2, 100) := by
  show shG nu _ = _
  unfold shG
  rw [if_neg (by omega), if_pos (by omega), if_neg (by omega), if_pos (by omega)]
theorem sh_clubs {nu u : Nat} (h : u < nu) : (SG nu).2.1 (61 + 3 * u) = (0, 100) := by
  show shG nu _ = _
  unfold shG
  rw [if_neg (by omega), if_pos (by omega), if_neg (by omega), if_neg (by omega)]
theorem rf_ump {nu : Nat} {j : Int} (h0 : 0 ≤ j) (h1 : j < nu) : (SG nu).2.2 6 j = some (59 + 3 * j.toNat) := by
  show rfG nu 6 j = _
  unfold rfG
  rw [if_pos (by omega), if_pos rfl, if_pos ⟨h0, h1⟩]
theorem rf_umpN {nu : Nat} {j : Int} (h : ¬ (0 ≤ j ∧ j < nu)) : (SG nu).2.2 6 j = none := by
  show rfG nu 6 j = _
  unfold rfG
  rw [if_pos (by omega), if_pos rfl, if_neg h]
theorem rf_away {nu u : Nat} (h : u < nu) : (SG nu).2.2 (59 + 3 * u) 9 = some (60 + 3 * u) := by
  show rfG nu _ _ = _
  unfold rfG
  rw [if_neg (by omega), if_pos (by omega), if_pos (by omega), if_pos rfl]
  exact congrArg some (by omega)
theorem rf_clubs {nu u : Nat} (h : u < nu) : (SG nu).2.2 (59 + 3 * u) 10 = some (61 + 3 * u) := by
  show rfG nu _ _ = _
  unfold rfG
  rw [if_neg (by omega), if_pos (by omega), if_pos (by omega), if_neg (by omega), if_pos rfl]
  exact congrArg some (by omega)
theorem rf_game {nu : Nat} {j : Int} (h0 : 0 ≤ j) (h1 : j < 8) : (SG nu).2.2 7 j = some (8 + j.toNat) := by
  obtain ⟨n, rfl⟩ := Int.eq_ofNat_of_zero_le h0
  have h2 : n < 8 := by omega
  match n, h2 with
  | 0, _ => rfl
  | 1, _ => rfl
  | 2, _ => rfl
  | 3, _ => rfl
  | 4, _ => rfl
  | 5, _ => rfl
  | 6, _ => rfl
  | 7, _ => rfl
theorem iRm {x : Int} (h1 : -2147483648 ≤ x) (h2 : x < 2147483648) : iR x := ⟨h1, h2⟩
def rI (S : AS) (x : Int) (v : VV) : Option AV → AS → VV → Prop := fun r S2 v2 => r = some (ai x) ∧ S2 = S ∧ v2 = v
def rA (S : AS) (x : Option Nat) (v : VV) : Option AV → AS → VV → Prop := fun r S2 v2 => r = some (ar x) ∧ S2 = S ∧ v2 = v
def rV (S : AS) (v : VV) : Option AV → AS → VV → Prop := fun r S2 v2 => r = none ∧ S2 = S ∧ v2 = v
theorem rI_k {S : AS} {x : Int} {v : VV} {F : Option AV → AS → VV → Prop} (h : F (some (ai x)) S v) : ∀ r S2 v2, rI S x v r S2 v2 → F r S2 v2 := by
  intro r S2 v2 ⟨h1, h2, h3⟩
  subst h1; subst h2; subst h3
  exact h
theorem rA_k {S : AS} {x : Option Nat} {v : VV} {F : Option AV → AS → VV → Prop} (h : F (some (ar x)) S v) : ∀ r S2 v2, rA S x v r S2 v2 → F r S2 v2 := by
  intro r S2 v2 ⟨h1, h2, h3⟩
  subst h1; subst h2; subst h3
  exact h
theorem rV_k {S : AS} {v : VV} {F : Option AV → AS → VV → Prop} (h : F none S v) : ∀ r S2 v2, rV S v r S2 v2 → F r S2 v2 := by
  intro r S2 v2 ⟨h1, h2, h3⟩
  subst h1; subst h2; subst h3
  exact h
