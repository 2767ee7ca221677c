theorem mk_row (z : VV) (s c q b u : Int) : markV z s c q b 38 u = (if u = z 48 s then z 38 (z 48 s) + 1 else z 38 u) ∧ markV z s c q b 39 u = (if u = z 48 s then z 39 (z 48 s) + markN z b else z 39 u) ∧ markV z s c q b 40 u = (if u = z 48 s then z 40 (z 48 s) + markN z b * q else z 40 u) := by
  unfold markV
  refine ⟨?_, ?_, ?_⟩
  · rw [up_c (by omega), up_c (by omega), up_c (by omega), up_get]
    simp only [true_and]
    rw [up_c (by omega)]
  · rw [up_c (by omega), up_c (by omega), up_get]
    simp only [true_and]
    rw [up_c (by omega), up_c (by omega)]
  · rw [up_c (by omega), up_get]
    simp only [true_and]
    rw [up_c (by omega), up_c (by omega), up_c (by omega)]
theorem K_mark {nu : Nat} {t : Int} {z : VV} {s c q b : Int} (hB : MB nu z) (ht : t + 1 ≤ 1000) (hs : 0 ≤ s ∧ s < 2 * z 27 34) (h48 : z 48 s ≠ -1) (hq : 0 ≤ q ∧ q ≤ 100) (h : CB nu t z ∧ FZ nu z ∧ R3 z) : CB nu (t + 1) (markV z s c q b) ∧ FZ nu (markV z s c q b) ∧ R3 (markV z s c q b) := by
  have h9 := hB.2.2.2.2.2.2 s hs.1 hs.2
  have hR := hB.2.2.2.1
  have hN : 0 ≤ markN z b ∧ markN z b ≤ 9 := by
    unfold markN
    have a1 := hR.2.2.2.2.1
    have a2 := hR.2.2.2.2.2.1
    split <;> omega
  have p0 : 0 ≤ markN z b * q := Int.mul_nonneg hN.1 hq.1
  have p1 : markN z b * q ≤ 9 * q := Int.mul_le_mul_of_nonneg_right hN.2 hq.1
  refine ⟨⟨by have := h.1.1; omega, ?_, fun u u0 u1 => ?_⟩, fun u hu => ?_, h.2.2⟩
  · show 0 ≤ z 27 36 + 1 ∧ z 27 36 + 1 ≤ t + 1
    have := h.1.2.1
    omega
  · obtain ⟨e1, e2, e3⟩ := mk_row z s c q b u
    rw [e1, e2, e3]
    have a := h.1.2.2 u u0 u1
    by_cases e : u = z 48 s
    · rw [if_pos e, if_pos e, if_pos e, ← e]
      omega
    · rw [if_neg e, if_neg e, if_neg e]
      omega
  · obtain ⟨e1, e2, e3⟩ := mk_row z s c q b u
    have e : ¬ u = z 48 s := by omega
    rw [e1, e2, e3, if_neg e, if_neg e, if_neg e]
    exact h.2.1 u hu
/-- what the turn of the week keeps -/
def KN (nu : Nat) (t M : Int) (v : VV) : Prop := (CB nu t v ∧ FZ nu v ∧ R3 v) ∧ (∀ s : Int, 0 ≤ s → s < M → -1 ≤ v 48 s ∧ v 48 s < nu) ∧ (0 ≤ v 27 35 ∧ v 27 35 ≤ 99)
theorem KN_st1 {nu : Nat} {t M : Int} {v : VV} {s : Int} (h : KN nu t M v) (h0 : 0 ≤ s) (h1 : s < M) : KN nu t M (st1 v s) := by
  unfold st1
  by_cases e : v 48 s = -1
  · rw [if_pos e]; exact h
  · rw [if_neg e]
    have a := h.2.1 s h0 h1
    have hw := h.2.2
    refine ⟨⟨⟨h.1.1.1, h.1.1.2.1, h.1.1.2.2⟩, fun u hu => ?_, h.1.2.2⟩, h.2.1, h.2.2⟩
    obtain ⟨a1, a2, a3, a4, a5⟩ := h.1.2.1 u hu
    refine ⟨a1, a2, a3, ?_, fun w w0 w1 => ?_⟩
    · rw [up_nj (show u ≠ v 48 s by omega)]
      exact a4
    · obtain ⟨b1, b2⟩ := a5 w w0 w1
      rw [up_c (show 42 ≠ 41 by omega), up_c (show 43 ≠ 41 by omega), up_nj (show 100 * u + w ≠ 100 * v 48 s + v 27 35 by omega), up_c (show 43 ≠ 42 by omega)]
      exact ⟨b1, b2⟩
theorem KN_stL {nu : Nat} {t M : Int} : ∀ (n : Nat) (s : Int) (v : VV), KN nu t M v → 0 ≤ s → s + n ≤ M → KN nu t M (stL n s v) := by
  intro n
  induction n with
  | zero => intro s v h _ _; exact h
  | succ n ih =>
    intro s v h h0 h1
    exact ih (s + 1) (st1 v s) (KN_st1 h h0 (by omega)) (by omega) (by omega)
theorem KN_clr {nu : Nat} {t M : Int} {v : VV} {u x : Int} (h : KN nu t M v) : KN nu t M (clr (up v 36 u x) u) := by
  have e : ∀ k j, k ≠ 36 → clr (up v 36 u x) u k j = if (k = 38 ∨ k = 39 ∨ k = 40) ∧ j = u then 0 else v k j := fun k j hk => by rw [clr_get, up_c hk]
  refine ⟨⟨⟨h.1.1.1, h.1.1.2.1, fun w w0 w1 => ?_⟩, fun w hw => ?_, h.1.2.2⟩, h.2.1, h.2.2⟩
  · rw [e 38 w (by omega), e 39 w (by omega), e 40 w (by omega)]
    have a := h.1.1.2.2 w w0 w1
    have b := h.1.1.1
    by_cases g : w = u
    · rw [if_pos ⟨by omega, g⟩, if_pos ⟨by omega, g⟩, if_pos ⟨by omega, g⟩]; omega
    · rw [if_neg (fun z => g z.2), if_neg (fun z => g z.2), if_neg (fun z => g z.2)]; exact a
  · obtain ⟨a1, a2, a3, a4, a5⟩ := h.1.2.1 w hw
    rw [e 38 w (by omega), e 39 w (by omega), e 40 w (by omega)]
    refine ⟨?_, ?_, ?_, a4, a5⟩
    · split; rfl; exact a1
    · split; rfl; exact a2
    · split; rfl; exact a3
theorem KN_rg1 {nu : Nat} {t M : Int} {v : VV} {u : Int} (h : KN nu t M v) : KN nu t M (rg1 v u) := by
  unfold rg1
  by_cases h1 : v 38 u < v 29 8 ∨ v 39 u = 0
  · rw [if_pos h1]; exact h
  · rw [if_neg h1]
    by_cases h2 : v 29 6 * v 39 u ≤ v 40 u ∧ 1 < v 36 u
    · rw [if_pos h2]; exact KN_clr h
    · rw [if_neg h2]
      by_cases h3 : v 40 u ≤ v 29 7 * v 39 u ∧ v 36 u < 4
      · rw [if_pos h3]; exact KN_clr h
      · rw [if_neg h3]; exact h
theorem KN_rgL {nu : Nat} {t M : Int} : ∀ (n : Nat) (u : Int) (v : VV), KN nu t M v → KN nu t M (rgL n u v) := by
  intro n
  induction n with
  | zero => intro u v h; exact h
  | succ n ih => intro u v h; exact ih (u + 1) (rg1 v u) (KN_rg1 h)
theorem K_next {nu : Nat} {t : Int} {z : VV} (hB : MB nu z) (h : CB nu t z ∧ FZ nu z ∧ R3 z) : CB nu t (nextV z nu) ∧ FZ nu (nextV z nu) ∧ R3 (nextV z nu) := by
  have hgm := hB.2.1
  have k : KN nu t (2 * z 27 34) (rgL nu 0 (stL (2 * z 27 34).toNat 0 z)) := KN_rgL nu 0 _ (KN_stL _ 0 z ⟨h, hB.2.2.2.2.2.2, hB.2.2.1⟩ (by omega) (by omega))
  unfold nextV
  refine ⟨⟨k.1.1.1, ?_, k.1.1.2.2⟩, k.1.2.1, k.1.2.2⟩
  show 0 ≤ (0 : Int) ∧ (0 : Int) ≤ t
  have := k.1.1.1
  omega
