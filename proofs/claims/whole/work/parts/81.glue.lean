/-! the board's cells of b, the model's cells of z -/
def glue (b z : VV) : VV := fun k => if 27 ≤ k ∧ k < 59 then z k else b k
theorem gl_m {b z : VV} {k : Nat} (h1 : 27 ≤ k) (h2 : k < 59) : glue b z k = z k := if_pos ⟨h1, h2⟩
theorem gl_b {b z : VV} {k : Nat} (h : k < 27 ∨ 59 ≤ k) : glue b z k = b k := if_neg (by omega)
theorem up_gl {b z : VV} {k : Nat} {j x : Int} (h1 : 27 ≤ k) (h2 : k < 59) : up (glue b z) k j x = glue b (up z k j x) := by
  funext a c
  by_cases h : 27 ≤ a ∧ a < 59
  · rw [gl_m h.1 h.2]
    unfold up
    rw [gl_m h.1 h.2]
  · rw [gl_b (by omega), up_c (by omega), gl_b (by omega)]
theorem KM_gl {v v2 : VV} (h : KM v v2) : up v2 27 0 0 = glue v2 (up v 27 0 0) := by
  funext a c
  by_cases g : 27 ≤ a ∧ a < 59
  · rw [gl_m g.1 g.2]
    unfold up
    rw [h a g.1 g.2]
  · rw [gl_b (by omega), up_c (by omega)]
theorem gl_self {b z : VV} (h : KM b z) : glue b z = b := by
  funext a
  by_cases g : 27 ≤ a ∧ a < 59
  · rw [gl_m g.1 g.2, h a g.1 g.2]
  · rw [gl_b (by omega)]
theorem Sim_gl {nu : Nat} {b z : VV} (h : Sim nu b z) : Sim nu (glue b z) (glue b z) := by
  obtain ⟨hM, hC, hU, hW, hX, hH, hR, hT, hK⟩ := h
  have hgm := hM.2.1
  refine ⟨hM, hC, fun n hn => ?_, fun n hn w w0 w1 => ?_, fun g hg => ?_, ⟨hH.1, fun n hn => ?_, hH.2.2⟩, hR, hT, hK⟩
  · rw [gl_b (k := 59 + 3 * n) (by omega)]
    exact hU n hn
  · rw [gl_b (k := 60 + 3 * n) (by omega), gl_b (k := 61 + 3 * n) (by omega)]
    exact hW n hn w w0 w1
  · have hg2 : (g : Int) < z 27 34 := hg
    rw [gl_b (k := 8 + g) (by omega)]
    exact hX g hg2
  · rw [gl_b (k := 59 + 3 * n) (by omega)]
    exact hH.2.1 n hn
theorem Sim_0 {nu : Nat} {v z : VV} (h : Sim nu v z) : Sim nu v (up z 27 0 0) := by
  obtain ⟨hM, hC, hU, hW, hX, hH, hR, hT, hK⟩ := h
  have a27 : ∀ j : Int, j ≠ 0 → up z 27 0 0 27 j = z 27 j := fun j hj => up_nj hj
  have a : ∀ k, k ≠ 27 → up z 27 0 0 k = z k := fun k hk => up_ne hk
  have hse : ∀ u, seatOfS (up z 27 0 0) u = seatOfS z u := fun u => by unfold seatOfS; rw [a 48 (by decide), a27 34 (by decide)]
  unfold Sim Simx MBx RB SC SU SW SX SH INJ SR ST SK
  simp only [hse]
  simp only [a 28 (by decide), a 29 (by decide), a 34 (by decide), a 35 (by decide), a 36 (by decide), a 37 (by decide), a 38 (by decide), a 39 (by decide), a 40 (by decide), a 41 (by decide), a 42 (by decide), a 43 (by decide), a 44 (by decide), a 45 (by decide), a 46 (by decide), a 47 (by decide), a 48 (by decide), a 49 (by decide), a27 2 (by decide), a27 13 (by decide), a27 33 (by decide), a27 34 (by decide), a27 35 (by decide), a27 36 (by decide)]
  exact ⟨hM, hC, hU, hW, hX, hH, hR, hT, hK⟩
def R3 (v : VV) : Prop := ∀ j : Int, 0 ≤ j → j < 9 → v 30 j = xUs.getD j.toNat 0 ∧ v 31 j = xLe.getD j.toNat 0 ∧ v 32 j = xMo.getD j.toNat 0
theorem LI_gl {nu : Nat} {t : Int} {b z : VV} (h1 : Sim nu b z) (h2 : CB nu t z) (h3 : FZ nu z) (h4 : R3 z) : LI nu t (glue b z) := ⟨Sim_gl h1, h2, h3, h4⟩
theorem CB_up {nu : Nat} {t t2 : Int} {z : VV} (h : CB nu t z) (h1 : t ≤ t2) (h2 : t2 ≤ 1000) : CB nu t2 z := by
  refine ⟨by have := h.1; omega, by have := h.2.1; omega, fun u u0 u1 => ?_⟩
  have := h.2.2 u u0 u1
  omega
theorem CB_0 {nu : Nat} {t : Int} {z : VV} (h : CB nu t z) : CB nu t (up z 27 0 0) := ⟨h.1, h.2.1, h.2.2⟩
theorem FZ_0 {nu : Nat} {z : VV} (h : FZ nu z) : FZ nu (up z 27 0 0) := h
theorem R3_0 {z : VV} (h : R3 z) : R3 (up z 27 0 0) := h
/-- a call that changes nothing but the model's note of a throw -/
theorem LI_read {nu : Nat} {t : Int} {v : VV} (h : LI nu t v) (h2 : t + 1 ≤ 1000) : LI nu (t + 1) (up v 27 0 0) := by
  have e := KM_gl (v := v) (v2 := v) KM.rf
  rw [e]
  exact LI_gl (Sim_0 h.1) (CB_up (CB_0 h.2.1) (by omega) h2) (FZ_0 h.2.2.1) (R3_0 h.2.2.2)
theorem comeL_gl (x : Int) (b : VV) : ∀ (n : Nat) (k : Int) (z : VV), comeL x n k (glue b z) = glue b (comeL x n k z) := by
  intro n
  induction n with
  | zero => intro k z; rfl
  | succ n ih =>
    intro k z
    unfold comeL
    rw [up_gl (by omega) (by omega), up_gl (by omega) (by omega), ih]
    rfl
theorem gameV_gl (b z : VV) (x y a c g : Int) : gameV (glue b z) x y a c g = glue b (gameV z x y a c g) := by
  unfold gameV gameW
  simp only [gmL]
  rw [up_gl (by omega) (by omega), up_gl (by omega) (by omega), up_gl (by omega) (by omega), up_gl (by omega) (by omega), up_gl (by omega) (by omega), up_gl (by omega) (by omega), up_gl (by omega) (by omega), up_gl (by omega) (by omega), up_gl (by omega) (by omega)]
  rfl
theorem markV_gl (b z : VV) (s c q m : Int) : markV (glue b z) s c q m = glue b (markV z s c q m) := by
  unfold markV
  rw [up_gl (by omega) (by omega), up_gl (by omega) (by omega), up_gl (by omega) (by omega), up_gl (by omega) (by omega), up_gl (by omega) (by omega)]
  rfl
theorem umpV_gl (b z : VV) (x y g c : Int) : umpV (glue b z) x y g c = glue b (umpV z x y g c) := by
  unfold umpV
  rw [up_gl (by omega) (by omega), up_gl (by omega) (by omega), up_gl (by omega) (by omega), up_gl (by omega) (by omega), up_gl (by omega) (by omega)]
  rfl
