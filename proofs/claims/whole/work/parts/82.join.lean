theorem comeV_gl (b z : VV) (x : Int) : comeV (glue b z) x = glue b (comeV z x) := comeL_gl x b 4 24 z
theorem feedV_gl (b z : VV) (x1 x2 x3 x4 x5 : Int) : feedV (glue b z) x1 x2 x3 x4 x5 = glue b (feedV z x1 x2 x3 x4 x5) := by
  unfold feedV
  rw [comeV_gl, comeV_gl, comeV_gl, comeV_gl, comeV_gl]
theorem st1_gl (b z : VV) (s : Int) : st1 (glue b z) s = glue b (st1 z s) := by
  unfold st1
  by_cases h : z 48 s = -1
  · rw [if_pos (show glue b z 48 s = -1 from h), if_pos h]
  · rw [if_neg (show ¬ glue b z 48 s = -1 from h), if_neg h, up_gl (by omega) (by omega), up_gl (by omega) (by omega)]
    rfl
theorem stL_gl (b : VV) : ∀ (n : Nat) (s : Int) (z : VV), stL n s (glue b z) = glue b (stL n s z) := by
  intro n
  induction n with
  | zero => intro s z; rfl
  | succ n ih =>
    intro s z
    show stL n (s + 1) (st1 (glue b z) s) = glue b (stL n (s + 1) (st1 z s))
    rw [st1_gl, ih]
theorem clr_gl (b z : VV) (u : Int) : clr (glue b z) u = glue b (clr z u) := by
  unfold clr
  rw [up_gl (by omega) (by omega), up_gl (by omega) (by omega), up_gl (by omega) (by omega)]
theorem rg1_gl (b z : VV) (u : Int) : rg1 (glue b z) u = glue b (rg1 z u) := by
  unfold rg1
  by_cases h : z 38 u < z 29 8 ∨ z 39 u = 0
  · rw [if_pos (show glue b z 38 u < glue b z 29 8 ∨ glue b z 39 u = 0 from h), if_pos h]
  · rw [if_neg (show ¬ (glue b z 38 u < glue b z 29 8 ∨ glue b z 39 u = 0) from h), if_neg h]
    by_cases h2 : z 29 6 * z 39 u ≤ z 40 u ∧ 1 < z 36 u
    · rw [if_pos (show glue b z 29 6 * glue b z 39 u ≤ glue b z 40 u ∧ 1 < glue b z 36 u from h2), if_pos h2, up_gl (by omega) (by omega), clr_gl]
      rfl
    · rw [if_neg (show ¬ (glue b z 29 6 * glue b z 39 u ≤ glue b z 40 u ∧ 1 < glue b z 36 u) from h2), if_neg h2]
      by_cases h3 : z 40 u ≤ z 29 7 * z 39 u ∧ z 36 u < 4
      · rw [if_pos (show glue b z 40 u ≤ glue b z 29 7 * glue b z 39 u ∧ glue b z 36 u < 4 from h3), if_pos h3, up_gl (by omega) (by omega), clr_gl]
        rfl
      · rw [if_neg (show ¬ (glue b z 40 u ≤ glue b z 29 7 * glue b z 39 u ∧ glue b z 36 u < 4) from h3), if_neg h3]
theorem rgL_gl (b : VV) : ∀ (n : Nat) (u : Int) (z : VV), rgL n u (glue b z) = glue b (rgL n u z) := by
  intro n
  induction n with
  | zero => intro u z; rfl
  | succ n ih =>
    intro u z
    show rgL n (u + 1) (rg1 (glue b z) u) = glue b (rgL n (u + 1) (rg1 z u))
    rw [rg1_gl, ih]
theorem nextV_gl (b z : VV) (nu : Nat) : nextV (glue b z) nu = glue b (nextV z nu) := by
  unfold nextV
  rw [show (2 * glue b z 27 34).toNat = (2 * z 27 34).toNat from rfl, stL_gl, rgL_gl, up_gl (by omega) (by omega), up_gl (by omega) (by omega), up_gl (by omega) (by omega)]
  rfl
theorem offZ_gl (b z : VV) (u s : Int) : offZ (glue b z) u s = glue b (offZ z u s) := by
  unfold offZ
  rw [up_gl (by omega) (by omega), up_gl (by omega) (by omega)]
  rfl
theorem offF_gl {nu : Nat} {b z : VV} {s r : Int} {v2 : VV} (h : offF nu (glue b z) s r v2) : ∃ z2, offF nu z s r z2 ∧ v2 = glue b z2 := by
  obtain ⟨c, h1, h2⟩ := h
  have h1' : spU z s nu c := h1
  rcases h2 with ⟨a1, a2, a3⟩ | ⟨a1, C, t, a2, a3⟩
  · exact ⟨_, ⟨c, h1', Or.inl ⟨a1, a2, rfl⟩⟩, by rw [a3, up_gl (by omega) (by omega)]⟩
  · have a2' : mvU nu z s (2 * z 27 34) C t := a2
    rcases a3 with ⟨b1, b2, b3⟩ | ⟨b1, b2, x, b3, b4, b5⟩
    · exact ⟨z, ⟨c, h1', Or.inr ⟨a1, C, t, a2', Or.inl ⟨b1, b2, rfl⟩⟩⟩, b3⟩
    · refine ⟨_, ⟨c, h1', Or.inr ⟨a1, C, t, a2', Or.inr ⟨b1, b2, x, b3, b4, rfl⟩⟩⟩, ?_⟩
      rw [b5, up_gl (by omega) (by omega), up_gl (by omega) (by omega)]
      rfl
theorem offF_one {nu : Nat} {z : VV} {s r r2 : Int} {x y : VV} (h : offF nu z s r x) (h2 : offF nu z s r2 y) : r = r2 ∧ x = y := by
  obtain ⟨b, a1, a2⟩ := h
  obtain ⟨c, b1, b2⟩ := h2
  have e := spU_one a1 b1
  subst e
  rcases a2 with ⟨n1, n2, n3⟩ | ⟨n1, C, t, n2, n3⟩
  · rcases b2 with ⟨m1, m2, m3⟩ | ⟨m1, -⟩
    · exact ⟨n2.trans m2.symm, n3.trans m3.symm⟩
    · exact absurd m1 n1
  · rcases b2 with ⟨m1, -⟩ | ⟨m1, C2, t2, m2, m3⟩
    · exact absurd n1 m1
    · have e := mvU_one n2 m2
      subst e
      rcases n3 with ⟨k1, k2, k3⟩ | ⟨k1, k2, q, k3, k4, k5⟩
      · rcases m3 with ⟨j1, j2, j3⟩ | ⟨j1, -⟩
        · exact ⟨k2.trans j2.symm, k3.trans j3.symm⟩
        · exact absurd k1 j1
      · rcases m3 with ⟨j1, -⟩ | ⟨j1, j2, q2, j3, j4, j5⟩
        · exact absurd j1 k1
        · have e := spU_one k4 j4
          subst e
          exact ⟨k2.trans j2.symm, k5.trans j5.symm⟩
theorem offP_join {nu : Nat} {b z : VV} {u x y : Int} {z2 v3 : VV} (h : offP nu z u x z2) (h2 : offP nu (glue b z) u y v3) : x = y ∧ v3 = glue b z2 := by
  rcases h with ⟨a1, a2, a3⟩ | ⟨a1, a2⟩
  · rcases h2 with ⟨b1, b2, b3⟩ | ⟨b1, -⟩
    · exact ⟨a2.trans b2.symm, by rw [b3, a3]⟩
    · exact absurd b1 a1
  · rcases h2 with ⟨b1, -⟩ | ⟨b1, b2⟩
    · exact absurd a1 b1
    · rw [offZ_gl] at b2
      obtain ⟨z3, c1, c2⟩ := offF_gl b2
      obtain ⟨e1, e2⟩ := offF_one a2 c1
      exact ⟨e1, by rw [c2, e2]⟩
/-! what the changing calls keep of the invariant -/
theorem K_end {nu : Nat} {t : Int} {z : VV} (n : Int) (h : CB nu t z ∧ FZ nu z ∧ R3 z) : CB nu t (up z 27 2 n) ∧ FZ nu (up z 27 2 n) ∧ R3 (up z 27 2 n) := ⟨⟨h.1.1, h.1.2.1, h.1.2.2⟩, h.2.1, h.2.2⟩
theorem K_feed {nu : Nat} {t : Int} {z : VV} (a b c d e : Int) (h : CB nu t z ∧ FZ nu z ∧ R3 z) : CB nu t (feedV z a b c d e) ∧ FZ nu (feedV z a b c d e) ∧ R3 (feedV z a b c d e) := ⟨⟨h.1.1, h.1.2.1, h.1.2.2⟩, h.2.1, h.2.2⟩
theorem K_game {nu : Nat} {t : Int} {z : VV} (x y a b g : Int) (h : CB nu t z ∧ FZ nu z ∧ R3 z) : CB nu t (gameV z x y a b g) ∧ FZ nu (gameV z x y a b g) ∧ R3 (gameV z x y a b g) := ⟨⟨h.1.1, h.1.2.1, h.1.2.2⟩, h.2.1, h.2.2⟩
theorem FZ_43 {nu : Nat} {z : VV} {u w x : Int} (hu : u < nu) (hw : 0 ≤ w ∧ w ≤ 99) (h : FZ nu z) : FZ nu (up z 43 (100 * u + w) x) := by
  intro q hq
  obtain ⟨a1, a2, a3, a4, a5⟩ := h q hq
  refine ⟨a1, a2, a3, a4, fun c c0 c1 => ?_⟩
  rw [up_nj (show 100 * q + c ≠ 100 * u + w by omega), up_nj (show 100 * q + c ≠ 100 * u + w by omega)]
  exact a5 c c0 c1
theorem K_away {nu : Nat} {t : Int} {z : VV} {u w x : Int} (hu : u < nu) (hw : 0 ≤ w ∧ w ≤ 99) (h : CB nu t z ∧ FZ nu z ∧ R3 z) : CB nu t (up z 43 (100 * u + w) x) ∧ FZ nu (up z 43 (100 * u + w) x) ∧ R3 (up z 43 (100 * u + w) x) := ⟨⟨h.1.1, h.1.2.1, h.1.2.2⟩, FZ_43 hu hw h.2.1, h.2.2⟩
theorem K_48 {nu : Nat} {t : Int} {z : VV} {s x : Int} (h : CB nu t z ∧ FZ nu z ∧ R3 z) : CB nu t (up z 48 s x) ∧ FZ nu (up z 48 s x) ∧ R3 (up z 48 s x) := ⟨⟨h.1.1, h.1.2.1, h.1.2.2⟩, h.2.1, h.2.2⟩
theorem K_off {nu : Nat} {t : Int} {z z2 : VV} {u x : Int} (hw : 0 ≤ z 27 35 ∧ z 27 35 ≤ 99) (h : CB nu t z ∧ FZ nu z ∧ R3 z) (ho : offP nu z u x z2) : CB nu t z2 ∧ FZ nu z2 ∧ R3 z2 := by
  rcases ho with ⟨-, -, rfl⟩ | ⟨a1, a2⟩
  · exact h
  · have h1 : CB nu t (offZ z u (seatOfS z u)) ∧ FZ nu (offZ z u (seatOfS z u)) ∧ R3 (offZ z u (seatOfS z u)) := K_48 (K_away a1.1.2 hw h)
    obtain ⟨c, -, ⟨-, -, rfl⟩ | ⟨-, C, q, -, ⟨-, -, rfl⟩ | ⟨-, -, y, -, -, rfl⟩⟩⟩ := a2
    · exact K_48 h1
    · exact h1
    · exact K_48 (K_48 h1)
theorem K_ump {nu : Nat} {t : Int} {z : VV} (x y g b : Int) (h33 : z 27 33 = nu) (h : CB nu t z ∧ FZ nu z ∧ R3 z) : CB (nu + 1) t (umpV z x y g b) ∧ FZ (nu + 1) (umpV z x y g b) ∧ R3 (umpV z x y g b) := by
  refine ⟨⟨h.1.1, h.1.2.1, fun u u0 u1 => ?_⟩, fun u hu => h.2.1 u (by omega), h.2.2⟩
  show (0 ≤ z 38 u ∧ z 38 u ≤ t) ∧ (0 ≤ z 39 u ∧ z 39 u ≤ 9 * t) ∧ (0 ≤ z 40 u ∧ z 40 u ≤ 900 * t)
  by_cases e : u < nu
  · exact h.1.2.2 u u0 e
  · obtain ⟨a1, a2, a3, -⟩ := h.2.1 u (by omega)
    rw [a1, a2, a3]
    have := h.1.1
    omega
