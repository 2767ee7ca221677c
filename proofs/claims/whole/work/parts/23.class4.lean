/-! one change of the board, and the same of the model -/
theorem up_c {v : VV} {k a : Nat} {j x b : Int} (h : a ≠ k) : up v k j x a b = v a b := by rw [up_ne h]
theorem seat_clear {z : VV} (hi : INJ z) (hg : 0 ≤ z 27 34) {s : Int} (h0 : 0 ≤ s) (h1 : s < 2 * z 27 34) (u : Int) (hu : 0 ≤ u) : seatOfS (up z 48 s (-1)) u = if z 48 s = u then -1 else seatOfS z u := by
  split
  · rename_i he
    refine seat_no (z := up z 48 s (-1)) hg (fun t t0 t1 => ?_)
    have t1 : t < 2 * z 27 34 := t1
    rw [up_get]
    by_cases e : t = s
    · rw [if_pos ⟨rfl, e⟩]; omega
    · rw [if_neg (fun q => e q.2)]
      intro q
      exact e (hi t s t0 t1 h0 h1 (q.trans he.symm) (by rw [q]; omega))
  · rename_i he
    rcases seatOf_spec (v := z) u hg with ⟨h3, h4⟩ | ⟨h3, h4, h5, h6⟩
    · rw [h3]
      refine seat_no (z := up z 48 s (-1)) hg (fun t t0 t1 => ?_)
      rw [up_get]
      by_cases e : t = s
      · rw [if_pos ⟨rfl, e⟩]; omega
      · rw [if_neg (fun q => e q.2)]
        exact h4 t t0 t1
    · have hne : seatOfS z u ≠ s := fun q => he (by rw [← q]; exact h5)
      refine seat_at (z := up z 48 s (-1)) ?_ hg h3 h4 (by omega) (by rw [up_nj hne]; exact h5)
      intro a b a0 a1 b0 b1 hab hn
      have a1 : a < 2 * z 27 34 := a1
      have b1 : b < 2 * z 27 34 := b1
      rw [up_get, up_get] at hab
      rw [up_get] at hn
      by_cases ea : a = s
      · simp [ea] at hn
      · by_cases eb : b = s
        · simp [ea, eb] at hab hn; omega
        · simp [ea, eb] at hab hn
          exact hi a b a0 a1 b0 b1 hab hn
theorem INJ_clear {z : VV} (hi : INJ z) (s : Int) : INJ (up z 48 s (-1)) := by
  intro a b a0 a1 b0 b1 hab hn
  have a1 : a < 2 * z 27 34 := a1
  have b1 : b < 2 * z 27 34 := b1
  rw [up_get, up_get] at hab
  rw [up_get] at hn
  by_cases ea : a = s
  · simp [ea] at hn
  · by_cases eb : b = s
    · simp [ea, eb] at hab hn; omega
    · simp [ea, eb] at hab hn
      exact hi a b a0 a1 b0 b1 hab hn

theorem Simx_clear {nu : Nat} {b : Int} {v z : VV} (h : Simx nu b v z) {s : Int} {n : Nat} (h0 : 0 ≤ s) (h1 : s < 2 * z 27 34) (hn : n < nu) (hw : z 48 s = n) : Simx nu b (up (up v (59 + 3 * n) 4 (-1)) 16 s (-1)) (up z 48 s (-1)) := by
  obtain ⟨hM, hC, hU, hW, hX, hH, hR, hT, hK⟩ := h
  refine ⟨⟨hM.1, hM.2.1, hM.2.2.1, hM.2.2.2.1, hM.2.2.2.2.1, hM.2.2.2.2.2.1, fun q q0 q1 => ?_⟩, ?_, ?_, ?_, ?_, ⟨?_, ?_, INJ_clear hH.2.2 s⟩, ?_, ?_, ?_⟩
  · have := hM.2.2.2.2.2.2 q q0 q1
    rw [up_get]; split <;> omega
  · unfold SC; simp only [up_c (show 0 ≠ 16 by omega), up_c (show 0 ≠ 59 + 3 * n by omega)]; exact hC
  · intro k hk
    have a := hU k hk
    simp only [up_c (show 59 + 3 * k ≠ 16 by omega), up_nj (show (0 : Int) ≠ 4 by decide), up_nj (show (1 : Int) ≠ 4 by decide), up_nj (show (2 : Int) ≠ 4 by decide), up_nj (show (3 : Int) ≠ 4 by decide), up_nj (show (5 : Int) ≠ 4 by decide), up_nj (show (6 : Int) ≠ 4 by decide), up_nj (show (7 : Int) ≠ 4 by decide), up_nj (show (8 : Int) ≠ 4 by decide)]
    exact a
  · intro k hk w w0 w1
    simp only [up_c (show 60 + 3 * k ≠ 16 by omega), up_c (show 60 + 3 * k ≠ 59 + 3 * n by omega), up_c (show 61 + 3 * k ≠ 16 by omega), up_c (show 61 + 3 * k ≠ 59 + 3 * n by omega)]
    exact hW k hk w w0 w1
  · intro g hg
    have g8 : (g : Int) < 8 := by have := hM.2.1; have hg : (g : Int) < z 27 34 := hg; omega
    simp only [up_c (show 8 + g ≠ 16 by omega), up_c (show 8 + g ≠ 59 + 3 * n by omega)]
    exact hX g hg
  · intro t t0 t1
    have a := hH.1 t t0 t1
    show _ = if t < 2 * z 27 34 then up z 48 s (-1) 48 t else -1
    by_cases e : t = s
    · subst e; rw [up_self, up_self, if_pos h1]
    · rw [up_nj e, up_nj e, up_c (by omega)]; exact a
  · intro k hk
    have a := hH.2.1 k hk
    rw [up_c (by omega), seat_clear hH.2.2 hM.2.1.1 h0 h1 k (by omega), up_get]
    by_cases e : k = n
    · subst e; rw [if_pos ⟨rfl, rfl⟩, if_pos hw]
    · rw [if_neg (by omega), if_neg (by omega)]; exact a
  · intro k k0 k1
    simp only [up_c (show 4 ≠ 16 by omega), up_c (show 4 ≠ 59 + 3 * n by omega)]; exact hR k k0 k1
  · unfold ST; simp only [up_c (show 3 ≠ 16 by omega), up_c (show 3 ≠ 59 + 3 * n by omega), up_c (show 1 ≠ 16 by omega), up_c (show 1 ≠ 59 + 3 * n by omega), up_c (show 2 ≠ 16 by omega), up_c (show 2 ≠ 59 + 3 * n by omega)]; exact hT
  · unfold SK gvN; simp only [up_c (show 0 ≠ 16 by omega), up_c (show 0 ≠ 59 + 3 * n by omega)]; exact hK
theorem INJ_fill {z : VV} (hi : INJ z) {s u : Int} (hf : ∀ t, 0 ≤ t → t < 2 * z 27 34 → z 48 t ≠ u) : INJ (up z 48 s u) := by
  intro a b a0 a1 b0 b1 hab hn
  have a1 : a < 2 * z 27 34 := a1
  have b1 : b < 2 * z 27 34 := b1
  rw [up_get, up_get] at hab
  rw [up_get] at hn
  by_cases ea : a = s
  · by_cases eb : b = s
    · omega
    · simp [ea, eb] at hab; exact absurd hab.symm (hf b b0 b1)
  · by_cases eb : b = s
    · simp [ea, eb] at hab; exact absurd hab (hf a a0 a1)
    · simp [ea, eb] at hab hn
      exact hi a b a0 a1 b0 b1 hab hn
theorem seat_fill {z : VV} (hi : INJ z) (hg : 0 ≤ z 27 34) {s u : Int} (h0 : 0 ≤ s) (h1 : s < 2 * z 27 34) (hw : z 48 s = -1) (hu : 0 ≤ u) (hf : ∀ t, 0 ≤ t → t < 2 * z 27 34 → z 48 t ≠ u) (x : Int) (hx : 0 ≤ x) : seatOfS (up z 48 s u) x = if x = u then s else seatOfS z x := by
  have hI := INJ_fill (s := s) hi hf
  split
  · rename_i he
    exact seat_at (z := up z 48 s u) hI hg h0 h1 (by omega) (by rw [up_self, he])
  · rename_i he
    rcases seatOf_spec (v := z) x hg with ⟨h3, h4⟩ | ⟨h3, h4, h5, h6⟩
    · rw [h3]
      refine seat_no (z := up z 48 s u) hg (fun t t0 t1 => ?_)
      rw [up_get]
      by_cases e : t = s
      · rw [if_pos ⟨rfl, e⟩]; omega
      · rw [if_neg (fun q => e q.2)]; exact h4 t t0 t1
    · have hne : seatOfS z x ≠ s := fun q => by rw [q, hw] at h5; omega
      exact seat_at (z := up z 48 s u) hI hg h3 h4 (by omega) (by rw [up_nj hne]; exact h5)

theorem Simx_fill {nu : Nat} {b : Int} {v z : VV} (h : Simx nu b v z) {s : Int} {n : Nat} (h0 : 0 ≤ s) (h1 : s < 2 * z 27 34) (hn : n < nu) (hw : z 48 s = -1) (hf : seatOfS z n = -1) : Simx nu b (up (up v (59 + 3 * n) 4 s) 16 s n) (up z 48 s n) := by
  obtain ⟨hM, hC, hU, hW, hX, hH, hR, hT, hK⟩ := h
  have hff : ∀ t, 0 ≤ t → t < 2 * z 27 34 → z 48 t ≠ n := by
    rcases seatOf_spec (v := z) n hM.2.1.1 with ⟨-, h4⟩ | ⟨h3, -⟩
    · exact h4
    · omega
  refine ⟨⟨hM.1, hM.2.1, hM.2.2.1, hM.2.2.2.1, hM.2.2.2.2.1, hM.2.2.2.2.2.1, fun q q0 q1 => ?_⟩, ?_, ?_, ?_, ?_, ⟨?_, ?_, INJ_fill hH.2.2 hff⟩, ?_, ?_, ?_⟩
  · have := hM.2.2.2.2.2.2 q q0 q1
    rw [up_get]; split <;> omega
  · unfold SC; simp only [up_c (show 0 ≠ 16 by omega), up_c (show 0 ≠ 59 + 3 * n by omega)]; exact hC
  · intro k hk
    have a := hU k hk
    simp only [up_c (show 59 + 3 * k ≠ 16 by omega), up_nj (show (0 : Int) ≠ 4 by decide), up_nj (show (1 : Int) ≠ 4 by decide), up_nj (show (2 : Int) ≠ 4 by decide), up_nj (show (3 : Int) ≠ 4 by decide), up_nj (show (5 : Int) ≠ 4 by decide), up_nj (show (6 : Int) ≠ 4 by decide), up_nj (show (7 : Int) ≠ 4 by decide), up_nj (show (8 : Int) ≠ 4 by decide)]
    exact a
  · intro k hk w w0 w1
    simp only [up_c (show 60 + 3 * k ≠ 16 by omega), up_c (show 60 + 3 * k ≠ 59 + 3 * n by omega), up_c (show 61 + 3 * k ≠ 16 by omega), up_c (show 61 + 3 * k ≠ 59 + 3 * n by omega)]
    exact hW k hk w w0 w1
  · intro g hg
    have g8 : (g : Int) < 8 := by have := hM.2.1; have hg : (g : Int) < z 27 34 := hg; omega
    simp only [up_c (show 8 + g ≠ 16 by omega), up_c (show 8 + g ≠ 59 + 3 * n by omega)]
    exact hX g hg
  · intro t t0 t1
    have a := hH.1 t t0 t1
    show _ = if t < 2 * z 27 34 then up z 48 s n 48 t else -1
    by_cases e : t = s
    · subst e; rw [up_self, up_self, if_pos h1]
    · rw [up_nj e, up_nj e, up_c (by omega)]; exact a
  · intro k hk
    have a := hH.2.1 k hk
    rw [up_c (by omega), seat_fill hH.2.2 hM.2.1.1 h0 h1 hw (by omega) hff k (by omega), up_get]
    by_cases e : k = n
    · subst e; rw [if_pos ⟨rfl, rfl⟩, if_pos rfl]
    · rw [if_neg (by omega), if_neg (by omega)]; exact a
  · intro k k0 k1
    simp only [up_c (show 4 ≠ 16 by omega), up_c (show 4 ≠ 59 + 3 * n by omega)]; exact hR k k0 k1
  · unfold ST; simp only [up_c (show 3 ≠ 16 by omega), up_c (show 3 ≠ 59 + 3 * n by omega), up_c (show 1 ≠ 16 by omega), up_c (show 1 ≠ 59 + 3 * n by omega), up_c (show 2 ≠ 16 by omega), up_c (show 2 ≠ 59 + 3 * n by omega)]; exact hT
  · unfold SK gvN; simp only [up_c (show 0 ≠ 16 by omega), up_c (show 0 ≠ 59 + 3 * n by omega)]; exact hK
theorem Simx_away {nu : Nat} {b : Int} {v z : VV} (h : Simx nu b v z) {n : Nat} (hn : n < nu) {w x : Int} (w0 : 0 ≤ w) (w1 : w ≤ 99) : Simx nu b (up v (60 + 3 * n) w x) (up z 43 (100 * n + w) x) := by
  obtain ⟨hM, hC, hU, hW, hX, hH, hR, hT, hK⟩ := h
  refine ⟨hM, ?_, ?_, ?_, ?_, ⟨?_, ?_, hH.2.2⟩, ?_, ?_, ?_⟩
  · unfold SC; simp only [up_c (show 0 ≠ 60 + 3 * n by omega)]; exact hC
  · intro k hk
    simp only [up_c (show 59 + 3 * k ≠ 60 + 3 * n by omega)]
    exact hU k hk
  · intro k hk y y0 y1
    have a := hW k hk y y0 y1
    rw [up_c (show 61 + 3 * k ≠ 60 + 3 * n by omega)]
    show _ ∧ _ = z 42 (100 * k + y)
    rw [up_get, up_get]
    by_cases e : k = n ∧ y = w
    · obtain ⟨e1, e2⟩ := e; subst e1; subst e2; rw [if_pos ⟨rfl, rfl⟩, if_pos ⟨rfl, rfl⟩]; exact ⟨rfl, a.2⟩
    · rw [if_neg (by omega), if_neg (by omega)]; exact a
  · intro g hg
    have g8 : (g : Int) < 8 := by have := hM.2.1; have hg : (g : Int) < z 27 34 := hg; omega
    simp only [up_c (show 8 + g ≠ 60 + 3 * n by omega)]
    exact hX g hg
  · intro t t0 t1
    simp only [up_c (show 16 ≠ 60 + 3 * n by omega)]; exact hH.1 t t0 t1
  · intro k hk
    simp only [up_c (show 59 + 3 * k ≠ 60 + 3 * n by omega)]; exact hH.2.1 k hk
  · intro k k0 k1
    simp only [up_c (show 4 ≠ 60 + 3 * n by omega)]; exact hR k k0 k1
  · unfold ST; simp only [up_c (show 3 ≠ 60 + 3 * n by omega), up_c (show 1 ≠ 60 + 3 * n by omega), up_c (show 2 ≠ 60 + 3 * n by omega)]; exact hT
  · unfold SK gvN; simp only [up_c (show 0 ≠ 60 + 3 * n by omega)]; exact hK
