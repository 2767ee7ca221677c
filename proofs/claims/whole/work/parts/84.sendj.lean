theorem sumF_c {f g : Int → Int} : ∀ (n : Nat) (i : Int), (∀ j, i ≤ j → j < i + n → f j = g j) → sumF f n i = sumF g n i := by
  intro n
  induction n with
  | zero => intro i _; rfl
  | succ n ih =>
    intro i h
    show f i + sumF f n (i + 1) = g i + sumF g n (i + 1)
    rw [h i (by omega) (by omega), ih (i + 1) (fun j j0 j1 => h j (by omega) (by omega))]
theorem filled_c {y z : VV} (h34 : z 27 34 = y 27 34) (hg : 0 ≤ y 27 34) (h48 : ∀ s : Int, 0 ≤ s → s < 2 * y 27 34 → z 48 s = y 48 s) : filledS z = filledS y := by
  unfold filledS
  rw [h34]
  exact sumF_c _ _ (fun j j0 j1 => by rw [h48 j j0 (by omega)])
theorem Sim_c48 {nu : Nat} {b y z : VV} (h : Sim nu b y) (hk : ∀ k, k = 28 ∨ k = 29 ∨ (34 ≤ k ∧ k ≤ 47) ∨ k = 49 → z k = y k) (h27 : ∀ j : Int, j = 2 ∨ j = 13 ∨ (33 ≤ j ∧ j ≤ 36) → z 27 j = y 27 j) (h48 : ∀ s : Int, 0 ≤ s → s < 2 * y 27 34 → z 48 s = y 48 s) : Sim nu b z := by
  obtain ⟨hM, hC, hU, hW, hX, hH, hR, hT, hK⟩ := h
  have hg := hM.2.1
  have e34 := h27 34 (by omega)
  have hI : INJ z := by
    unfold INJ
    rw [e34]
    intro s t s0 s1 t0 t1
    rw [h48 s s0 s1, h48 t t0 t1]
    exact hH.2.2 s t s0 s1 t0 t1
  have hse : ∀ u : Int, u ≠ -1 → seatOfS z u = seatOfS y u := by
    intro u hu
    rcases seatOf_spec (v := y) u hg.1 with ⟨h3, h4⟩ | ⟨h3, h4, h5, -⟩
    · rw [h3]
      exact seat_no (by rw [e34]; exact hg.1) (fun s s0 s1 => by rw [e34] at s1; rw [h48 s s0 s1]; exact h4 s s0 s1)
    · exact seat_at hI (by rw [e34]; exact hg.1) h3 (by rw [e34]; exact h4) hu (by rw [h48 _ h3 h4]; exact h5)
  unfold Sim Simx MBx RB SC SU SW SX SH SR ST SK
  rw [h27 2 (by omega), h27 13 (by omega), h27 33 (by omega), e34, h27 35 (by omega), h27 36 (by omega), hk 28 (by omega), hk 29 (by omega), hk 34 (by omega), hk 35 (by omega), hk 36 (by omega), hk 37 (by omega), hk 38 (by omega), hk 39 (by omega), hk 40 (by omega), hk 41 (by omega), hk 42 (by omega), hk 43 (by omega), hk 44 (by omega), hk 45 (by omega), hk 46 (by omega), hk 47 (by omega), hk 49 (by omega)]
  refine ⟨⟨hM.1, hM.2.1, hM.2.2.1, hM.2.2.2.1, hM.2.2.2.2.1, hM.2.2.2.2.2.1, fun s s0 s1 => ?_⟩, hC, hU, hW, hX, ⟨fun s s0 s1 => ?_, fun n hn => ?_, hI⟩, hR, hT, hK⟩
  · rw [h48 s s0 s1]
    exact hM.2.2.2.2.2.2 s s0 s1
  · rw [hH.1 s s0 s1]
    by_cases e : s < 2 * y 27 34
    · rw [if_pos e, if_pos e, h48 s s0 e]
    · rw [if_neg e, if_neg e]
  · rw [hse n (by omega)]
    exact hH.2.1 n hn
theorem send_join {nu m : Nat} {t : Int} {v v2 v3 z : VV} {x x2 : Int} (hS : Sim nu v z) (h : CB nu t z ∧ FZ nu z ∧ R3 z) (hm0 : (m : Int) = 2 * z 27 34)
    (hc : (z 27 36 ≠ 0 ∧ x = -1 ∧ v2 = v) ∨ (z 27 36 = 0 ∧ ∃ y, E48 z y ∧ Lex 100000 m nu (fun s u => mayP z u s) (fun s u => costS z u s) (y 48) ∧ x = filledS y ∧ Sim nu v2 y))
    (hm : (glue v2 z 27 36 ≠ 0 ∧ x2 = -1 ∧ v3 = glue v2 z) ∨ (glue v2 z 27 36 = 0 ∧ fz (glue v2 z) v3 ∧ Lex 1000000 m nu (fun s u => mayP (glue v2 z) u s) (fun s u => costS (glue v2 z) u s) (v3 48) ∧ x2 = filledS v3)) : x = x2 ∧ LI nu t v3 := by
  have hB : MB nu z := hS.1
  have hgm := hB.2.1
  rcases hc with ⟨a1, a2, a3⟩ | ⟨a1, y, hE, hL, a2, hS2⟩
  · rcases hm with ⟨-, b2, b3⟩ | ⟨b1, -⟩
    · rw [b3, a3]
      exact ⟨a2.trans b2.symm, LI_gl hS h.1 h.2.1 h.2.2⟩
    · exact absurd b1 a1
  · rcases hm with ⟨b1, -⟩ | ⟨-, hf, hL2, b2⟩
    · exact absurd a1 b1
    · have hL3 : Lex 1000000 m nu (fun s u => mayP z u s) (fun s u => costS z u s) (v3 48) := hL2
      have hsc := Lex_scale (by omega) (fun s u s0 s1 u0 u1 _ => MB.cost hB ⟨u0, u1⟩ ⟨s0, by omega⟩) hL
      have e48 : ∀ s : Int, 0 ≤ s → s < m → y 48 s = v3 48 s := Lex_uniq hsc hL3
      have y34 : y 27 34 = z 27 34 := by rw [hE 27 (by decide)]
      have v27 : ∀ j : Int, j ≠ 45 → v3 27 j = z 27 j := fun j hj => hf.2 j hj
      have vk : ∀ k, k ∉ [27, 48, 50, 51, 52, 53, 54, 55, 56, 57] → 27 ≤ k → k < 59 → v3 k = z k := fun k hk k0 k1 => (hf.1 k hk).trans (gl_m k0 k1)
      have hfl : filledS v3 = filledS y := filled_c (by rw [v27 34 (by decide), y34]) (by rw [y34]; exact hgm.1) (fun s s0 s1 => (e48 s s0 (by omega)).symm)
      have hS3 : Sim nu v2 v3 := Sim_c48 hS2 (fun k hk => by
        rw [vk k (by simp only [List.mem_cons, List.not_mem_nil, or_false]; omega) (by omega) (by omega), hE k (by omega)]) (fun j hj => by rw [v27 j (by omega), hE 27 (by decide)]) (fun s s0 s1 => (e48 s s0 (by omega)).symm)
      have hg : glue v2 v3 = v3 := by
        funext k
        by_cases g : 27 ≤ k ∧ k < 59
        · rw [gl_m g.1 g.2]
        · rw [gl_b (by omega), hf.1 k (by simp only [List.mem_cons, List.not_mem_nil, or_false]; omega), gl_b (by omega)]
      refine ⟨by rw [a2, b2, hfl], ?_⟩
      rw [← hg]
      have r : ∀ k, 28 ≤ k → k ≤ 43 → v3 k = z k := fun k k0 k1 => vk k (by simp only [List.mem_cons, List.not_mem_nil, or_false]; omega) (by omega) (by omega)
      refine LI_gl hS3 ⟨h.1.1, by rw [v27 36 (by decide)]; exact h.1.2.1, by rw [r 38 (by omega) (by omega), r 39 (by omega) (by omega), r 40 (by omega) (by omega)]; exact h.1.2.2⟩ ?_ ?_
      · unfold FZ
        rw [r 38 (by omega) (by omega), r 39 (by omega) (by omega), r 40 (by omega) (by omega), r 41 (by omega) (by omega), r 42 (by omega) (by omega), r 43 (by omega) (by omega)]
        exact h.2.1
      · unfold R3
        rw [r 30 (by omega) (by omega), r 31 (by omega) (by omega), r 32 (by omega) (by omega)]
        exact h.2.2
theorem rules_join {nu : Nat} {t : Int} {v v2 v3 z : VV} {x x2 E P mm E2 P2 mm2 : Int} {f0 f2 f g2 : Int → Int} (h : CB nu t z ∧ FZ nu z ∧ R3 z) (hz : ∀ k, 27 ≤ k → k < 59 → ∀ j : Int, (k ≠ 27 ∨ j ≠ 0) → v2 k j = z k j)
    (hc : RW (z 28) (z 27 2) (z 31) (z 32) 0 0 f0 0 E P mm f2) (hx : x = if E = 0 then mm else -1 - P) (hf0 : EQ9 f0 f) (hSim : ∀ z2, RZ z z2 E f2 → Sim nu v2 z2)
    (hm : RW (z 28) (z 27 2) (z 31) (z 32) 0 0 f 0 E2 P2 mm2 g2) (hx2 : x2 = if E2 = 0 then mm2 else -1 - P2) (hU : RU v2 v3) (h2 : v3 27 2 = 0) (h13 : v3 27 13 = E2) (h29 : ∀ j : Int, 0 ≤ j → j < 9 → v3 29 j = if E2 = 0 then g2 j else v2 29 j) : x = x2 ∧ LI nu t v3 := by
  obtain ⟨e1, e2, e3⟩ := RW_one hc hm hf0
  subst e1
  have ex : x = x2 := by
    rw [hx, hx2]
    by_cases g : E = 0
    · rw [if_pos g, if_pos g]; exact (e3 g).1
    · rw [if_neg g, if_neg g, e2 g]
  have r : ∀ k, 28 ≤ k → k < 59 → k ≠ 29 → k ≠ 33 → v3 k = z k := fun k k0 k1 k2 k3 => by
    rw [hU.1 k (by omega) k2 k3]
    funext j
    exact hz k (by omega) k1 j (Or.inl (by omega))
  have r27 : ∀ j : Int, ¬ (8 ≤ j ∧ j ≤ 16) → j ≠ 0 → j ≠ 2 → v3 27 j = z 27 j := fun j a1 a2 a3 => (hU.2 j a1 a2 a3).trans (hz 27 (by omega) (by omega) j (Or.inr a2))
  have hRZ : RZ z (glue z v3) E f2 := by
    refine ⟨⟨fun k k1 k2 k3 => ?_, fun j a1 a2 a3 => r27 j a1 a2 a3⟩, h2, h13, fun j j0 j1 => ?_⟩
    · by_cases g : 27 ≤ k ∧ k < 59
      · rw [gl_m g.1 g.2]; exact r k (by omega) g.2 k2 k3
      · rw [gl_b (by omega)]
    · show v3 29 j = _
      rw [h29 j j0 j1, hz 29 (by omega) (by omega) j (Or.inl (by omega))]
      by_cases g : E = 0
      · rw [if_pos g, if_pos g]; exact ((e3 g).2 j j0 j1).symm
      · rw [if_neg g, if_neg g]
  have hS := hSim _ hRZ
  have hg : glue v2 (glue z v3) = v3 := by
    funext k
    by_cases g : 27 ≤ k ∧ k < 59
    · rw [gl_m g.1 g.2, gl_m g.1 g.2]
    · rw [gl_b (by omega), hU.1 k (by omega) (by omega) (by omega)]
  refine ⟨ex, ?_⟩
  rw [← hg]
  refine LI_gl hS ⟨h.1.1, ?_, ?_⟩ ?_ ?_
  · rw [show glue z v3 27 36 = v3 27 36 from rfl, r27 36 (by omega) (by omega) (by omega)]
    exact h.1.2.1
  · rw [show glue z v3 38 = v3 38 from rfl, show glue z v3 39 = v3 39 from rfl, show glue z v3 40 = v3 40 from rfl, r 38 (by omega) (by omega) (by omega) (by omega), r 39 (by omega) (by omega) (by omega) (by omega), r 40 (by omega) (by omega) (by omega) (by omega)]
    exact h.1.2.2
  · unfold FZ
    rw [show glue z v3 38 = v3 38 from rfl, show glue z v3 39 = v3 39 from rfl, show glue z v3 40 = v3 40 from rfl, show glue z v3 41 = v3 41 from rfl, show glue z v3 42 = v3 42 from rfl, show glue z v3 43 = v3 43 from rfl, r 38 (by omega) (by omega) (by omega) (by omega), r 39 (by omega) (by omega) (by omega) (by omega), r 40 (by omega) (by omega) (by omega) (by omega), r 41 (by omega) (by omega) (by omega) (by omega), r 42 (by omega) (by omega) (by omega) (by omega), r 43 (by omega) (by omega) (by omega) (by omega)]
    exact h.2.1
  · unfold R3
    rw [show glue z v3 30 = v3 30 from rfl, show glue z v3 31 = v3 31 from rfl, show glue z v3 32 = v3 32 from rfl, r 30 (by omega) (by omega) (by omega) (by omega), r 31 (by omega) (by omega) (by omega) (by omega), r 32 (by omega) (by omega) (by omega) (by omega)]
    exact h.2.2
