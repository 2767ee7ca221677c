/-! THE LAW's INVARIANT, and that it holds at the start -/
def LI (nu : Nat) (t : Int) (v : VV) : Prop := Sim nu v v ∧ CB nu t v ∧ FZ nu v ∧ ∀ j : Int, 0 ≤ j → j < 9 → v 30 j = xUs.getD j.toNat 0 ∧ v 31 j = xLe.getD j.toNat 0 ∧ v 32 j = xMo.getD j.toNat 0
theorem rowX_in {xs : List Int} {j : Int} (h0 : 0 ≤ j) (h1 : j < xs.length) : rowX xs j = xs.getD j.toNat 0 := if_pos ⟨h0, h1⟩
theorem LI_start {v1 : VV} (hz : ∀ k j, k ≠ 4 → k ≠ 16 → k < 27 → v1 k j = 0) (h4 : ∀ j : Int, 0 ≤ j → j < 9 → v1 4 j = xUs.getD j.toNat 0) (h16 : ∀ j : Int, 0 ≤ j → j < 16 → v1 16 j = -1) : LI 0 0 (nV (Wv1 (nV v1 27)) 58) := by
  obtain ⟨v, hv⟩ : ∃ v, v = nV (Wv1 (nV v1 27)) 58 := ⟨_, rfl⟩
  rw [← hv]
  have e0 : ∀ k j, k < 27 → v k j = v1 k j := fun k j h => by rw [hv, nV_lt (by omega), Wv1_lt (by omega), nV_lt h]
  have e27 : ∀ j, v 27 j = 0 := fun j => by rw [hv, nV_lt (by omega), Wv1_lt (by omega)]; rfl
  have ez : ∀ k j, 28 ≤ k → k < 58 → k ≠ 29 → k ≠ 30 → k ≠ 31 → k ≠ 32 → k ≠ 33 → k ≠ 48 → v k j = 0 := fun k j a1 a2 a3 a4 a5 a6 a7 a8 => by rw [hv, nV_lt (by omega)]; exact Wv1_0 a1 a2 a3 a4 a5 a6 a7 a8
  have e29 : ∀ j, v 29 j = rowX xUs j := fun j => by rw [hv, nV_lt (by omega)]; exact Wv1_us (by omega)
  have e30 : ∀ j, v 30 j = rowX xUs j := fun j => by rw [hv, nV_lt (by omega)]; exact Wv1_us (by omega)
  have e31 : ∀ j, v 31 j = rowX xLe j := fun j => by rw [hv, nV_lt (by omega)]; exact Wv1_le
  have e32 : ∀ j, v 32 j = rowX xMo j := fun j => by rw [hv, nV_lt (by omega)]; exact Wv1_mo
  have b0 : ∀ k j, k ≠ 4 → k ≠ 16 → k < 27 → v k j = 0 := fun k j a1 a2 a3 => (e0 k j a3).trans (hz k j a1 a2 a3)
  refine ⟨⟨⟨⟨by omega, e27 33⟩, by rw [e27]; omega, by rw [e27]; omega, ?_, fun u u0 u1 => by omega, fun g g0 g1 => by rw [e27] at g1; omega, fun s s0 s1 => by rw [e27] at s1; omega⟩, ⟨b0 0 6 (by omega) (by omega) (by omega), by rw [e27]; exact b0 0 7 (by omega) (by omega) (by omega), by rw [e27]; exact b0 0 8 (by omega) (by omega) (by omega)⟩, fun n hn => by omega, fun n hn => by omega, fun g hg => by rw [e27] at hg; omega, ⟨fun s s0 s1 => ?_, fun n hn => by omega, fun s t s0 s1 => by rw [e27] at s1; omega⟩, fun k k0 k1 => ?_, ⟨?_, ?_, by rw [e27]; omega, fun i => by rw [ez 28 i (by omega) (by omega) (by omega) (by omega) (by omega) (by omega) (by omega) (by omega)]; omega, fun i i0 i1 => by rw [e27] at i1; omega⟩, ⟨fun s s0 s1 => by rw [e27] at s1; omega, fun i hi => ?_, ?_⟩⟩, ⟨by omega, by rw [e27]; omega, fun u u0 u1 => by omega⟩, fun u hu => ?_, fun j j0 j1 => ?_⟩
  · unfold RB
    simp only [e29]
    decide +kernel
  · rw [e27, if_neg (by omega), e0 16 s (by omega)]
    exact h16 s s0 s1
  · rw [e29, e0 4 k (by omega), h4 k k0 k1, rowX_in (xs := xUs) k0 k1]
  · rw [e27]; exact b0 3 5 (by omega) (by omega) (by omega)
  · rw [e27]; exact b0 1 1 (by omega) (by omega) (by omega)
  · have hg : gvN v = 0 := by
      unfold gvN
      rw [b0 0 9 (by omega) (by omega) (by omega)]
      rfl
    rw [hg]
    exact Nat.zero_testBit i
  · have hg : gvN v = 0 := by
      unfold gvN
      rw [b0 0 9 (by omega) (by omega) (by omega)]
      rfl
    rw [hg, e27]
    rfl
  · have q : ∀ k, 38 ≤ k → k ≤ 43 → ∀ j, v k j = 0 := fun k k0 k1 j => ez k j (by omega) (by omega) (by omega) (by omega) (by omega) (by omega) (by omega) (by omega)
    exact ⟨q 38 (by omega) (by omega) _, q 39 (by omega) (by omega) _, q 40 (by omega) (by omega) _, q 41 (by omega) (by omega) _, fun w w0 w1 => ⟨q 42 (by omega) (by omega) _, q 43 (by omega) (by omega) _⟩⟩
  · rw [e30, e31, e32, rowX_in (xs := xUs) j0 j1, rowX_in (xs := xLe) j0 j1, rowX_in (xs := xMo) j0 j1]
    exact ⟨rfl, rfl, rfl⟩
