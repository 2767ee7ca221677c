set_option maxRecDepth 20000 in
set_option maxHeartbeats 1000000 in
theorem law_loop (l : Launch) (hl : l.stackTraces = false) (L : Nat) (xs : Nat → Int32) (hL : L ≤ 3072) : ∀ (N : Nat) (i t : Int) (nu : Nat) (v : VV) (c0 s0 : Nat) (Z5 Z6 : Option AV), i = 6 * t → 0 ≤ t → t + N = 600 → LI nu t v → (c0 : Int) ≤ 60 + 3 * t → (s0 : Int) ≤ 5900 + 211 * t → G l (yL_law, cL_law, some .boolean, 7, 13, 601024, 7293034, some (L, xs)) (fun r _ _ => r = some (ai 1)) c0 s0 (SG nu) 23 [some (ax 0), some (ar (some 0)), some (ar (some 27)), some (ar (some 58)), some (ai i), Z5, Z6] [] v := by
  intro N
  induction N using Nat.strongRecOn with
  | ind N ih =>
    intro i t nu v c0 s0 Z5 Z6 hi h0 hN h hc hs
    refine G_iload dL_law_23 rfl ?_
    refine G_aload_nX dL_law_25 rfl ?_
    refine G_slen (L := L) (xs := xs) hL rfl dL_law_26 ?_
    refine G_bipush (n := 6) dL_law_27 (by decide) ⟨by decide, by decide⟩ ?_
    refine G_isub dL_law_29 (iRm (by omega) (by omega)) ?_
    refine G_icmp_gt 856 dL_law_30 (by decide) (fun h30 => ?_) (fun h30 => ?_)
    · refine G_iconst (n := 1) dL_law_856 ⟨by decide, by decide⟩ ?_
      exact G_zret dL_law_857 rfl (by omega) (Nat.ble_eq_true_of_le (by show c0 ≤ 601024; omega)) (Nat.ble_eq_true_of_le (by show s0 ≤ 7293034; omega)) rfl
    · refine G_aload_nX dL_law_33 rfl ?_
      refine G_iload dL_law_34 rfl ?_
      refine G_sld (L := L) (xs := xs) rfl dL_law_36 (by omega) (by omega) ?_
      refine G_bipush (n := 31) dL_law_37 (by decide) ⟨by decide, by decide⟩ ?_
      refine G_iand (bandI (scI xs i) 31) dL_law_39 rfl ?_
      have k : KK l L xs i t c0 s0 := fun nu2 v2 c1 s1 Z7 Z8 hLI hc1 hs1 => by
        refine G_iinc dL_law_850 rfl (iRm (by omega) (by omega)) rfl rfl ?_
        refine G_goto 23 dL_law_853 (by decide) ?_
        exact ih (N - 1) (by omega) (i + 6) (t + 1) nu2 v2 c1 s1 Z7 Z8 (by omega) (by omega) (by omega) hLI (by omega) (by omega)
      generalize bandI (scI xs i) 31 = op
      rcases (show (op < 0 ∨ 18 < op) ∨ op = 0 ∨ op = 1 ∨ op = 2 ∨ op = 3 ∨ op = 4 ∨ op = 5 ∨ op = 6 ∨ op = 7 ∨ op = 8 ∨ op = 9 ∨ op = 10 ∨ op = 11 ∨ op = 12 ∨ op = 13 ∨ op = 14 ∨ op = 15 ∨ op = 16 ∨ op = 17 ∨ op = 18 by omega) with hsw | hsw | hsw | hsw | hsw | hsw | hsw | hsw | hsw | hsw | hsw | hsw | hsw | hsw | hsw | hsw | hsw | hsw | hsw | hsw
      · refine G_tableOut 850 dL_law_40 hsw (by decide) ?_
        exact k nu v c0 s0 Z5 Z6 ⟨h.1, CB_up h.2.1 (by omega) (by omega), h.2.2.1, h.2.2.2⟩ (by omega) (by omega)
      · refine G_tableIn 132 dL_law_40 (by omega) (by omega) (by rw [hsw]; rfl) (by decide) ?_
        exact lo_feed l hl L xs i t (by omega) (by omega) hL (by omega) nu v h c0 s0 (by omega) (by omega) Z5 Z6 k
      · refine G_tableIn 205 dL_law_40 (by omega) (by omega) (by rw [hsw]; rfl) (by decide) ?_
        exact lo_end l hl L xs i t (by omega) (by omega) hL (by omega) nu v h c0 s0 (by omega) (by omega) Z5 Z6 k
      · refine G_tableIn 230 dL_law_40 (by omega) (by omega) (by rw [hsw]; rfl) (by decide) ?_
        exact lo_rules l hl L xs i t (by omega) (by omega) hL (by omega) nu v h c0 s0 (by omega) (by omega) Z5 Z6 k
      · refine G_tableIn 243 dL_law_40 (by omega) (by omega) (by rw [hsw]; rfl) (by decide) ?_
        exact lo_fault l hl L xs i t (by omega) (by omega) hL (by omega) nu v h c0 s0 (by omega) (by omega) Z5 Z6 k
      · refine G_tableIn 256 dL_law_40 (by omega) (by omega) (by rw [hsw]; rfl) (by decide) ?_
        exact lo_rule l hl L xs i t (by omega) (by omega) hL (by omega) nu v h c0 s0 (by omega) (by omega) Z5 Z6 k
      · refine G_tableIn 281 dL_law_40 (by omega) (by omega) (by rw [hsw]; rfl) (by decide) ?_
        exact lo_umpire l hl L xs i t (by omega) (by omega) hL (by omega) nu v h c0 s0 (by omega) (by omega) Z5 Z6 k
      · refine G_tableIn 342 dL_law_40 (by omega) (by omega) (by rw [hsw]; rfl) (by decide) ?_
        exact lo_away l hl L xs i t (by omega) (by omega) hL (by omega) nu v h c0 s0 (by omega) (by omega) Z5 Z6 k
      · refine G_tableIn 407 dL_law_40 (by omega) (by omega) (by rw [hsw]; rfl) (by decide) ?_
        exact lo_game l hl L xs i t (by omega) (by omega) hL (by omega) nu v h c0 s0 (by omega) (by omega) Z5 Z6 k
      · refine G_tableIn 480 dL_law_40 (by omega) (by omega) (by rw [hsw]; rfl) (by decide) ?_
        exact lo_may l hl L xs i t (by omega) (by omega) hL (by omega) nu v h c0 s0 (by omega) (by omega) Z5 Z6 k
      · refine G_tableIn 517 dL_law_40 (by omega) (by omega) (by rw [hsw]; rfl) (by decide) ?_
        exact lo_cost l hl L xs i t (by omega) (by omega) hL (by omega) nu v h c0 s0 (by omega) (by omega) Z5 Z6 k
      · refine G_tableIn 554 dL_law_40 (by omega) (by omega) (by rw [hsw]; rfl) (by decide) ?_
        exact lo_send l hl L xs i t (by omega) (by omega) hL (by omega) nu v h c0 s0 (by omega) (by omega) Z5 Z6 k
      · refine G_tableIn 567 dL_law_40 (by omega) (by omega) (by rw [hsw]; rfl) (by decide) ?_
        exact lo_off l hl L xs i t (by omega) (by omega) hL (by omega) nu v h c0 s0 (by omega) (by omega) Z5 Z6 k
      · refine G_tableIn 592 dL_law_40 (by omega) (by omega) (by rw [hsw]; rfl) (by decide) ?_
        exact lo_seat l hl L xs i t (by omega) (by omega) hL (by omega) nu v h c0 s0 (by omega) (by omega) Z5 Z6 k
      · refine G_tableIn 617 dL_law_40 (by omega) (by omega) (by rw [hsw]; rfl) (by decide) ?_
        exact lo_mark l hl L xs i t (by omega) (by omega) hL (by omega) nu v h c0 s0 (by omega) (by omega) Z5 Z6 k
      · refine G_tableIn 694 dL_law_40 (by omega) (by omega) (by rw [hsw]; rfl) (by decide) ?_
        exact lo_next l hl L xs i t (by omega) (by omega) hL (by omega) nu v h c0 s0 (by omega) (by omega) Z5 Z6 k
      · refine G_tableIn 707 dL_law_40 (by omega) (by omega) (by rw [hsw]; rfl) (by decide) ?_
        exact lo_about l hl L xs i t (by omega) (by omega) hL (by omega) nu v h c0 s0 (by omega) (by omega) Z5 Z6 k
      · refine G_tableIn 775 dL_law_40 (by omega) (by omega) (by rw [hsw]; rfl) (by decide) ?_
        exact lo_stood l hl L xs i t (by omega) (by omega) hL (by omega) nu v h c0 s0 (by omega) (by omega) Z5 Z6 k
      · refine G_tableIn 812 dL_law_40 (by omega) (by omega) (by rw [hsw]; rfl) (by decide) ?_
        exact lo_together l hl L xs i t (by omega) (by omega) hL (by omega) nu v h c0 s0 (by omega) (by omega) Z5 Z6 k
      · refine G_tableIn 825 dL_law_40 (by omega) (by omega) (by rw [hsw]; rfl) (by decide) ?_
        exact lo_count l hl L xs i t (by omega) (by omega) hL (by omega) nu v h c0 s0 (by omega) (by omega) Z5 Z6 k
