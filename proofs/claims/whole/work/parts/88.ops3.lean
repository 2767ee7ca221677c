set_option maxRecDepth 20000 in
set_option maxHeartbeats 1000000 in
theorem lo_away (l : Launch) (hl : l.stackTraces = false) (L : Nat) (xs : Nat → Int32) (i t : Int) (h0 : 0 ≤ i) (h1 : i + 6 ≤ L) (hL : L ≤ 3072) (ht : t + 1 ≤ 1000) (nu : Nat) (v : VV) (h : LI nu t v) (c0 s0 : Nat) (hc : c0 + 3 ≤ 601024) (hs : s0 + 211 ≤ 7293034) (Z5 Z6 : Option AV) (k : KK l L xs i t c0 s0) : G l (yL_law, cL_law, some .boolean, 7, 13, 601024, 7293034, some (L, xs)) (fun r _ _ => r = some (ai 1)) c0 s0 (SG nu) 342 [some (ax 0), some (ar (some 0)), some (ar (some 27)), some (ar (some 58)), some (ai i), Z5, Z6] [] v := by
  have hS := h.1
  have hz : Sim nu v (up v 27 0 0) := Sim_0 hS
  have hK3 : CB nu t (up v 27 0 0) ∧ FZ nu (up v 27 0 0) ∧ R3 (up v 27 0 0) := ⟨CB_0 h.2.1, FZ_0 h.2.2.1, R3_0 h.2.2.2⟩
  have hMB : MB nu (up v 27 0 0) := hz.1
  by_cases hb : (scI xs (i + 3)) = 0
  · refine G_aload_n dL_law_342 rfl ?_
    refine G_aload_nX dL_law_343 rfl ?_
    refine G_iload dL_law_344 rfl ?_
    refine G_iconst (n := 1) dL_law_346 ⟨by decide, by decide⟩ ?_
    refine G_iadd dL_law_347 (iRm (by omega) (by omega)) ?_
    refine G_sld (L := L) (xs := xs) rfl dL_law_348 (by omega) (by omega) ?_
    refine G_aload_nX dL_law_349 rfl ?_
    refine G_iload dL_law_350 rfl ?_
    refine G_iconst (n := 2) dL_law_352 ⟨by decide, by decide⟩ ?_
    refine G_iadd dL_law_353 (iRm (by omega) (by omega)) ?_
    refine G_sld (L := L) (xs := xs) rfl dL_law_354 (by omega) (by omega) ?_
    refine G_aload_nX dL_law_355 rfl ?_
    refine G_iload dL_law_356 rfl ?_
    refine G_iconst (n := 3) dL_law_358 ⟨by decide, by decide⟩ ?_
    refine G_iadd dL_law_359 (iRm (by omega) (by omega)) ?_
    refine G_sld (L := L) (xs := xs) rfl dL_law_360 (by omega) (by omega) ?_
    refine G_if_eq 368 dL_law_361 (by decide) (fun h361 => ?_) (fun h361 => absurd hb h361)
    refine G_iconst (n := 0) dL_law_368 ⟨by decide, by decide⟩ ?_
    refine G_cVq (ci := 5) dL_law_369 rfl (by decide) rfl (c_X5_away l 10 nu v (up v 27 0 0) hz (scI xs (i + 1)) (scI xs (i + 2)) 0 (Or.inl rfl)) mcL_48 rfl rfl (by show _ ≤ 13; omega) rfl rfl (by show _ ≤ 601024; omega) (by show _ ≤ 7293034; omega) (fun r S2 v2 hq9 => ?_)
    obtain ⟨rfl, rfl, hS2, hKM⟩ := hq9
    refine G_aload_n dL_law_372 rfl ?_
    refine G_aload_nX dL_law_373 rfl ?_
    refine G_iload dL_law_374 rfl ?_
    refine G_iconst (n := 1) dL_law_376 ⟨by decide, by decide⟩ ?_
    refine G_iadd dL_law_377 (iRm (by omega) (by omega)) ?_
    refine G_sld (L := L) (xs := xs) rfl dL_law_378 (by omega) (by omega) ?_
    refine G_aload_nX dL_law_379 rfl ?_
    refine G_iload dL_law_380 rfl ?_
    refine G_iconst (n := 2) dL_law_382 ⟨by decide, by decide⟩ ?_
    refine G_iadd dL_law_383 (iRm (by omega) (by omega)) ?_
    refine G_sld (L := L) (xs := xs) rfl dL_law_384 (by omega) (by omega) ?_
    refine G_aload_nX dL_law_385 rfl ?_
    refine G_iload dL_law_386 rfl ?_
    refine G_iconst (n := 3) dL_law_388 ⟨by decide, by decide⟩ ?_
    refine G_iadd dL_law_389 (iRm (by omega) (by omega)) ?_
    refine G_sld (L := L) (xs := xs) rfl dL_law_390 (by omega) (by omega) ?_
    refine G_if_eq 398 dL_law_391 (by decide) (fun h391 => ?_) (fun h391 => absurd hb h391)
    refine G_iconst (n := 0) dL_law_398 ⟨by decide, by decide⟩ ?_
    refine G_cVi (ci := 6) dL_law_399 rfl (by decide) rfl (c_X6_away l 11 nu v2 _ (KM_gl hKM) hMB (scI xs (i + 1)) (scI xs (i + 2)) 0 (Or.inl rfl)) mcL_52 rfl rfl (by show _ ≤ 13; omega) rfl rfl (by show _ ≤ 601024; omega) (by show _ ≤ 7293034; omega) ?_
    exact G_icmp_eq 850 dL_law_402 (by decide) (fun _ => k nu _ _ _ _ _ (J_of (fun q => up q 43 (100 * (scI xs (i + 1)) + (scI xs (i + 2))) 0) (up_gl (by omega) (by omega)) hS2 hK3 ht (fun hcd => K_up ht (K_away hcd.1.2 ⟨Int.le_trans hMB.2.2.1.1 hcd.2.1.1, hcd.2.1.2⟩ hK3))) (by omega) (by omega)) (fun hne => absurd rfl hne)
  · refine G_aload_n dL_law_342 rfl ?_
    refine G_aload_nX dL_law_343 rfl ?_
    refine G_iload dL_law_344 rfl ?_
    refine G_iconst (n := 1) dL_law_346 ⟨by decide, by decide⟩ ?_
    refine G_iadd dL_law_347 (iRm (by omega) (by omega)) ?_
    refine G_sld (L := L) (xs := xs) rfl dL_law_348 (by omega) (by omega) ?_
    refine G_aload_nX dL_law_349 rfl ?_
    refine G_iload dL_law_350 rfl ?_
    refine G_iconst (n := 2) dL_law_352 ⟨by decide, by decide⟩ ?_
    refine G_iadd dL_law_353 (iRm (by omega) (by omega)) ?_
    refine G_sld (L := L) (xs := xs) rfl dL_law_354 (by omega) (by omega) ?_
    refine G_aload_nX dL_law_355 rfl ?_
    refine G_iload dL_law_356 rfl ?_
    refine G_iconst (n := 3) dL_law_358 ⟨by decide, by decide⟩ ?_
    refine G_iadd dL_law_359 (iRm (by omega) (by omega)) ?_
    refine G_sld (L := L) (xs := xs) rfl dL_law_360 (by omega) (by omega) ?_
    refine G_if_eq 368 dL_law_361 (by decide) (fun h361 => absurd h361 hb) (fun h361 => ?_)
    refine G_iconst (n := 1) dL_law_364 ⟨by decide, by decide⟩ ?_
    refine G_goto 369 dL_law_365 (by decide) ?_
    refine G_cVq (ci := 5) dL_law_369 rfl (by decide) rfl (c_X5_away l 10 nu v (up v 27 0 0) hz (scI xs (i + 1)) (scI xs (i + 2)) 1 (Or.inr rfl)) mcL_48 rfl rfl (by show _ ≤ 13; omega) rfl rfl (by show _ ≤ 601024; omega) (by show _ ≤ 7293034; omega) (fun r S2 v2 hq9 => ?_)
    obtain ⟨rfl, rfl, hS2, hKM⟩ := hq9
    refine G_aload_n dL_law_372 rfl ?_
    refine G_aload_nX dL_law_373 rfl ?_
    refine G_iload dL_law_374 rfl ?_
    refine G_iconst (n := 1) dL_law_376 ⟨by decide, by decide⟩ ?_
    refine G_iadd dL_law_377 (iRm (by omega) (by omega)) ?_
    refine G_sld (L := L) (xs := xs) rfl dL_law_378 (by omega) (by omega) ?_
    refine G_aload_nX dL_law_379 rfl ?_
    refine G_iload dL_law_380 rfl ?_
    refine G_iconst (n := 2) dL_law_382 ⟨by decide, by decide⟩ ?_
    refine G_iadd dL_law_383 (iRm (by omega) (by omega)) ?_
    refine G_sld (L := L) (xs := xs) rfl dL_law_384 (by omega) (by omega) ?_
    refine G_aload_nX dL_law_385 rfl ?_
    refine G_iload dL_law_386 rfl ?_
    refine G_iconst (n := 3) dL_law_388 ⟨by decide, by decide⟩ ?_
    refine G_iadd dL_law_389 (iRm (by omega) (by omega)) ?_
    refine G_sld (L := L) (xs := xs) rfl dL_law_390 (by omega) (by omega) ?_
    refine G_if_eq 398 dL_law_391 (by decide) (fun h391 => absurd h391 hb) (fun h391 => ?_)
    refine G_iconst (n := 1) dL_law_394 ⟨by decide, by decide⟩ ?_
    refine G_goto 399 dL_law_395 (by decide) ?_
    refine G_cVi (ci := 6) dL_law_399 rfl (by decide) rfl (c_X6_away l 11 nu v2 _ (KM_gl hKM) hMB (scI xs (i + 1)) (scI xs (i + 2)) 1 (Or.inr rfl)) mcL_52 rfl rfl (by show _ ≤ 13; omega) rfl rfl (by show _ ≤ 601024; omega) (by show _ ≤ 7293034; omega) ?_
    exact G_icmp_eq 850 dL_law_402 (by decide) (fun _ => k nu _ _ _ _ _ (J_of (fun q => up q 43 (100 * (scI xs (i + 1)) + (scI xs (i + 2))) 1) (up_gl (by omega) (by omega)) hS2 hK3 ht (fun hcd => K_up ht (K_away hcd.1.2 ⟨Int.le_trans hMB.2.2.1.1 hcd.2.1.1, hcd.2.1.2⟩ hK3))) (by omega) (by omega)) (fun hne => absurd rfl hne)
set_option maxRecDepth 20000 in
set_option maxHeartbeats 1000000 in
theorem lo_mark (l : Launch) (hl : l.stackTraces = false) (L : Nat) (xs : Nat → Int32) (i t : Int) (h0 : 0 ≤ i) (h1 : i + 6 ≤ L) (hL : L ≤ 3072) (ht : t + 1 ≤ 1000) (nu : Nat) (v : VV) (h : LI nu t v) (c0 s0 : Nat) (hc : c0 + 3 ≤ 601024) (hs : s0 + 211 ≤ 7293034) (Z5 Z6 : Option AV) (k : KK l L xs i t c0 s0) : G l (yL_law, cL_law, some .boolean, 7, 13, 601024, 7293034, some (L, xs)) (fun r _ _ => r = some (ai 1)) c0 s0 (SG nu) 617 [some (ax 0), some (ar (some 0)), some (ar (some 27)), some (ar (some 58)), some (ai i), Z5, Z6] [] v := by
  have hS := h.1
  have hz : Sim nu v (up v 27 0 0) := Sim_0 hS
  have hK3 : CB nu t (up v 27 0 0) ∧ FZ nu (up v 27 0 0) ∧ R3 (up v 27 0 0) := ⟨CB_0 h.2.1, FZ_0 h.2.2.1, R3_0 h.2.2.2⟩
  have hMB : MB nu (up v 27 0 0) := hz.1
  by_cases hb : (scI xs (i + 4)) = 0
  · refine G_aload_n dL_law_617 rfl ?_
    refine G_aload_nX dL_law_618 rfl ?_
    refine G_iload dL_law_619 rfl ?_
    refine G_iconst (n := 1) dL_law_621 ⟨by decide, by decide⟩ ?_
    refine G_iadd dL_law_622 (iRm (by omega) (by omega)) ?_
    refine G_sld (L := L) (xs := xs) rfl dL_law_623 (by omega) (by omega) ?_
    refine G_aload_nX dL_law_624 rfl ?_
    refine G_iload dL_law_625 rfl ?_
    refine G_iconst (n := 2) dL_law_627 ⟨by decide, by decide⟩ ?_
    refine G_iadd dL_law_628 (iRm (by omega) (by omega)) ?_
    refine G_sld (L := L) (xs := xs) rfl dL_law_629 (by omega) (by omega) ?_
    refine G_aload_nX dL_law_630 rfl ?_
    refine G_iload dL_law_631 rfl ?_
    refine G_iconst (n := 3) dL_law_633 ⟨by decide, by decide⟩ ?_
    refine G_iadd dL_law_634 (iRm (by omega) (by omega)) ?_
    refine G_sld (L := L) (xs := xs) rfl dL_law_635 (by omega) (by omega) ?_
    refine G_aload_nX dL_law_636 rfl ?_
    refine G_iload dL_law_637 rfl ?_
    refine G_iconst (n := 4) dL_law_639 ⟨by decide, by decide⟩ ?_
    refine G_iadd dL_law_640 (iRm (by omega) (by omega)) ?_
    refine G_sld (L := L) (xs := xs) rfl dL_law_641 (by omega) (by omega) ?_
    refine G_if_eq 649 dL_law_642 (by decide) (fun h642 => ?_) (fun h642 => absurd hb h642)
    refine G_iconst (n := 0) dL_law_649 ⟨by decide, by decide⟩ ?_
    refine G_cVq (ci := 5) dL_law_650 rfl (by decide) rfl (c_X5_mark l 9 nu v (up v 27 0 0) hz t hK3.1 (scI xs (i + 1)) (scI xs (i + 2)) (scI xs (i + 3)) 0 (Or.inl rfl)) mcL_78 rfl rfl (by show _ ≤ 13; omega) rfl rfl (by show _ ≤ 601024; omega) (by show _ ≤ 7293034; omega) (fun r S2 v2 hq9 => ?_)
    obtain ⟨rfl, rfl, hS2, hKM⟩ := hq9
    refine G_aload_n dL_law_653 rfl ?_
    refine G_aload_nX dL_law_654 rfl ?_
    refine G_iload dL_law_655 rfl ?_
    refine G_iconst (n := 1) dL_law_657 ⟨by decide, by decide⟩ ?_
    refine G_iadd dL_law_658 (iRm (by omega) (by omega)) ?_
    refine G_sld (L := L) (xs := xs) rfl dL_law_659 (by omega) (by omega) ?_
    refine G_aload_nX dL_law_660 rfl ?_
    refine G_iload dL_law_661 rfl ?_
    refine G_iconst (n := 2) dL_law_663 ⟨by decide, by decide⟩ ?_
    refine G_iadd dL_law_664 (iRm (by omega) (by omega)) ?_
    refine G_sld (L := L) (xs := xs) rfl dL_law_665 (by omega) (by omega) ?_
    refine G_aload_nX dL_law_666 rfl ?_
    refine G_iload dL_law_667 rfl ?_
    refine G_iconst (n := 3) dL_law_669 ⟨by decide, by decide⟩ ?_
    refine G_iadd dL_law_670 (iRm (by omega) (by omega)) ?_
    refine G_sld (L := L) (xs := xs) rfl dL_law_671 (by omega) (by omega) ?_
    refine G_aload_nX dL_law_672 rfl ?_
    refine G_iload dL_law_673 rfl ?_
    refine G_iconst (n := 4) dL_law_675 ⟨by decide, by decide⟩ ?_
    refine G_iadd dL_law_676 (iRm (by omega) (by omega)) ?_
    refine G_sld (L := L) (xs := xs) rfl dL_law_677 (by omega) (by omega) ?_
    refine G_if_eq 685 dL_law_678 (by decide) (fun h678 => ?_) (fun h678 => absurd hb h678)
    refine G_iconst (n := 0) dL_law_685 ⟨by decide, by decide⟩ ?_
    refine G_cVi (ci := 6) dL_law_686 rfl (by decide) rfl (c_X6_mark l 11 nu v2 _ (KM_gl hKM) hMB t hK3.1 (scI xs (i + 1)) (scI xs (i + 2)) (scI xs (i + 3)) 0 (Or.inl rfl)) mcL_82 rfl rfl (by show _ ≤ 13; omega) rfl rfl (by show _ ≤ 601024; omega) (by show _ ≤ 7293034; omega) ?_
    exact G_icmp_eq 850 dL_law_689 (by decide) (fun _ => k nu _ _ _ _ _ (J_of (fun q => markV q (scI xs (i + 1)) (scI xs (i + 2)) (scI xs (i + 3)) 0) (markV_gl _ _ _ _ _ _) hS2 hK3 ht (fun hcd => K_mark hMB ht hcd.1 hcd.2.1 hcd.2.2.2.1 hK3)) (by omega) (by omega)) (fun hne => absurd rfl hne)
  · refine G_aload_n dL_law_617 rfl ?_
    refine G_aload_nX dL_law_618 rfl ?_
    refine G_iload dL_law_619 rfl ?_
    refine G_iconst (n := 1) dL_law_621 ⟨by decide, by decide⟩ ?_
    refine G_iadd dL_law_622 (iRm (by omega) (by omega)) ?_
    refine G_sld (L := L) (xs := xs) rfl dL_law_623 (by omega) (by omega) ?_
    refine G_aload_nX dL_law_624 rfl ?_
    refine G_iload dL_law_625 rfl ?_
    refine G_iconst (n := 2) dL_law_627 ⟨by decide, by decide⟩ ?_
    refine G_iadd dL_law_628 (iRm (by omega) (by omega)) ?_
    refine G_sld (L := L) (xs := xs) rfl dL_law_629 (by omega) (by omega) ?_
    refine G_aload_nX dL_law_630 rfl ?_
    refine G_iload dL_law_631 rfl ?_
    refine G_iconst (n := 3) dL_law_633 ⟨by decide, by decide⟩ ?_
    refine G_iadd dL_law_634 (iRm (by omega) (by omega)) ?_
    refine G_sld (L := L) (xs := xs) rfl dL_law_635 (by omega) (by omega) ?_
    refine G_aload_nX dL_law_636 rfl ?_
    refine G_iload dL_law_637 rfl ?_
    refine G_iconst (n := 4) dL_law_639 ⟨by decide, by decide⟩ ?_
    refine G_iadd dL_law_640 (iRm (by omega) (by omega)) ?_
    refine G_sld (L := L) (xs := xs) rfl dL_law_641 (by omega) (by omega) ?_
    refine G_if_eq 649 dL_law_642 (by decide) (fun h642 => absurd h642 hb) (fun h642 => ?_)
    refine G_iconst (n := 1) dL_law_645 ⟨by decide, by decide⟩ ?_
    refine G_goto 650 dL_law_646 (by decide) ?_
    refine G_cVq (ci := 5) dL_law_650 rfl (by decide) rfl (c_X5_mark l 9 nu v (up v 27 0 0) hz t hK3.1 (scI xs (i + 1)) (scI xs (i + 2)) (scI xs (i + 3)) 1 (Or.inr rfl)) mcL_78 rfl rfl (by show _ ≤ 13; omega) rfl rfl (by show _ ≤ 601024; omega) (by show _ ≤ 7293034; omega) (fun r S2 v2 hq9 => ?_)
    obtain ⟨rfl, rfl, hS2, hKM⟩ := hq9
    refine G_aload_n dL_law_653 rfl ?_
    refine G_aload_nX dL_law_654 rfl ?_
    refine G_iload dL_law_655 rfl ?_
    refine G_iconst (n := 1) dL_law_657 ⟨by decide, by decide⟩ ?_
    refine G_iadd dL_law_658 (iRm (by omega) (by omega)) ?_
    refine G_sld (L := L) (xs := xs) rfl dL_law_659 (by omega) (by omega) ?_
    refine G_aload_nX dL_law_660 rfl ?_
    refine G_iload dL_law_661 rfl ?_
    refine G_iconst (n := 2) dL_law_663 ⟨by decide, by decide⟩ ?_
    refine G_iadd dL_law_664 (iRm (by omega) (by omega)) ?_
    refine G_sld (L := L) (xs := xs) rfl dL_law_665 (by omega) (by omega) ?_
    refine G_aload_nX dL_law_666 rfl ?_
    refine G_iload dL_law_667 rfl ?_
    refine G_iconst (n := 3) dL_law_669 ⟨by decide, by decide⟩ ?_
    refine G_iadd dL_law_670 (iRm (by omega) (by omega)) ?_
    refine G_sld (L := L) (xs := xs) rfl dL_law_671 (by omega) (by omega) ?_
    refine G_aload_nX dL_law_672 rfl ?_
    refine G_iload dL_law_673 rfl ?_
    refine G_iconst (n := 4) dL_law_675 ⟨by decide, by decide⟩ ?_
    refine G_iadd dL_law_676 (iRm (by omega) (by omega)) ?_
    refine G_sld (L := L) (xs := xs) rfl dL_law_677 (by omega) (by omega) ?_
    refine G_if_eq 685 dL_law_678 (by decide) (fun h678 => absurd h678 hb) (fun h678 => ?_)
    refine G_iconst (n := 1) dL_law_681 ⟨by decide, by decide⟩ ?_
    refine G_goto 686 dL_law_682 (by decide) ?_
    refine G_cVi (ci := 6) dL_law_686 rfl (by decide) rfl (c_X6_mark l 11 nu v2 _ (KM_gl hKM) hMB t hK3.1 (scI xs (i + 1)) (scI xs (i + 2)) (scI xs (i + 3)) 1 (Or.inr rfl)) mcL_82 rfl rfl (by show _ ≤ 13; omega) rfl rfl (by show _ ≤ 601024; omega) (by show _ ≤ 7293034; omega) ?_
    exact G_icmp_eq 850 dL_law_689 (by decide) (fun _ => k nu _ _ _ _ _ (J_of (fun q => markV q (scI xs (i + 1)) (scI xs (i + 2)) (scI xs (i + 3)) 1) (markV_gl _ _ _ _ _ _) hS2 hK3 ht (fun hcd => K_mark hMB ht hcd.1 hcd.2.1 hcd.2.2.2.1 hK3)) (by omega) (by omega)) (fun hne => absurd rfl hne)
set_option maxRecDepth 20000 in
set_option maxHeartbeats 1000000 in
theorem c_X6_umpire2 (l : Launch) (d nu : Nat) (v : VV) (n1 : Nat) (w : VV) (hw : up v 27 0 0 = w) (hB : MB n1 w) (x y g b : Int) : Ct l yX6_umpire cX6_umpire (some .int) 5 (d + 1) 0 0 [ar (some 27), ai x, ai y, ai g, ai b] (SG nu) v (rI (SG nu) (if w 27 33 ≠ 20 ∧ (0 ≤ x ∧ x ≤ 99) ∧ (0 ≤ y ∧ y ≤ 99) ∧ (1 ≤ g ∧ g ≤ 4) ∧ (0 ≤ b ∧ b ≤ 4095) then w 27 33 else -1) (if w 27 33 ≠ 20 ∧ (0 ≤ x ∧ x ≤ 99) ∧ (0 ≤ y ∧ y ≤ 99) ∧ (1 ≤ g ∧ g ≤ 4) ∧ (0 ≤ b ∧ b ≤ 4095) then umpV w x y g b else w)) := by
  refine Ct_of_G [some (ar (some 27)), some (ai x), some (ai y), some (ai g), some (ai b)] (by decide) rfl rfl ?_
  have hn := hB.1
  have hgm := hB.2.1
  have hwk := hB.2.2.1
  refine G_aload_n dX6_umpire_0 rfl ?_
  refine G_iconst (n := 0) dX6_umpire_1 ⟨by decide, by decide⟩ ?_
  refine G_putI (jj := 0) dX6_umpire_2 flX6_101 rfl rfl rfl rfl ?_
  rw [hw]
  refine G_aload_n dX6_umpire_5 rfl ?_
  refine G_getI (jj := 33) dX6_umpire_6 flX6_181 rfl rfl rfl ?_
  refine G_bipush (n := 20) dX6_umpire_9 (by decide) ⟨by decide, by decide⟩ ?_
  refine G_icmp_eq 55 dX6_umpire_11 (by decide) (fun h11 => ?_) (fun h11 => ?_)
  · refine G_iconst (n := (-1)) dX6_umpire_55 ⟨by decide, by decide⟩ ?_
    exact G_iret dX6_umpire_56 rfl rfl rfl ⟨by rw [if_neg (by omega)], rfl, by rw [if_neg (by omega)]⟩
  · refine G_iload_n dX6_umpire_14 rfl ?_
    refine G_iconst (n := 0) dX6_umpire_15 ⟨by decide, by decide⟩ ?_
    refine G_bipush (n := 99) dX6_umpire_16 (by decide) ⟨by decide, by decide⟩ ?_
    refine G_cSi dX6_umpire_18 (c_X6_isIn l (d + 0) nu w x 0 99) mcX6_187 rfl rfl (by show _ ≤ d + 1; omega) rfl rfl (Nat.le_refl _) (Nat.le_refl _) ?_
    refine G_if_eq 55 dX6_umpire_21 (by decide) (fun h21 => ?_) (fun h21 => ?_)
    · refine G_iconst (n := (-1)) dX6_umpire_55 ⟨by decide, by decide⟩ ?_
      exact G_iret dX6_umpire_56 rfl rfl rfl ⟨by rw [if_neg (by omega)], rfl, by rw [if_neg (by omega)]⟩
    · refine G_iload_n dX6_umpire_24 rfl ?_
      refine G_iconst (n := 0) dX6_umpire_25 ⟨by decide, by decide⟩ ?_
      refine G_bipush (n := 99) dX6_umpire_26 (by decide) ⟨by decide, by decide⟩ ?_
      refine G_cSi dX6_umpire_28 (c_X6_isIn l (d + 0) nu w y 0 99) mcX6_187 rfl rfl (by show _ ≤ d + 1; omega) rfl rfl (Nat.le_refl _) (Nat.le_refl _) ?_
      refine G_if_eq 55 dX6_umpire_31 (by decide) (fun h31 => ?_) (fun h31 => ?_)
      · refine G_iconst (n := (-1)) dX6_umpire_55 ⟨by decide, by decide⟩ ?_
        exact G_iret dX6_umpire_56 rfl rfl rfl ⟨by rw [if_neg (by omega)], rfl, by rw [if_neg (by omega)]⟩
      · refine G_iload_n dX6_umpire_34 rfl ?_
        refine G_iconst (n := 1) dX6_umpire_35 ⟨by decide, by decide⟩ ?_
        refine G_iconst (n := 4) dX6_umpire_36 ⟨by decide, by decide⟩ ?_
        refine G_cSi dX6_umpire_37 (c_X6_isIn l (d + 0) nu w g 1 4) mcX6_187 rfl rfl (by show _ ≤ d + 1; omega) rfl rfl (Nat.le_refl _) (Nat.le_refl _) ?_
        refine G_if_eq 55 dX6_umpire_40 (by decide) (fun h40 => ?_) (fun h40 => ?_)
        · refine G_iconst (n := (-1)) dX6_umpire_55 ⟨by decide, by decide⟩ ?_
          exact G_iret dX6_umpire_56 rfl rfl rfl ⟨by rw [if_neg (by omega)], rfl, by rw [if_neg (by omega)]⟩
        · refine G_iload dX6_umpire_43 rfl ?_
          refine G_iconst (n := 0) dX6_umpire_45 ⟨by decide, by decide⟩ ?_
          refine G_sipush (n := 4095) dX6_umpire_46 (by decide) ⟨by decide, by decide⟩ ?_
          refine G_cSi dX6_umpire_49 (c_X6_isIn l (d + 0) nu w b 0 4095) mcX6_187 rfl rfl (by show _ ≤ d + 1; omega) rfl rfl (Nat.le_refl _) (Nat.le_refl _) ?_
          refine G_if_ne 57 dX6_umpire_52 (by decide) (fun h52 => ?_) (fun h52 => ?_)
          · refine G_aload_n dX6_umpire_57 rfl ?_
            refine G_getR (jj := 17) dX6_umpire_58 flX6_28 rfl rfl rfl ?_
            refine G_aload_n dX6_umpire_61 rfl ?_
            refine G_getIv (w 27 33) (jj := 33) dX6_umpire_62 flX6_181 rfl rfl rfl rfl ?_
            refine G_iload_n dX6_umpire_65 rfl ?_
            refine G_iast dX6_umpire_66 rfl (by omega) (by omega) ?_
            refine G_aload_n dX6_umpire_67 rfl ?_
            refine G_getR (jj := 18) dX6_umpire_68 flX6_31 rfl rfl rfl ?_
            refine G_aload_n dX6_umpire_71 rfl ?_
            refine G_getIv (w 27 33) (jj := 33) dX6_umpire_72 flX6_181 rfl rfl rfl rfl ?_
            refine G_iload_n dX6_umpire_75 rfl ?_
            refine G_iast dX6_umpire_76 rfl (by omega) (by omega) ?_
            refine G_aload_n dX6_umpire_77 rfl ?_
            refine G_getR (jj := 19) dX6_umpire_78 flX6_34 rfl rfl rfl ?_
            refine G_aload_n dX6_umpire_81 rfl ?_
            refine G_getIv (w 27 33) (jj := 33) dX6_umpire_82 flX6_181 rfl rfl rfl rfl ?_
            refine G_iload_n dX6_umpire_85 rfl ?_
            refine G_iast dX6_umpire_86 rfl (by omega) (by omega) ?_
            refine G_aload_n dX6_umpire_87 rfl ?_
            refine G_getR (jj := 20) dX6_umpire_88 flX6_37 rfl rfl rfl ?_
            refine G_aload_n dX6_umpire_91 rfl ?_
            refine G_getIv (w 27 33) (jj := 33) dX6_umpire_92 flX6_181 rfl rfl rfl rfl ?_
            refine G_iload dX6_umpire_95 rfl ?_
            refine G_iast dX6_umpire_97 rfl (by omega) (by omega) ?_
            refine G_aload_n dX6_umpire_98 rfl ?_
            refine G_dup_a dX6_umpire_99 ?_
            refine G_getIv (w 27 33) (jj := 33) dX6_umpire_100 flX6_181 rfl rfl rfl rfl ?_
            refine G_iconst (n := 1) dX6_umpire_103 ⟨by decide, by decide⟩ ?_
            refine G_iadd dX6_umpire_104 (iRm (by omega) (by omega)) ?_
            refine G_putI (jj := 33) dX6_umpire_105 flX6_181 rfl rfl rfl rfl ?_
            refine G_aload_n dX6_umpire_108 rfl ?_
            refine G_getIv (w 27 33 + 1) (jj := 33) dX6_umpire_109 flX6_181 rfl rfl rfl rfl ?_
            refine G_iconst (n := 1) dX6_umpire_112 ⟨by decide, by decide⟩ ?_
            refine G_isub dX6_umpire_113 (iRm (by omega) (by omega)) ?_
            exact G_iret dX6_umpire_114 rfl rfl rfl ⟨by rw [if_pos (by omega)]; congr 2; omega, rfl, by rw [if_pos (by omega)]; rfl⟩
          · refine G_iconst (n := (-1)) dX6_umpire_55 ⟨by decide, by decide⟩ ?_
            exact G_iret dX6_umpire_56 rfl rfl rfl ⟨by rw [if_neg (by omega)], rfl, by rw [if_neg (by omega)]⟩
theorem KM_ump (nu : Nat) (v : VV) (x y g b : Int) : KM v (umpB nu v x y g b) := fun k k0 k1 => funext fun j => ub_l nu v x y g b j (by omega) (by omega)
set_option maxRecDepth 20000 in
set_option maxHeartbeats 1000000 in
theorem lo_umpire (l : Launch) (hl : l.stackTraces = false) (L : Nat) (xs : Nat → Int32) (i t : Int) (h0 : 0 ≤ i) (h1 : i + 6 ≤ L) (hL : L ≤ 3072) (ht : t + 1 ≤ 1000) (nu : Nat) (v : VV) (h : LI nu t v) (c0 s0 : Nat) (hc : c0 + 3 ≤ 601024) (hs : s0 + 211 ≤ 7293034) (Z5 Z6 : Option AV) (k : KK l L xs i t c0 s0) : G l (yL_law, cL_law, some .boolean, 7, 13, 601024, 7293034, some (L, xs)) (fun r _ _ => r = some (ai 1)) c0 s0 (SG nu) 281 [some (ax 0), some (ar (some 0)), some (ar (some 27)), some (ar (some 58)), some (ai i), Z5, Z6] [] v := by
  have hS := h.1
  have hz : Sim nu v (up v 27 0 0) := Sim_0 hS
  have hK3 : CB nu t (up v 27 0 0) ∧ FZ nu (up v 27 0 0) ∧ R3 (up v 27 0 0) := ⟨CB_0 h.2.1, FZ_0 h.2.2.1, R3_0 h.2.2.2⟩
  have hMB : MB nu (up v 27 0 0) := hz.1
  refine G_aload_n dL_law_281 rfl ?_
  refine G_aload_nX dL_law_282 rfl ?_
  refine G_iload dL_law_283 rfl ?_
  refine G_iconst (n := 1) dL_law_285 ⟨by decide, by decide⟩ ?_
  refine G_iadd dL_law_286 (iRm (by omega) (by omega)) ?_
  refine G_sld (L := L) (xs := xs) rfl dL_law_287 (by omega) (by omega) ?_
  refine G_aload_nX dL_law_288 rfl ?_
  refine G_iload dL_law_289 rfl ?_
  refine G_iconst (n := 2) dL_law_291 ⟨by decide, by decide⟩ ?_
  refine G_iadd dL_law_292 (iRm (by omega) (by omega)) ?_
  refine G_sld (L := L) (xs := xs) rfl dL_law_293 (by omega) (by omega) ?_
  refine G_aload_nX dL_law_294 rfl ?_
  refine G_iload dL_law_295 rfl ?_
  refine G_iconst (n := 3) dL_law_297 ⟨by decide, by decide⟩ ?_
  refine G_iadd dL_law_298 (iRm (by omega) (by omega)) ?_
  refine G_sld (L := L) (xs := xs) rfl dL_law_299 (by omega) (by omega) ?_
  refine G_aload_nX dL_law_300 rfl ?_
  refine G_iload dL_law_301 rfl ?_
  refine G_iconst (n := 4) dL_law_303 ⟨by decide, by decide⟩ ?_
  refine G_iadd dL_law_304 (iRm (by omega) (by omega)) ?_
  refine G_sld (L := L) (xs := xs) rfl dL_law_305 (by omega) (by omega) ?_
  refine G_cVq (ci := 5) dL_law_306 rfl (by decide) rfl (c_X5_umpire l 10 nu v hS.2.1.1 hMB.1.1 (scI xs (i + 1)) (scI xs (i + 2)) (scI xs (i + 3)) (scI xs (i + 4))) mcL_43 rfl rfl (by show _ ≤ 13; omega) rfl rfl (by show _ ≤ 601024; omega) (by show _ ≤ 7293034; omega) (fun r S2 v2 hq9 => ?_)
  rcases hq9 with ⟨hok, rfl, rfl, rfl⟩ | ⟨hno, rfl, rfl, hv9⟩
  · have e33 : up v 27 0 0 27 33 = nu := hMB.1.2
    have hok2 : glue (umpB nu v (scI xs (i + 1)) (scI xs (i + 2)) (scI xs (i + 3)) (scI xs (i + 4))) (up v 27 0 0) 27 33 ≠ 20 ∧ (0 ≤ (scI xs (i + 1)) ∧ (scI xs (i + 1)) ≤ 99) ∧ (0 ≤ (scI xs (i + 2)) ∧ (scI xs (i + 2)) ≤ 99) ∧ (1 ≤ (scI xs (i + 3)) ∧ (scI xs (i + 3)) ≤ 4) ∧ (0 ≤ (scI xs (i + 4)) ∧ (scI xs (i + 4)) ≤ 4095) := ⟨fun e => hok.1 (by have e2 : up v 27 0 0 27 33 = 20 := e; omega), hok.2⟩
    refine G_aload_n dL_law_309 rfl ?_
    refine G_aload_nX dL_law_310 rfl ?_
    refine G_iload dL_law_311 rfl ?_
    refine G_iconst (n := 1) dL_law_313 ⟨by decide, by decide⟩ ?_
    refine G_iadd dL_law_314 (iRm (by omega) (by omega)) ?_
    refine G_sld (L := L) (xs := xs) rfl dL_law_315 (by omega) (by omega) ?_
    refine G_aload_nX dL_law_316 rfl ?_
    refine G_iload dL_law_317 rfl ?_
    refine G_iconst (n := 2) dL_law_319 ⟨by decide, by decide⟩ ?_
    refine G_iadd dL_law_320 (iRm (by omega) (by omega)) ?_
    refine G_sld (L := L) (xs := xs) rfl dL_law_321 (by omega) (by omega) ?_
    refine G_aload_nX dL_law_322 rfl ?_
    refine G_iload dL_law_323 rfl ?_
    refine G_iconst (n := 3) dL_law_325 ⟨by decide, by decide⟩ ?_
    refine G_iadd dL_law_326 (iRm (by omega) (by omega)) ?_
    refine G_sld (L := L) (xs := xs) rfl dL_law_327 (by omega) (by omega) ?_
    refine G_aload_nX dL_law_328 rfl ?_
    refine G_iload dL_law_329 rfl ?_
    refine G_iconst (n := 4) dL_law_331 ⟨by decide, by decide⟩ ?_
    refine G_iadd dL_law_332 (iRm (by omega) (by omega)) ?_
    refine G_sld (L := L) (xs := xs) rfl dL_law_333 (by omega) (by omega) ?_
    refine G_cVi (ci := 6) dL_law_334 rfl (by decide) rfl (c_X6_umpire2 l 11 (nu + 1) _ nu _ (KM_gl (KM_ump nu v (scI xs (i + 1)) (scI xs (i + 2)) (scI xs (i + 3)) (scI xs (i + 4)))) hMB (scI xs (i + 1)) (scI xs (i + 2)) (scI xs (i + 3)) (scI xs (i + 4))) mcL_47 rfl rfl (by show _ ≤ 13; omega) rfl rfl (by show _ ≤ 601024; omega) (by show _ ≤ 7293034; omega) ?_
    refine G_icmp_eq 850 dL_law_337 (by decide) (fun _ => ?_) (fun hne => absurd ?_ hne)
    · rw [if_pos hok2, umpV_gl]
      have q := K_up ht (K_ump (scI xs (i + 1)) (scI xs (i + 2)) (scI xs (i + 3)) (scI xs (i + 4)) hMB.1.2 hK3)
      exact k (nu + 1) _ _ _ _ _ (LI_gl (Sim_ump hz hK3.2.1 (by have := hMB.1.1; have := hok.1; omega) hok.2.1 hok.2.2.1 hok.2.2.2.1 hok.2.2.2.2) q.1 q.2.1 q.2.2) (by omega) (by omega)
    · rw [if_pos hok2]
      exact hMB.1.2.symm
  · rw [hv9]
    have e33 : up v 27 0 0 27 33 = nu := hMB.1.2
    have hno2 : ¬ (up v 27 0 0 27 33 ≠ 20 ∧ (0 ≤ (scI xs (i + 1)) ∧ (scI xs (i + 1)) ≤ 99) ∧ (0 ≤ (scI xs (i + 2)) ∧ (scI xs (i + 2)) ≤ 99) ∧ (1 ≤ (scI xs (i + 3)) ∧ (scI xs (i + 3)) ≤ 4) ∧ (0 ≤ (scI xs (i + 4)) ∧ (scI xs (i + 4)) ≤ 4095)) := fun q => hno ⟨by have := q.1; omega, q.2⟩
    refine G_aload_n dL_law_309 rfl ?_
    refine G_aload_nX dL_law_310 rfl ?_
    refine G_iload dL_law_311 rfl ?_
    refine G_iconst (n := 1) dL_law_313 ⟨by decide, by decide⟩ ?_
    refine G_iadd dL_law_314 (iRm (by omega) (by omega)) ?_
    refine G_sld (L := L) (xs := xs) rfl dL_law_315 (by omega) (by omega) ?_
    refine G_aload_nX dL_law_316 rfl ?_
    refine G_iload dL_law_317 rfl ?_
    refine G_iconst (n := 2) dL_law_319 ⟨by decide, by decide⟩ ?_
    refine G_iadd dL_law_320 (iRm (by omega) (by omega)) ?_
    refine G_sld (L := L) (xs := xs) rfl dL_law_321 (by omega) (by omega) ?_
    refine G_aload_nX dL_law_322 rfl ?_
    refine G_iload dL_law_323 rfl ?_
    refine G_iconst (n := 3) dL_law_325 ⟨by decide, by decide⟩ ?_
    refine G_iadd dL_law_326 (iRm (by omega) (by omega)) ?_
    refine G_sld (L := L) (xs := xs) rfl dL_law_327 (by omega) (by omega) ?_
    refine G_aload_nX dL_law_328 rfl ?_
    refine G_iload dL_law_329 rfl ?_
    refine G_iconst (n := 4) dL_law_331 ⟨by decide, by decide⟩ ?_
    refine G_iadd dL_law_332 (iRm (by omega) (by omega)) ?_
    refine G_sld (L := L) (xs := xs) rfl dL_law_333 (by omega) (by omega) ?_
    refine G_cVi (ci := 6) dL_law_334 rfl (by decide) rfl (c_X6_umpire l 11 nu v _ rfl hMB (scI xs (i + 1)) (scI xs (i + 2)) (scI xs (i + 3)) (scI xs (i + 4))) mcL_47 rfl rfl (by show _ ≤ 13; omega) rfl rfl (by show _ ≤ 601024; omega) (by show _ ≤ 7293034; omega) ?_
    refine G_icmp_eq 850 dL_law_337 (by decide) (fun _ => ?_) (fun hne => absurd ?_ hne)
    · rw [if_neg hno2]
      exact k nu _ _ _ _ _ (LI_read h ht) (by omega) (by omega)
    · rw [if_neg hno2]
