/-- where a call of the script has been dealt with -/
def KK (l : Launch) (L : Nat) (xs : Nat → Int32) (i t : Int) (c0 s0 : Nat) : Prop := ∀ (nu : Nat) (v : VV) (c1 s1 : Nat) (Z5 Z6 : Option AV), LI nu (t + 1) v → c1 ≤ c0 + 3 → s1 ≤ s0 + 211 → G l (yL_law, cL_law, some .boolean, 7, 13, 601024, 7293034, some (L, xs)) (fun r _ _ => r = some (ai 1)) c1 s1 (SG nu) 850 [some (ax 0), some (ar (some 0)), some (ar (some 27)), some (ar (some 58)), some (ai i), Z5, Z6] [] v
set_option maxRecDepth 20000 in
set_option maxHeartbeats 1000000 in
theorem lo_fault (l : Launch) (hl : l.stackTraces = false) (L : Nat) (xs : Nat → Int32) (i t : Int) (h0 : 0 ≤ i) (h1 : i + 6 ≤ L) (hL : L ≤ 3072) (ht : t + 1 ≤ 1000) (nu : Nat) (v : VV) (h : LI nu t v) (c0 s0 : Nat) (hc : c0 + 3 ≤ 601024) (hs : s0 + 211 ≤ 7293034) (Z5 Z6 : Option AV) (k : KK l L xs i t c0 s0) : G l (yL_law, cL_law, some .boolean, 7, 13, 601024, 7293034, some (L, xs)) (fun r _ _ => r = some (ai 1)) c0 s0 (SG nu) 243 [some (ax 0), some (ar (some 0)), some (ar (some 27)), some (ar (some 58)), some (ai i), Z5, Z6] [] v := by
  have hS := h.1
  have hz : Sim nu v (up v 27 0 0) := Sim_0 hS
  have hK3 : CB nu t (up v 27 0 0) ∧ FZ nu (up v 27 0 0) ∧ R3 (up v 27 0 0) := ⟨CB_0 h.2.1, FZ_0 h.2.2.1, R3_0 h.2.2.2⟩
  have hMB : MB nu (up v 27 0 0) := hz.1
  refine G_aload_n dL_law_243 rfl ?_
  refine G_cVi (ci := 5) dL_law_244 rfl (by decide) rfl (c_X5_fault l 11 nu v (up v 27 0 0) hz ) mcL_34 rfl rfl (by show _ ≤ 13; omega) rfl rfl (by show _ ≤ 601024; omega) (by show _ ≤ 7293034; omega) ?_
  refine G_aload_n dL_law_247 rfl ?_
  refine G_cVi (ci := 6) dL_law_248 rfl (by decide) rfl (c_X6_fault l 12 nu v ) mcL_37 rfl rfl (by show _ ≤ 13; omega) rfl rfl (by show _ ≤ 601024; omega) (by show _ ≤ 7293034; omega) ?_
  exact G_icmp_eq 850 dL_law_251 (by decide) (fun _ => k nu _ _ _ _ _ (LI_read h ht) (by omega) (by omega)) (fun hne => absurd rfl hne)
set_option maxRecDepth 20000 in
set_option maxHeartbeats 1000000 in
theorem lo_rule (l : Launch) (hl : l.stackTraces = false) (L : Nat) (xs : Nat → Int32) (i t : Int) (h0 : 0 ≤ i) (h1 : i + 6 ≤ L) (hL : L ≤ 3072) (ht : t + 1 ≤ 1000) (nu : Nat) (v : VV) (h : LI nu t v) (c0 s0 : Nat) (hc : c0 + 3 ≤ 601024) (hs : s0 + 211 ≤ 7293034) (Z5 Z6 : Option AV) (k : KK l L xs i t c0 s0) : G l (yL_law, cL_law, some .boolean, 7, 13, 601024, 7293034, some (L, xs)) (fun r _ _ => r = some (ai 1)) c0 s0 (SG nu) 256 [some (ax 0), some (ar (some 0)), some (ar (some 27)), some (ar (some 58)), some (ai i), Z5, Z6] [] v := by
  have hS := h.1
  have hz : Sim nu v (up v 27 0 0) := Sim_0 hS
  have hK3 : CB nu t (up v 27 0 0) ∧ FZ nu (up v 27 0 0) ∧ R3 (up v 27 0 0) := ⟨CB_0 h.2.1, FZ_0 h.2.2.1, R3_0 h.2.2.2⟩
  have hMB : MB nu (up v 27 0 0) := hz.1
  refine G_aload_n dL_law_256 rfl ?_
  refine G_aload_nX dL_law_257 rfl ?_
  refine G_iload dL_law_258 rfl ?_
  refine G_iconst (n := 1) dL_law_260 ⟨by decide, by decide⟩ ?_
  refine G_iadd dL_law_261 (iRm (by omega) (by omega)) ?_
  refine G_sld (L := L) (xs := xs) rfl dL_law_262 (by omega) (by omega) ?_
  refine G_cVi (ci := 5) dL_law_263 rfl (by decide) rfl (c_X5_rule l 11 nu v (up v 27 0 0) hz (scI xs (i + 1))) mcL_38 rfl rfl (by show _ ≤ 13; omega) rfl rfl (by show _ ≤ 601024; omega) (by show _ ≤ 7293034; omega) ?_
  refine G_aload_n dL_law_266 rfl ?_
  refine G_aload_nX dL_law_267 rfl ?_
  refine G_iload dL_law_268 rfl ?_
  refine G_iconst (n := 1) dL_law_270 ⟨by decide, by decide⟩ ?_
  refine G_iadd dL_law_271 (iRm (by omega) (by omega)) ?_
  refine G_sld (L := L) (xs := xs) rfl dL_law_272 (by omega) (by omega) ?_
  refine G_cVi (ci := 6) dL_law_273 rfl (by decide) rfl (c_X6_rule l 12 nu v _ rfl (scI xs (i + 1))) mcL_42 rfl rfl (by show _ ≤ 13; omega) rfl rfl (by show _ ≤ 601024; omega) (by show _ ≤ 7293034; omega) ?_
  exact G_icmp_eq 850 dL_law_276 (by decide) (fun _ => k nu _ _ _ _ _ (LI_read h ht) (by omega) (by omega)) (fun hne => absurd rfl hne)
set_option maxRecDepth 20000 in
set_option maxHeartbeats 1000000 in
theorem lo_may (l : Launch) (hl : l.stackTraces = false) (L : Nat) (xs : Nat → Int32) (i t : Int) (h0 : 0 ≤ i) (h1 : i + 6 ≤ L) (hL : L ≤ 3072) (ht : t + 1 ≤ 1000) (nu : Nat) (v : VV) (h : LI nu t v) (c0 s0 : Nat) (hc : c0 + 3 ≤ 601024) (hs : s0 + 211 ≤ 7293034) (Z5 Z6 : Option AV) (k : KK l L xs i t c0 s0) : G l (yL_law, cL_law, some .boolean, 7, 13, 601024, 7293034, some (L, xs)) (fun r _ _ => r = some (ai 1)) c0 s0 (SG nu) 480 [some (ax 0), some (ar (some 0)), some (ar (some 27)), some (ar (some 58)), some (ai i), Z5, Z6] [] v := by
  have hS := h.1
  have hz : Sim nu v (up v 27 0 0) := Sim_0 hS
  have hK3 : CB nu t (up v 27 0 0) ∧ FZ nu (up v 27 0 0) ∧ R3 (up v 27 0 0) := ⟨CB_0 h.2.1, FZ_0 h.2.2.1, R3_0 h.2.2.2⟩
  have hMB : MB nu (up v 27 0 0) := hz.1
  refine G_aload_n dL_law_480 rfl ?_
  refine G_aload_nX dL_law_481 rfl ?_
  refine G_iload dL_law_482 rfl ?_
  refine G_iconst (n := 1) dL_law_484 ⟨by decide, by decide⟩ ?_
  refine G_iadd dL_law_485 (iRm (by omega) (by omega)) ?_
  refine G_sld (L := L) (xs := xs) rfl dL_law_486 (by omega) (by omega) ?_
  refine G_aload_nX dL_law_487 rfl ?_
  refine G_iload dL_law_488 rfl ?_
  refine G_iconst (n := 2) dL_law_490 ⟨by decide, by decide⟩ ?_
  refine G_iadd dL_law_491 (iRm (by omega) (by omega)) ?_
  refine G_sld (L := L) (xs := xs) rfl dL_law_492 (by omega) (by omega) ?_
  refine G_cVi (ci := 5) dL_law_493 rfl (by decide) rfl (c_X5_may l 8 nu v (up v 27 0 0) hz (scI xs (i + 1)) (scI xs (i + 2))) mcL_57 rfl rfl (by show _ ≤ 13; omega) rfl rfl (by show _ ≤ 601024; omega) (by show _ ≤ 7293034; omega) ?_
  refine G_aload_n dL_law_496 rfl ?_
  refine G_aload_nX dL_law_497 rfl ?_
  refine G_iload dL_law_498 rfl ?_
  refine G_iconst (n := 1) dL_law_500 ⟨by decide, by decide⟩ ?_
  refine G_iadd dL_law_501 (iRm (by omega) (by omega)) ?_
  refine G_sld (L := L) (xs := xs) rfl dL_law_502 (by omega) (by omega) ?_
  refine G_aload_nX dL_law_503 rfl ?_
  refine G_iload dL_law_504 rfl ?_
  refine G_iconst (n := 2) dL_law_506 ⟨by decide, by decide⟩ ?_
  refine G_iadd dL_law_507 (iRm (by omega) (by omega)) ?_
  refine G_sld (L := L) (xs := xs) rfl dL_law_508 (by omega) (by omega) ?_
  refine G_cVi (ci := 6) dL_law_509 rfl (by decide) rfl (c_X6_may l 9 nu v _ rfl hMB (scI xs (i + 1)) (scI xs (i + 2))) mcL_61 rfl rfl (by show _ ≤ 13; omega) rfl rfl (by show _ ≤ 601024; omega) (by show _ ≤ 7293034; omega) ?_
  exact G_icmp_eq 850 dL_law_512 (by decide) (fun _ => k nu _ _ _ _ _ (LI_read h ht) (by omega) (by omega)) (fun hne => absurd rfl hne)
set_option maxRecDepth 20000 in
set_option maxHeartbeats 1000000 in
theorem lo_cost (l : Launch) (hl : l.stackTraces = false) (L : Nat) (xs : Nat → Int32) (i t : Int) (h0 : 0 ≤ i) (h1 : i + 6 ≤ L) (hL : L ≤ 3072) (ht : t + 1 ≤ 1000) (nu : Nat) (v : VV) (h : LI nu t v) (c0 s0 : Nat) (hc : c0 + 3 ≤ 601024) (hs : s0 + 211 ≤ 7293034) (Z5 Z6 : Option AV) (k : KK l L xs i t c0 s0) : G l (yL_law, cL_law, some .boolean, 7, 13, 601024, 7293034, some (L, xs)) (fun r _ _ => r = some (ai 1)) c0 s0 (SG nu) 517 [some (ax 0), some (ar (some 0)), some (ar (some 27)), some (ar (some 58)), some (ai i), Z5, Z6] [] v := by
  have hS := h.1
  have hz : Sim nu v (up v 27 0 0) := Sim_0 hS
  have hK3 : CB nu t (up v 27 0 0) ∧ FZ nu (up v 27 0 0) ∧ R3 (up v 27 0 0) := ⟨CB_0 h.2.1, FZ_0 h.2.2.1, R3_0 h.2.2.2⟩
  have hMB : MB nu (up v 27 0 0) := hz.1
  refine G_aload_n dL_law_517 rfl ?_
  refine G_aload_nX dL_law_518 rfl ?_
  refine G_iload dL_law_519 rfl ?_
  refine G_iconst (n := 1) dL_law_521 ⟨by decide, by decide⟩ ?_
  refine G_iadd dL_law_522 (iRm (by omega) (by omega)) ?_
  refine G_sld (L := L) (xs := xs) rfl dL_law_523 (by omega) (by omega) ?_
  refine G_aload_nX dL_law_524 rfl ?_
  refine G_iload dL_law_525 rfl ?_
  refine G_iconst (n := 2) dL_law_527 ⟨by decide, by decide⟩ ?_
  refine G_iadd dL_law_528 (iRm (by omega) (by omega)) ?_
  refine G_sld (L := L) (xs := xs) rfl dL_law_529 (by omega) (by omega) ?_
  refine G_cVi (ci := 5) dL_law_530 rfl (by decide) rfl (c_X5_cost l 8 nu v (up v 27 0 0) hz (scI xs (i + 1)) (scI xs (i + 2))) mcL_62 rfl rfl (by show _ ≤ 13; omega) rfl rfl (by show _ ≤ 601024; omega) (by show _ ≤ 7293034; omega) ?_
  refine G_aload_n dL_law_533 rfl ?_
  refine G_aload_nX dL_law_534 rfl ?_
  refine G_iload dL_law_535 rfl ?_
  refine G_iconst (n := 1) dL_law_537 ⟨by decide, by decide⟩ ?_
  refine G_iadd dL_law_538 (iRm (by omega) (by omega)) ?_
  refine G_sld (L := L) (xs := xs) rfl dL_law_539 (by omega) (by omega) ?_
  refine G_aload_nX dL_law_540 rfl ?_
  refine G_iload dL_law_541 rfl ?_
  refine G_iconst (n := 2) dL_law_543 ⟨by decide, by decide⟩ ?_
  refine G_iadd dL_law_544 (iRm (by omega) (by omega)) ?_
  refine G_sld (L := L) (xs := xs) rfl dL_law_545 (by omega) (by omega) ?_
  refine G_cVi (ci := 6) dL_law_546 rfl (by decide) rfl (c_X6_cost l 9 nu v _ rfl hMB (scI xs (i + 1)) (scI xs (i + 2))) mcL_65 rfl rfl (by show _ ≤ 13; omega) rfl rfl (by show _ ≤ 601024; omega) (by show _ ≤ 7293034; omega) ?_
  exact G_icmp_eq 850 dL_law_549 (by decide) (fun _ => k nu _ _ _ _ _ (LI_read h ht) (by omega) (by omega)) (fun hne => absurd rfl hne)
set_option maxRecDepth 20000 in
set_option maxHeartbeats 1000000 in
theorem lo_seat (l : Launch) (hl : l.stackTraces = false) (L : Nat) (xs : Nat → Int32) (i t : Int) (h0 : 0 ≤ i) (h1 : i + 6 ≤ L) (hL : L ≤ 3072) (ht : t + 1 ≤ 1000) (nu : Nat) (v : VV) (h : LI nu t v) (c0 s0 : Nat) (hc : c0 + 3 ≤ 601024) (hs : s0 + 211 ≤ 7293034) (Z5 Z6 : Option AV) (k : KK l L xs i t c0 s0) : G l (yL_law, cL_law, some .boolean, 7, 13, 601024, 7293034, some (L, xs)) (fun r _ _ => r = some (ai 1)) c0 s0 (SG nu) 592 [some (ax 0), some (ar (some 0)), some (ar (some 27)), some (ar (some 58)), some (ai i), Z5, Z6] [] v := by
  have hS := h.1
  have hz : Sim nu v (up v 27 0 0) := Sim_0 hS
  have hK3 : CB nu t (up v 27 0 0) ∧ FZ nu (up v 27 0 0) ∧ R3 (up v 27 0 0) := ⟨CB_0 h.2.1, FZ_0 h.2.2.1, R3_0 h.2.2.2⟩
  have hMB : MB nu (up v 27 0 0) := hz.1
  refine G_aload_n dL_law_592 rfl ?_
  refine G_aload_nX dL_law_593 rfl ?_
  refine G_iload dL_law_594 rfl ?_
  refine G_iconst (n := 1) dL_law_596 ⟨by decide, by decide⟩ ?_
  refine G_iadd dL_law_597 (iRm (by omega) (by omega)) ?_
  refine G_sld (L := L) (xs := xs) rfl dL_law_598 (by omega) (by omega) ?_
  refine G_cVi (ci := 5) dL_law_599 rfl (by decide) rfl (c_X5_seat l 11 nu v (up v 27 0 0) hz (scI xs (i + 1))) mcL_74 rfl rfl (by show _ ≤ 13; omega) rfl rfl (by show _ ≤ 601024; omega) (by show _ ≤ 7293034; omega) ?_
  refine G_aload_n dL_law_602 rfl ?_
  refine G_aload_nX dL_law_603 rfl ?_
  refine G_iload dL_law_604 rfl ?_
  refine G_iconst (n := 1) dL_law_606 ⟨by decide, by decide⟩ ?_
  refine G_iadd dL_law_607 (iRm (by omega) (by omega)) ?_
  refine G_sld (L := L) (xs := xs) rfl dL_law_608 (by omega) (by omega) ?_
  refine G_cVi (ci := 6) dL_law_609 rfl (by decide) rfl (c_X6_seat l 11 nu v _ rfl hMB (scI xs (i + 1))) mcL_77 rfl rfl (by show _ ≤ 13; omega) rfl rfl (by show _ ≤ 601024; omega) (by show _ ≤ 7293034; omega) ?_
  exact G_icmp_eq 850 dL_law_612 (by decide) (fun _ => k nu _ _ _ _ _ (LI_read h ht) (by omega) (by omega)) (fun hne => absurd rfl hne)
set_option maxRecDepth 20000 in
set_option maxHeartbeats 1000000 in
theorem lo_stood (l : Launch) (hl : l.stackTraces = false) (L : Nat) (xs : Nat → Int32) (i t : Int) (h0 : 0 ≤ i) (h1 : i + 6 ≤ L) (hL : L ≤ 3072) (ht : t + 1 ≤ 1000) (nu : Nat) (v : VV) (h : LI nu t v) (c0 s0 : Nat) (hc : c0 + 3 ≤ 601024) (hs : s0 + 211 ≤ 7293034) (Z5 Z6 : Option AV) (k : KK l L xs i t c0 s0) : G l (yL_law, cL_law, some .boolean, 7, 13, 601024, 7293034, some (L, xs)) (fun r _ _ => r = some (ai 1)) c0 s0 (SG nu) 775 [some (ax 0), some (ar (some 0)), some (ar (some 27)), some (ar (some 58)), some (ai i), Z5, Z6] [] v := by
  have hS := h.1
  have hz : Sim nu v (up v 27 0 0) := Sim_0 hS
  have hK3 : CB nu t (up v 27 0 0) ∧ FZ nu (up v 27 0 0) ∧ R3 (up v 27 0 0) := ⟨CB_0 h.2.1, FZ_0 h.2.2.1, R3_0 h.2.2.2⟩
  have hMB : MB nu (up v 27 0 0) := hz.1
  refine G_aload_n dL_law_775 rfl ?_
  refine G_aload_nX dL_law_776 rfl ?_
  refine G_iload dL_law_777 rfl ?_
  refine G_iconst (n := 1) dL_law_779 ⟨by decide, by decide⟩ ?_
  refine G_iadd dL_law_780 (iRm (by omega) (by omega)) ?_
  refine G_sld (L := L) (xs := xs) rfl dL_law_781 (by omega) (by omega) ?_
  refine G_aload_nX dL_law_782 rfl ?_
  refine G_iload dL_law_783 rfl ?_
  refine G_iconst (n := 2) dL_law_785 ⟨by decide, by decide⟩ ?_
  refine G_iadd dL_law_786 (iRm (by omega) (by omega)) ?_
  refine G_sld (L := L) (xs := xs) rfl dL_law_787 (by omega) (by omega) ?_
  refine G_cVi (ci := 5) dL_law_788 rfl (by decide) rfl (c_X5_stood l 10 nu v (up v 27 0 0) hz (scI xs (i + 1)) (scI xs (i + 2))) mcL_96 rfl rfl (by show _ ≤ 13; omega) rfl rfl (by show _ ≤ 601024; omega) (by show _ ≤ 7293034; omega) ?_
  refine G_aload_n dL_law_791 rfl ?_
  refine G_aload_nX dL_law_792 rfl ?_
  refine G_iload dL_law_793 rfl ?_
  refine G_iconst (n := 1) dL_law_795 ⟨by decide, by decide⟩ ?_
  refine G_iadd dL_law_796 (iRm (by omega) (by omega)) ?_
  refine G_sld (L := L) (xs := xs) rfl dL_law_797 (by omega) (by omega) ?_
  refine G_aload_nX dL_law_798 rfl ?_
  refine G_iload dL_law_799 rfl ?_
  refine G_iconst (n := 2) dL_law_801 ⟨by decide, by decide⟩ ?_
  refine G_iadd dL_law_802 (iRm (by omega) (by omega)) ?_
  refine G_sld (L := L) (xs := xs) rfl dL_law_803 (by omega) (by omega) ?_
  refine G_cVi (ci := 6) dL_law_804 rfl (by decide) rfl (c_X6_stood l 11 nu v _ rfl hMB (scI xs (i + 1)) (scI xs (i + 2))) mcL_99 rfl rfl (by show _ ≤ 13; omega) rfl rfl (by show _ ≤ 601024; omega) (by show _ ≤ 7293034; omega) ?_
  exact G_icmp_eq 850 dL_law_807 (by decide) (fun _ => k nu _ _ _ _ _ (LI_read h ht) (by omega) (by omega)) (fun hne => absurd rfl hne)
set_option maxRecDepth 20000 in
set_option maxHeartbeats 1000000 in
theorem lo_together (l : Launch) (hl : l.stackTraces = false) (L : Nat) (xs : Nat → Int32) (i t : Int) (h0 : 0 ≤ i) (h1 : i + 6 ≤ L) (hL : L ≤ 3072) (ht : t + 1 ≤ 1000) (nu : Nat) (v : VV) (h : LI nu t v) (c0 s0 : Nat) (hc : c0 + 3 ≤ 601024) (hs : s0 + 211 ≤ 7293034) (Z5 Z6 : Option AV) (k : KK l L xs i t c0 s0) : G l (yL_law, cL_law, some .boolean, 7, 13, 601024, 7293034, some (L, xs)) (fun r _ _ => r = some (ai 1)) c0 s0 (SG nu) 812 [some (ax 0), some (ar (some 0)), some (ar (some 27)), some (ar (some 58)), some (ai i), Z5, Z6] [] v := by
  have hS := h.1
  have hz : Sim nu v (up v 27 0 0) := Sim_0 hS
  have hK3 : CB nu t (up v 27 0 0) ∧ FZ nu (up v 27 0 0) ∧ R3 (up v 27 0 0) := ⟨CB_0 h.2.1, FZ_0 h.2.2.1, R3_0 h.2.2.2⟩
  have hMB : MB nu (up v 27 0 0) := hz.1
  refine G_aload_n dL_law_812 rfl ?_
  refine G_cVi (ci := 5) dL_law_813 rfl (by decide) rfl (c_X5_together l 7 nu v (up v 27 0 0) hz ) mcL_100 rfl rfl (by show _ ≤ 13; omega) rfl rfl (by show _ ≤ 601024; omega) (by show _ ≤ 7293034; omega) ?_
  refine G_aload_n dL_law_816 rfl ?_
  refine G_cVi (ci := 6) dL_law_817 rfl (by decide) rfl (c_X6_together l 8 nu v _ rfl hMB ) mcL_103 rfl rfl (by show _ ≤ 13; omega) rfl rfl (by show _ ≤ 601024; omega) (by show _ ≤ 7293034; omega) ?_
  exact G_icmp_eq 850 dL_law_820 (by decide) (fun _ => k nu _ _ _ _ _ (LI_read h ht) (by omega) (by omega)) (fun hne => absurd rfl hne)
set_option maxRecDepth 20000 in
set_option maxHeartbeats 1000000 in
theorem lo_count (l : Launch) (hl : l.stackTraces = false) (L : Nat) (xs : Nat → Int32) (i t : Int) (h0 : 0 ≤ i) (h1 : i + 6 ≤ L) (hL : L ≤ 3072) (ht : t + 1 ≤ 1000) (nu : Nat) (v : VV) (h : LI nu t v) (c0 s0 : Nat) (hc : c0 + 3 ≤ 601024) (hs : s0 + 211 ≤ 7293034) (Z5 Z6 : Option AV) (k : KK l L xs i t c0 s0) : G l (yL_law, cL_law, some .boolean, 7, 13, 601024, 7293034, some (L, xs)) (fun r _ _ => r = some (ai 1)) c0 s0 (SG nu) 825 [some (ax 0), some (ar (some 0)), some (ar (some 27)), some (ar (some 58)), some (ai i), Z5, Z6] [] v := by
  have hS := h.1
  have hz : Sim nu v (up v 27 0 0) := Sim_0 hS
  have hK3 : CB nu t (up v 27 0 0) ∧ FZ nu (up v 27 0 0) ∧ R3 (up v 27 0 0) := ⟨CB_0 h.2.1, FZ_0 h.2.2.1, R3_0 h.2.2.2⟩
  have hMB : MB nu (up v 27 0 0) := hz.1
  refine G_aload_n dL_law_825 rfl ?_
  refine G_aload_nX dL_law_826 rfl ?_
  refine G_iload dL_law_827 rfl ?_
  refine G_iconst (n := 1) dL_law_829 ⟨by decide, by decide⟩ ?_
  refine G_iadd dL_law_830 (iRm (by omega) (by omega)) ?_
  refine G_sld (L := L) (xs := xs) rfl dL_law_831 (by omega) (by omega) ?_
  refine G_cVi (ci := 5) dL_law_832 rfl (by decide) rfl (c_X5_count l 8 nu v (up v 27 0 0) hz (scI xs (i + 1))) mcL_104 rfl rfl (by show _ ≤ 13; omega) rfl rfl (by show _ ≤ 601024; omega) (by show _ ≤ 7293034; omega) ?_
  refine G_aload_n dL_law_835 rfl ?_
  refine G_aload_nX dL_law_836 rfl ?_
  refine G_iload dL_law_837 rfl ?_
  refine G_iconst (n := 1) dL_law_839 ⟨by decide, by decide⟩ ?_
  refine G_iadd dL_law_840 (iRm (by omega) (by omega)) ?_
  refine G_sld (L := L) (xs := xs) rfl dL_law_841 (by omega) (by omega) ?_
  refine G_cVi (ci := 6) dL_law_842 rfl (by decide) rfl (c_X6_count l 11 nu v _ rfl hMB (scI xs (i + 1))) mcL_107 rfl rfl (by show _ ≤ 13; omega) rfl rfl (by show _ ≤ 601024; omega) (by show _ ≤ 7293034; omega) ?_
  exact G_icmp_eq 850 dL_law_845 (by decide) (fun _ => k nu _ _ _ _ _ (LI_read h ht) (by omega) (by omega)) (fun hne => absurd rfl hne)
