theorem lc0 {x y : Int} (h : x = y) : (if x < y then (-1 : Int) else if x = y then 0 else 1) = 0 := by
  rw [if_neg (by omega), if_pos h]
theorem abo_eq {nu : Nat} {v z : VV} (hS : Sim nu v z) {u w : Int} (h : abo nu u w) : aboV v u w = aboutS z u w := by
  have hn : u.toNat < nu := by have := h.1; omega
  have e : ((u.toNat : Nat) : Int) = u := by have := h.1; omega
  have a := hS.2.2.1 u.toNat hn
  have b := hS.2.2.2.2.2.1.2.1 u.toNat hn
  rw [e] at a b
  unfold aboV aboutS
  rw [a.2.2.2.1, b, a.2.2.2.2.1, a.2.2.2.2.2.1, a.2.2.2.2.2.2.1, a.2.2.2.2.2.2.2]
theorem LI_58 {nu : Nat} {t : Int} {v w : VV} (h : LI nu t v) (ht : t + 1 ≤ 1000) (h1 : ∀ k, k ≠ 27 → k ≠ 58 → w k = v k) (h2 : ∀ j : Int, j ≠ 0 → w 27 j = v 27 j) : LI nu (t + 1) w := by
  have e : glue v w = w := by
    funext k
    by_cases g : 27 ≤ k ∧ k < 59
    · rw [gl_m g.1 g.2]
    · rw [gl_b (by omega), h1 k (by omega) (by omega)]
  have hS : Sim nu v w := Sim_c48 h.1 (fun k hk => h1 k (by omega) (by omega)) (fun j hj => h2 j (by omega)) (fun s _ _ => by rw [h1 48 (by omega) (by omega)])
  rw [← e]
  have q := CB_up h.2.1 (show t ≤ t + 1 by omega) ht
  refine LI_gl hS ⟨q.1, by rw [h2 36 (by omega)]; exact q.2.1, by rw [h1 38 (by omega) (by omega), h1 39 (by omega) (by omega), h1 40 (by omega) (by omega)]; exact q.2.2⟩ ?_ ?_
  · unfold FZ
    rw [h1 38 (by omega) (by omega), h1 39 (by omega) (by omega), h1 40 (by omega) (by omega), h1 41 (by omega) (by omega), h1 42 (by omega) (by omega), h1 43 (by omega) (by omega)]
    exact h.2.2.1
  · unfold R3
    rw [h1 30 (by omega) (by omega), h1 31 (by omega) (by omega), h1 32 (by omega) (by omega)]
    exact h.2.2.2
set_option maxRecDepth 20000 in
set_option maxHeartbeats 1000000 in
theorem lo_about (l : Launch) (hl : l.stackTraces = false) (L : Nat) (xs : Nat → Int32) (i t : Int) (h0 : 0 ≤ i) (h1 : i + 6 ≤ L) (hL : L ≤ 3072) (ht : t + 1 ≤ 1000) (nu : Nat) (v : VV) (h : LI nu t v) (c0 s0 : Nat) (hc : c0 + 3 ≤ 601024) (hs : s0 + 211 ≤ 7293034) (Z5 Z6 : Option AV) (k : KK l L xs i t c0 s0) : G l (yL_law, cL_law, some .boolean, 7, 13, 601024, 7293034, some (L, xs)) (fun r _ _ => r = some (ai 1)) c0 s0 (SG nu) 707 [some (ax 0), some (ar (some 0)), some (ar (some 27)), some (ar (some 58)), some (ai i), Z5, Z6] [] v := by
  have hS := h.1
  have hz : Sim nu v (up v 27 0 0) := Sim_0 hS
  have hK3 : CB nu t (up v 27 0 0) ∧ FZ nu (up v 27 0 0) ∧ R3 (up v 27 0 0) := ⟨CB_0 h.2.1, FZ_0 h.2.2.1, R3_0 h.2.2.2⟩
  have hMB : MB nu (up v 27 0 0) := hz.1
  refine G_aload_n dL_law_707 rfl ?_
  refine G_aload_nX dL_law_708 rfl ?_
  refine G_iload dL_law_709 rfl ?_
  refine G_iconst (n := 1) dL_law_711 ⟨by decide, by decide⟩ ?_
  refine G_iadd dL_law_712 (iRm (by omega) (by omega)) ?_
  refine G_sld (L := L) (xs := xs) rfl dL_law_713 (by omega) (by omega) ?_
  refine G_aload_nX dL_law_714 rfl ?_
  refine G_iload dL_law_715 rfl ?_
  refine G_iconst (n := 2) dL_law_717 ⟨by decide, by decide⟩ ?_
  refine G_iadd dL_law_718 (iRm (by omega) (by omega)) ?_
  refine G_sld (L := L) (xs := xs) rfl dL_law_719 (by omega) (by omega) ?_
  refine G_aload_n dL_law_720 rfl ?_
  refine G_callSW (as := [ar (some 0), ai (scI xs (i + 1)), ai (scI xs (i + 2)), ar (some 58)]) (st := []) dL_law_721 mw_87 (c_L_about l hl 5 nu v ⟨hS.2.1.1, hMB.1.1⟩ (scI xs (i + 1)) (scI xs (i + 2))) rfl (by show _ ≤ 13; omega) rfl rfl (by show _ ≤ 601024; omega) (by show _ ≤ 7293034; omega) (fun r S2 v2 hq9 => ?_)
  obtain ⟨rfl, hq⟩ := hq9
  rcases hq with ⟨hab, rfl, rfl⟩ | ⟨hab, rfl, e29⟩
  · have hae := abo_eq hz hab
    refine G_istore dL_law_724 rfl rfl ?_
    refine G_aload_n dL_law_726 rfl ?_
    refine G_aload_nX dL_law_727 rfl ?_
    refine G_iload dL_law_728 rfl ?_
    refine G_iconst (n := 1) dL_law_730 ⟨by decide, by decide⟩ ?_
    refine G_iadd dL_law_731 (iRm (by omega) (by omega)) ?_
    refine G_sld (L := L) (xs := xs) rfl dL_law_732 (by omega) (by omega) ?_
    refine G_aload_nX dL_law_733 rfl ?_
    refine G_iload dL_law_734 rfl ?_
    refine G_iconst (n := 2) dL_law_736 ⟨by decide, by decide⟩ ?_
    refine G_iadd dL_law_737 (iRm (by omega) (by omega)) ?_
    refine G_sld (L := L) (xs := xs) rfl dL_law_738 (by omega) (by omega) ?_
    refine G_cVq (ci := 6) dL_law_739 rfl (by decide) rfl (c_X6_about l 11 nu (up v 58 0 (aboV v (scI xs (i + 1)) (scI xs (i + 2)))) _ rfl hMB (scI xs (i + 1)) (scI xs (i + 2))) mcL_92 rfl rfl (by show _ ≤ 13; omega) rfl rfl (by show _ ≤ 601024; omega) (by show _ ≤ 7293034; omega) (fun r S2 v3 hq9 => ?_)
    obtain ⟨rfl, hq9⟩ := hq9
    obtain ⟨-, rfl, rfl⟩ := hq9.resolve_right (fun q => q.1 hab)
    refine G_istore dL_law_742 rfl rfl ?_
    refine G_aload_n dL_law_744 rfl ?_
    refine G_cVi (ci := 6) dL_law_745 rfl (by decide) rfl (c_X6_thrown l 12 nu _) mcL_93 rfl rfl (by show _ ≤ 13; omega) rfl rfl (by show _ ≤ 601024; omega) (by show _ ≤ 7293034; omega) ?_
    refine G_iload dL_law_748 rfl ?_
    refine G_icmp_eq 755 dL_law_750 (by decide) (fun h750 => ?_) (fun h750 => absurd rfl h750)
    refine G_iload dL_law_755 rfl ?_
    refine G_if_ne 772 dL_law_757 (by decide) (fun h757 => absurd rfl h757) (fun h757 => ?_)
    refine G_aload_n dL_law_760 rfl ?_
    refine G_iconst (n := 0) dL_law_761 ⟨by decide, by decide⟩ ?_
    refine G_lald (len := 1) dL_law_762 rfl (by omega) (by omega) ?_
    refine G_iload dL_law_763 rfl ?_
    refine G_i2l dL_law_765 ?_
    refine G_lcmp dL_law_766 ?_
    refine G_if_eq 772 dL_law_767 (by decide) (fun h767 => ?_) (fun h767 => absurd (lc0 hae) h767)
    refine G_goto 850 dL_law_772 (by decide) ?_
    exact k nu _ _ _ _ _ (LI_58 h ht (fun q q1 q2 => by rw [up_ne q1, up_ne q2]) (fun j hj => by rw [up_nj hj, up_c (by omega)])) (by omega) (by omega)
  · rw [e29]
    refine G_istore dL_law_724 rfl rfl ?_
    refine G_aload_n dL_law_726 rfl ?_
    refine G_aload_nX dL_law_727 rfl ?_
    refine G_iload dL_law_728 rfl ?_
    refine G_iconst (n := 1) dL_law_730 ⟨by decide, by decide⟩ ?_
    refine G_iadd dL_law_731 (iRm (by omega) (by omega)) ?_
    refine G_sld (L := L) (xs := xs) rfl dL_law_732 (by omega) (by omega) ?_
    refine G_aload_nX dL_law_733 rfl ?_
    refine G_iload dL_law_734 rfl ?_
    refine G_iconst (n := 2) dL_law_736 ⟨by decide, by decide⟩ ?_
    refine G_iadd dL_law_737 (iRm (by omega) (by omega)) ?_
    refine G_sld (L := L) (xs := xs) rfl dL_law_738 (by omega) (by omega) ?_
    refine G_cVq (ci := 6) dL_law_739 rfl (by decide) rfl (c_X6_about l 11 nu v _ rfl hMB (scI xs (i + 1)) (scI xs (i + 2))) mcL_92 rfl rfl (by show _ ≤ 13; omega) rfl rfl (by show _ ≤ 601024; omega) (by show _ ≤ 7293034; omega) (fun r S2 v3 hq9 => ?_)
    obtain ⟨rfl, hq9⟩ := hq9
    obtain ⟨-, rfl, rfl⟩ := hq9.resolve_left (fun q => hab q.1)
    refine G_istore dL_law_742 rfl rfl ?_
    refine G_aload_n dL_law_744 rfl ?_
    refine G_cVi (ci := 6) dL_law_745 rfl (by decide) rfl (c_X6_thrown l 12 nu _) mcL_93 rfl rfl (by show _ ≤ 13; omega) rfl rfl (by show _ ≤ 601024; omega) (by show _ ≤ 7293034; omega) ?_
    refine G_iload dL_law_748 rfl ?_
    refine G_icmp_eq 755 dL_law_750 (by decide) (fun h750 => ?_) (fun h750 => absurd rfl h750)
    refine G_iload dL_law_755 rfl ?_
    refine G_if_ne 772 dL_law_757 (by decide) (fun h757 => ?_) (fun h757 => absurd h757 (by decide))
    refine G_goto 850 dL_law_772 (by decide) ?_
    exact k nu _ _ _ _ _ (LI_58 h ht (fun q q1 q2 => by rw [up_ne q1]) (fun j hj => by rw [up_nj hj])) (by omega) (by omega)
