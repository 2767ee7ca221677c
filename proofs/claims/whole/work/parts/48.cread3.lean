set_option maxRecDepth 20000 in
set_option maxHeartbeats 1000000 in
theorem c_X1_numberOf (l : Launch) (d nu : Nat) (v : VV) (n : Int) (t : Int → Int) (hn : v 1 1 = n ∧ 0 ≤ n ∧ n ≤ 180) (ht : ∀ i, 0 ≤ t i ∧ t i ≤ 255) (hb : ∀ i, 0 ≤ i → i < n → v 2 i = if t i < 128 then t i else t i - 256) (a e : Int) (ha : 0 ≤ a ∧ a ≤ e ∧ e ≤ n) : Ct l yX1_numberOf cX1_numberOf (some .int) 5 (d + 3) 0 0 [ar (some 1), ai a, ai e] (SG nu) v (rE (SG nu) (fun x => ((e - a ≤ 3 ∧ ∀ j, a ≤ j → j < e → isD (t j)) ∧ x = hr10 t a (e - a).toNat) ∨ (¬ (e - a ≤ 3 ∧ ∀ j, a ≤ j → j < e → isD (t j)) ∧ x = -1)) v) := by
  refine Ct_of_G [some (ar (some 1)), some (ai a), some (ai e), none, none] (by decide) rfl rfl ?_
  have loop : ∀ (N : Nat) (i x : Int), a ≤ i → i + N = e → e - a ≤ 3 → (∀ j, a ≤ j → j < i → isD (t j)) → x = hr10 t a (i - a).toNat → G l (yX1_numberOf, cX1_numberOf, (some .int), 5, (d + 3), 0, 0, none) (rE (SG nu) (fun x => ((e - a ≤ 3 ∧ ∀ j, a ≤ j → j < e → isD (t j)) ∧ x = hr10 t a (e - a).toNat) ∨ (¬ (e - a ≤ 3 ∧ ∀ j, a ≤ j → j < e → isD (t j)) ∧ x = -1)) v) 0 0 (SG nu) 14 [some (ar (some 1)), some (ai a), some (ai e), some (ai x), some (ai i)] [] v := by
    intro N
    induction N using Nat.strongRecOn with
    | ind N ih =>
    intro i x h0 h1 he hall hx
    have hbd := hr10_bd t a ht (i - a).toNat (by omega)
    have hti := ht i
    refine G_iload dX1_numberOf_14 rfl ?_
    refine G_iload_n dX1_numberOf_16 rfl ?_
    refine G_icmp_ge 52 dX1_numberOf_17 (by decide) (fun h17 => ?_) (fun h17 => ?_)
    · obtain rfl : i = e := by omega
      refine G_iload_n dX1_numberOf_52 rfl ?_
      exact G_iret dX1_numberOf_53 rfl rfl rfl ⟨x, rfl, Or.inl ⟨⟨he, hall⟩, hx⟩, rfl, rfl⟩
    · refine G_aload_n dX1_numberOf_20 rfl ?_
      refine G_iload dX1_numberOf_21 rfl ?_
      refine G_cVi (ci := 3) dX1_numberOf_23 rfl (by decide) rfl (c_X3_isDigit l (d + 1) nu v n t hn ht hb i) mcX1_83 rfl rfl (by show _ ≤ d + 3; omega) rfl rfl (Nat.le_refl _) (Nat.le_refl _) ?_
      refine G_if_ne 31 dX1_numberOf_26 (by decide) (fun h26 => ?_) (fun h26 => ?_)
      · refine G_bipush (n := 10) dX1_numberOf_31 (by decide) ⟨by decide, by decide⟩ ?_
        refine G_iload_n dX1_numberOf_33 rfl ?_
        refine G_imul dX1_numberOf_34 (iRm (by omega) (by omega)) ?_
        refine G_aload_n dX1_numberOf_35 rfl ?_
        refine G_iload dX1_numberOf_36 rfl ?_
        refine G_cVi (ci := 3) dX1_numberOf_38 rfl (by decide) rfl (c_X3_byteAt l (d + 2) nu v n t hn ht hb i) mcX1_95 rfl rfl (by show _ ≤ d + 3; omega) rfl rfl (Nat.le_refl _) (Nat.le_refl _) ?_
        rw [if_pos (show 0 ≤ i ∧ i < n by omega), if_pos (show t i < 128 by omega)]
        refine G_iadd dX1_numberOf_41 (iRm (by omega) (by omega)) ?_
        refine G_bipush (n := 48) dX1_numberOf_42 (by decide) ⟨by decide, by decide⟩ ?_
        refine G_isub dX1_numberOf_44 (iRm (by omega) (by omega)) ?_
        refine G_istore_n dX1_numberOf_45 rfl rfl ?_
        refine G_iinc dX1_numberOf_46 rfl (iRm (by omega) (by omega)) rfl rfl ?_
        refine G_goto 14 dX1_numberOf_49 (by decide) ?_
        exact ih (N - 1) (by omega) (i + 1) _ (by omega) (by omega) he (fun j j1 j2 => by by_cases y : j = i; rw [y]; unfold isD; omega; exact hall j j1 (by omega)) (by rw [hx, show (i + 1 - a).toNat = (i - a).toNat + 1 by omega, hr10_s t a i _ (by omega)])
      · refine G_iconst (n := (-1)) dX1_numberOf_29 ⟨by decide, by decide⟩ ?_
        exact G_iret dX1_numberOf_30 rfl rfl rfl ⟨-1, rfl, Or.inr ⟨fun y => by have := y.2 i (by omega) (by omega); unfold isD at this; omega, rfl⟩, rfl, rfl⟩
  refine G_iload_n dX1_numberOf_0 rfl ?_
  refine G_iload_n dX1_numberOf_1 rfl ?_
  refine G_isub dX1_numberOf_2 (iRm (by omega) (by omega)) ?_
  refine G_iconst (n := 3) dX1_numberOf_3 ⟨by decide, by decide⟩ ?_
  refine G_icmp_le 9 dX1_numberOf_4 (by decide) (fun h4 => ?_) (fun h4 => ?_)
  · refine G_iconst (n := 0) dX1_numberOf_9 ⟨by decide, by decide⟩ ?_
    refine G_istore_n dX1_numberOf_10 rfl rfl ?_
    refine G_iload_n dX1_numberOf_11 rfl ?_
    refine G_istore dX1_numberOf_12 rfl rfl ?_
    exact loop (e - a).toNat a 0 (by omega) (by omega) (by omega) (fun j j1 j2 => by omega) (by rw [show (a - a).toNat = 0 by omega]; rfl)
  · refine G_iconst (n := (-1)) dX1_numberOf_7 ⟨by decide, by decide⟩ ?_
    exact G_iret dX1_numberOf_8 rfl rfl rfl ⟨-1, rfl, Or.inr ⟨fun y => by have := y.1; omega, rfl⟩, rfl, rfl⟩
