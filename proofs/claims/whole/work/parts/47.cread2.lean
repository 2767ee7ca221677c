set_option maxRecDepth 20000 in
set_option maxHeartbeats 1000000 in
theorem c_X1_endOfToken (l : Launch) (d nu : Nat) (v : VV) (n : Int) (t : Int → Int) (hn : v 1 1 = n ∧ 0 ≤ n ∧ n ≤ 180) (ht : ∀ i, 0 ≤ t i ∧ t i ≤ 255) (hb : ∀ i, 0 ≤ i → i < n → v 2 i = if t i < 128 then t i else t i - 256) (a : Int) (ha : 0 ≤ a ∧ a < n) : Ct l yX1_endOfToken cX1_endOfToken (some .int) 4 (d + 3) 0 0 [ar (some 1), ai a] (SG nu) v (rE (SG nu) (fun e => ((isL (t a) ∨ isD (t a)) → TKN t n a e) ∧ (¬ (isL (t a) ∨ isD (t a)) → e = a + 1)) v) := by
  refine Ct_of_G [some (ar (some 1)), some (ai a), none, none] (by decide) rfl rfl ?_
  have K : ∀ (i e : Int), a ≤ i → i ≤ n + 1 → ((e = i ∧ i ≤ n ∧ ∀ j, a ≤ j → j < i → isL (t j) ∨ isD (t j)) ∨ (e + 1 = i ∧ a ≤ e ∧ e < n ∧ ¬ (isL (t e) ∨ isD (t e)) ∧ ∀ j, a ≤ j → j < e → isL (t j) ∨ isD (t j))) → (n ≤ i ∨ e ≠ i) → G l (yX1_endOfToken, cX1_endOfToken, (some .int), 4, (d + 3), 0, 0, none) (rE (SG nu) (fun e => ((isL (t a) ∨ isD (t a)) → TKN t n a e) ∧ (¬ (isL (t a) ∨ isD (t a)) → e = a + 1)) v) 0 0 (SG nu) 43 [some (ar (some 1)), some (ai a), some (ai e), some (ai i)] [] v := by
    intro i e h0 h1 hinv hx
    refine G_iload_n dX1_endOfToken_43 rfl ?_
    refine G_iload_n dX1_endOfToken_44 rfl ?_
    refine G_iconst (n := 1) dX1_endOfToken_45 ⟨by decide, by decide⟩ ?_
    refine G_iadd dX1_endOfToken_46 (iRm (by omega) (by omega)) ?_
    refine G_mmax dX1_endOfToken_47 mcX1_86 (by show 1 ≤ d + _; omega) rfl rfl rfl ?_
    exact G_iret dX1_endOfToken_50 rfl rfl rfl (by
       refine ⟨_, rfl, ⟨fun y => ?_, fun y => ?_⟩, rfl, rfl⟩
       · rcases hinv with ⟨y1, y0, y2⟩ | ⟨y1, y2, y3, y4, y5⟩
         · by_cases z : a = i
           · omega
           · rw [if_neg (by omega)]; exact ⟨by omega, by omega, by rw [y1]; exact y2, Or.inl (by omega)⟩
         · by_cases z : e = a
           · rw [z] at y4; exact absurd y y4
           · rw [if_neg (by omega)]; exact ⟨by omega, by omega, y5, Or.inr y4⟩
       · rcases hinv with ⟨y1, y0, y2⟩ | ⟨y1, y2, y3, y4, y5⟩
         · by_cases z : a < i
           · exact absurd (y2 a (by omega) z) y
           · rw [if_pos (by omega)]
         · by_cases z : a < e
           · exact absurd (y5 a (by omega) z) y
           · rw [if_pos (by omega)])
  have loop : ∀ (N : Nat) (i e : Int), a ≤ i → i + N = n + 1 → ((e = i ∧ i ≤ n ∧ ∀ j, a ≤ j → j < i → isL (t j) ∨ isD (t j)) ∨ (e + 1 = i ∧ a ≤ e ∧ e < n ∧ ¬ (isL (t e) ∨ isD (t e)) ∧ ∀ j, a ≤ j → j < e → isL (t j) ∨ isD (t j))) → G l (yX1_endOfToken, cX1_endOfToken, (some .int), 4, (d + 3), 0, 0, none) (rE (SG nu) (fun e => ((isL (t a) ∨ isD (t a)) → TKN t n a e) ∧ (¬ (isL (t a) ∨ isD (t a)) → e = a + 1)) v) 0 0 (SG nu) 4 [some (ar (some 1)), some (ai a), some (ai e), some (ai i)] [] v := by
    intro N
    induction N using Nat.strongRecOn with
    | ind N ih =>
    intro i e h0 h1 hinv
    refine G_iload_n dX1_endOfToken_4 rfl ?_
    refine G_aload_n dX1_endOfToken_5 rfl ?_
    refine G_cVi (ci := 3) dX1_endOfToken_6 rfl (by decide) rfl (c_X3_length l (d + 2) nu v) mcX1_28 rfl rfl (by show _ ≤ d + 3; omega) rfl rfl (Nat.le_refl _) (Nat.le_refl _) ?_
    rw [hn.1]
    refine G_icmp_ge 43 dX1_endOfToken_9 (by decide) (fun h9 => ?_) (fun h9 => ?_)
    · exact K i e h0 (by omega) hinv (by omega)
    · refine G_iload_n dX1_endOfToken_12 rfl ?_
      refine G_iload_n dX1_endOfToken_13 rfl ?_
      refine G_icmp_ne 43 dX1_endOfToken_14 (by decide) (fun h14 => ?_) (fun h14 => ?_)
      · exact K i e h0 (by omega) hinv (by omega)
      · have hei : e = i := h14
        have hall : ∀ j, a ≤ j → j < i → isL (t j) ∨ isD (t j) := by rcases hinv with ⟨-, -, y⟩ | ⟨y, -⟩; exact y; omega
        refine G_aload_n dX1_endOfToken_17 rfl ?_
        refine G_iload_n dX1_endOfToken_18 rfl ?_
        refine G_cVi (ci := 3) dX1_endOfToken_19 rfl (by decide) rfl (c_X3_isLetter l (d + 1) nu v n t hn ht hb i) mcX1_80 rfl rfl (by show _ ≤ d + 3; omega) rfl rfl (Nat.le_refl _) (Nat.le_refl _) ?_
        refine G_if_ne 33 dX1_endOfToken_22 (by decide) (fun h22 => ?_) (fun h22 => ?_)
        · refine G_iload_n dX1_endOfToken_33 rfl ?_
          refine G_iconst (n := 1) dX1_endOfToken_34 ⟨by decide, by decide⟩ ?_
          refine G_iadd dX1_endOfToken_35 (iRm (by omega) (by omega)) ?_
          refine G_istore_n dX1_endOfToken_36 rfl rfl ?_
          refine G_iinc dX1_endOfToken_37 rfl (iRm (by omega) (by omega)) rfl rfl ?_
          refine G_goto 4 dX1_endOfToken_40 (by decide) ?_
          exact ih (N - 1) (by omega) (i + 1) (i + 1) (by omega) (by omega) (Or.inl ⟨rfl, by omega, fun j j1 j2 => by by_cases y : j = i; rw [y]; unfold isL isD; omega; exact hall j j1 (by omega)⟩)
        · refine G_aload_n dX1_endOfToken_25 rfl ?_
          refine G_iload_n dX1_endOfToken_26 rfl ?_
          refine G_cVi (ci := 3) dX1_endOfToken_27 rfl (by decide) rfl (c_X3_isDigit l (d + 1) nu v n t hn ht hb i) mcX1_83 rfl rfl (by show _ ≤ d + 3; omega) rfl rfl (Nat.le_refl _) (Nat.le_refl _) ?_
          refine G_if_eq 37 dX1_endOfToken_30 (by decide) (fun h30 => ?_) (fun h30 => ?_)
          · refine G_iinc dX1_endOfToken_37 rfl (iRm (by omega) (by omega)) rfl rfl ?_
            refine G_goto 4 dX1_endOfToken_40 (by decide) ?_
            exact ih (N - 1) (by omega) (i + 1) e (by omega) (by omega) (Or.inr ⟨by omega, by omega, by omega, by rw [hei]; unfold isL isD; omega, fun j j1 j2 => hall j j1 (by omega)⟩)
          · refine G_iload_n dX1_endOfToken_33 rfl ?_
            refine G_iconst (n := 1) dX1_endOfToken_34 ⟨by decide, by decide⟩ ?_
            refine G_iadd dX1_endOfToken_35 (iRm (by omega) (by omega)) ?_
            refine G_istore_n dX1_endOfToken_36 rfl rfl ?_
            refine G_iinc dX1_endOfToken_37 rfl (iRm (by omega) (by omega)) rfl rfl ?_
            refine G_goto 4 dX1_endOfToken_40 (by decide) ?_
            exact ih (N - 1) (by omega) (i + 1) (i + 1) (by omega) (by omega) (Or.inl ⟨rfl, by omega, fun j j1 j2 => by by_cases y : j = i; rw [y]; unfold isL isD; omega; exact hall j j1 (by omega)⟩)
  refine G_iload_n dX1_endOfToken_0 rfl ?_
  refine G_istore_n dX1_endOfToken_1 rfl rfl ?_
  refine G_iload_n dX1_endOfToken_2 rfl ?_
  refine G_istore_n dX1_endOfToken_3 rfl rfl ?_
  exact loop (n + 1 - a).toNat a a (by omega) (by omega) (Or.inl ⟨rfl, by omega, fun j j1 j2 => by omega⟩)
