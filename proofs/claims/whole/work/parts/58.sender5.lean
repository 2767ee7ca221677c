/-- all rows have columns: tight, and no gap below 0 -/
def HF (m n : Nat) (w : VV) : Prop := SD m n w ∧ BD m n w ∧ (∀ i : Int, 0 ≤ i → i < ((m + n : Nat) : Int) → (0 ≤ w 19 i ∧ w 19 i < ((m + n : Nat) : Int)) ∧ w 20 (w 19 i) = i ∧ gv m n w i (w 19 i) = 0) ∧ (∀ c : Int, 0 ≤ c → c < ((m + n : Nat) : Int) → (0 ≤ w 20 c ∧ w 20 c < ((m + n : Nat) : Int)) ∧ w 19 (w 20 c) = c) ∧ (∀ i c : Int, 0 ≤ i → i < ((m + n : Nat) : Int) → 0 ≤ c → c < ((m + n : Nat) : Int) → 0 ≤ gv m n w i c) ∧ ∀ c : Int, 0 ≤ c → c < ((m + n : Nat) : Int) → w 22 c ≤ 0
theorem HI_full {m n : Nat} {w : VV} (h : HI m n m w) : HF m n w := by
  obtain ⟨a1, a2, a3, a4, a5⟩ := h
  have hr : ∀ i : Int, 0 ≤ i → i < ((m + n : Nat) : Int) → (0 ≤ w 19 i ∧ w 19 i < ((m + n : Nat) : Int)) ∧ w 20 (w 19 i) = i ∧ gv m n w i (w 19 i) = 0 := fun i i0 i1 => a3.1 i i0 i1 (by omega)
  have hm := a1.2.2.2.1
  refine ⟨a1, ⟨a2, fun i i0 i1 => ?_⟩, hr, fun c c0 c1 => ?_, fun i c i0 i1 c0 c1 => a3.2.2.2 i c i0 i1 c0 c1 (by omega), fun c c0 c1 => (a5 c c0 c1).2.2⟩
  · have := a5 i i0 i1
    unfold B4
    omega
  · rcases a3.2.2.1 c c0 c1 with z | z
    · have := php_lt (m := m + n) (N := m + n) (w 19) (fun i i0 i1 => (hr i i0 i1).1) (fun i i' i0 i1 i0' i1' e => by
        have e1 := (hr i i0 i1).2.1
        have e2 := (hr i' i0' i1').2.1
        rw [e] at e1
        omega) c c0 c1 (fun i i0 i1 e => by
        have e1 := (hr i i0 i1).2.1
        rw [e, z.1] at e1
        omega)
      omega
    · exact z
theorem HF_FM {m n : Nat} {w : VV} (h : HF m n w) : FM m n (PV w) (w 19) (w 21) (w 22) := by
  obtain ⟨-, -, h3, h4, h5, h6⟩ := h
  refine ⟨fun i i0 i1 => (h3 i i0 i1).1, fun i i' i0 i1 i0' i1' e => ?_, h6, fun i c i0 i1 c0 c1 => ?_, fun i i0 i1 => ?_⟩
  · have e1 := (h3 i i0 i1).2.1
    have e2 := (h3 i' i0' i1').2.1
    rw [e] at e1
    omega
  · have := h5 i c i0 i1 c0 c1
    unfold gv at this
    omega
  · have := (h3 i i0 i1).2.2
    unfold gv at this
    omega
theorem gv_t {m n : Nat} {w : VV} {i c : Int} : gv m n w i c = 0 ↔ cF m n (PV w) i c = w 21 i + w 22 c := by
  unfold gv
  omega
set_option maxRecDepth 20000 in
set_option maxHeartbeats 1000000 in
theorem c_X2_firstTight (l : Launch) (d nu : Nat) (v : VV) (m n : Nat) (hD : SD m n v) (hB : BD m n v) (i o b : Int) (hi : 0 ≤ i ∧ i < ((m + n : Nat) : Int)) (ho : 0 ≤ o ∧ o ≤ ((m + n : Nat) : Int)) : Ct l yX2_firstTight cX2_firstTight (some .int) 5 (d + 1) 0 0 [ar (some 17), ai i, ai o, ai b] (SG nu) v (rE (SG nu) (fun x => (0 ≤ x ∧ x ≤ o) ∧ (∀ c : Int, 0 ≤ c → c < x → ¬ ((v 26 c ≠ 0 ∨ b = 0) ∧ gv m n v i c = 0)) ∧ (x = o ∨ ((v 26 x ≠ 0 ∨ b = 0) ∧ gv m n v i x = 0))) v) := by
  refine Ct_of_G [some (ar (some 17)), some (ai i), some (ai o), some (ai b), none] (by decide) rfl rfl ?_
  obtain ⟨d9, d10, d11, hm, hn⟩ := id hD
  have loop : ∀ (N : Nat) (k : Int), 0 ≤ k → k + N = o → (∀ c : Int, 0 ≤ c → c < k → ¬ ((v 26 c ≠ 0 ∨ b = 0) ∧ gv m n v i c = 0)) → G l (yX2_firstTight, cX2_firstTight, (some .int), 5, (d + 1), 0, 0, none) (rE (SG nu) (fun x => (0 ≤ x ∧ x ≤ o) ∧ (∀ c : Int, 0 ≤ c → c < x → ¬ ((v 26 c ≠ 0 ∨ b = 0) ∧ gv m n v i c = 0)) ∧ (x = o ∨ ((v 26 x ≠ 0 ∨ b = 0) ∧ gv m n v i x = 0))) v) 0 0 (SG nu) 3 [some (ar (some 17)), some (ai i), some (ai o), some (ai b), some (ai k)] [] v := by
    intro N
    induction N using Nat.strongRecOn with
    | ind N ih =>
    intro k h0 h1 hp
    refine G_iload dX2_firstTight_3 rfl ?_
    refine G_iload_n dX2_firstTight_5 rfl ?_
    refine G_icmp_ge 42 dX2_firstTight_6 (by decide) (fun h6 => ?_) (fun h6 => ?_)
    · refine G_iload_n dX2_firstTight_42 rfl ?_
      exact G_iret dX2_firstTight_43 rfl rfl rfl ⟨_, rfl, ⟨by omega, fun c c0 c1 => hp c c0 (by omega), Or.inl rfl⟩, rfl, rfl⟩
    · refine G_aload_n dX2_firstTight_9 rfl ?_
      refine G_getR (jj := 8) dX2_firstTight_10 flX2_36 rfl rfl rfl ?_
      refine G_iload dX2_firstTight_13 rfl ?_
      refine G_zald dX2_firstTight_15 rfl (by omega) (by omega) ?_
      refine G_if_ne 23 dX2_firstTight_16 (by decide) (fun h16 => ?_) (fun h16 => ?_)
      · refine G_aload_n dX2_firstTight_23 rfl ?_
        refine G_iload_n dX2_firstTight_24 rfl ?_
        refine G_iload dX2_firstTight_25 rfl ?_
        refine G_cVi (ci := 2) dX2_firstTight_27 rfl (by decide) rfl (c_X2_gap l (d + 0) nu v m n hD hB i k hi ⟨by omega, by omega⟩) mcX2_89 rfl rfl (by show _ ≤ d + 1; omega) rfl rfl (Nat.le_refl _) (Nat.le_refl _) ?_
        refine G_if_ne 36 dX2_firstTight_30 (by decide) (fun h30 => ?_) (fun h30 => ?_)
        · refine G_iinc dX2_firstTight_36 rfl (iRm (by omega) (by omega)) rfl rfl ?_
          refine G_goto 3 dX2_firstTight_39 (by decide) ?_
          exact ih (N - 1) (by omega) (k + 1) (by omega) (by omega) (fun c c0 c1 => by by_cases y : c = k; (rw [y]; exact fun z => h30 z.2); exact hp c c0 (by omega))
        · refine G_iload dX2_firstTight_33 rfl ?_
          exact G_iret dX2_firstTight_35 rfl rfl rfl ⟨_, rfl, ⟨by omega, hp, Or.inr ⟨by omega, h30⟩⟩, rfl, rfl⟩
      · refine G_iload_n dX2_firstTight_19 rfl ?_
        refine G_if_ne 36 dX2_firstTight_20 (by decide) (fun h20 => ?_) (fun h20 => ?_)
        · refine G_iinc dX2_firstTight_36 rfl (iRm (by omega) (by omega)) rfl rfl ?_
          refine G_goto 3 dX2_firstTight_39 (by decide) ?_
          exact ih (N - 1) (by omega) (k + 1) (by omega) (by omega) (fun c c0 c1 => by by_cases y : c = k; (rw [y]; exact fun z => (by omega)); exact hp c c0 (by omega))
        · refine G_aload_n dX2_firstTight_23 rfl ?_
          refine G_iload_n dX2_firstTight_24 rfl ?_
          refine G_iload dX2_firstTight_25 rfl ?_
          refine G_cVi (ci := 2) dX2_firstTight_27 rfl (by decide) rfl (c_X2_gap l (d + 0) nu v m n hD hB i k hi ⟨by omega, by omega⟩) mcX2_89 rfl rfl (by show _ ≤ d + 1; omega) rfl rfl (Nat.le_refl _) (Nat.le_refl _) ?_
          refine G_if_ne 36 dX2_firstTight_30 (by decide) (fun h30 => ?_) (fun h30 => ?_)
          · refine G_iinc dX2_firstTight_36 rfl (iRm (by omega) (by omega)) rfl rfl ?_
            refine G_goto 3 dX2_firstTight_39 (by decide) ?_
            exact ih (N - 1) (by omega) (k + 1) (by omega) (by omega) (fun c c0 c1 => by by_cases y : c = k; (rw [y]; exact fun z => h30 z.2); exact hp c c0 (by omega))
          · refine G_iload dX2_firstTight_33 rfl ?_
            exact G_iret dX2_firstTight_35 rfl rfl rfl ⟨_, rfl, ⟨by omega, hp, Or.inr ⟨by omega, h30⟩⟩, rfl, rfl⟩
  refine G_iconst (n := 0) dX2_firstTight_0 ⟨by decide, by decide⟩ ?_
  refine G_istore dX2_firstTight_1 rfl rfl ?_
  exact loop o.toNat 0 (by omega) (by omega) (fun c c0 c1 => by omega)
/-- the columns from which moves behind k lead to tg -/
def QI (m n : Nat) (v : VV) (k tg : Int) (q : Nat) (rho : Int → Nat) (w : VV) : Prop := fr [23, 24, 25, 26] v w ∧ (1 ≤ q ∧ q ≤ m + n) ∧ (w 26 tg = 1 ∧ w 24 tg = -1) ∧ (∀ c : Int, 0 ≤ c → c < ((m + n : Nat) : Int) → w 26 c = 0 ∨ w 26 c = 1) ∧
  (∀ c : Int, 0 ≤ c → c < ((m + n : Nat) : Int) → w 26 c = 1 → rho c < q ∧ w 25 (rho c) = c) ∧ (∀ t : Int, 0 ≤ t → t < q → (0 ≤ w 25 t ∧ w 25 t < ((m + n : Nat) : Int)) ∧ w 26 (w 25 t) = 1 ∧ (rho (w 25 t) : Int) = t) ∧
  ∀ c : Int, 0 ≤ c → c < ((m + n : Nat) : Int) → w 26 c = 1 → c ≠ tg → k < v 20 c ∧ (0 ≤ w 24 c ∧ w 24 c < ((m + n : Nat) : Int)) ∧ w 26 (w 24 c) = 1 ∧ rho (w 24 c) < rho c ∧ gv m n v (v 20 c) (w 24 c) = 0
def QC (m n : Nat) (v : VV) (k : Int) (i : Int) (w : VV) : Prop := ∀ t : Int, 0 ≤ t → t < i → ∀ r : Int, k < r → r < ((m + n : Nat) : Int) → gv m n v r (w 25 t) = 0 → w 26 (v 19 r) = 1
theorem QI_0 {m n : Nat} {v w : VV} {k tg : Int} (t0 : 0 ≤ tg) (t1 : tg < ((m + n : Nat) : Int)) (hf : fr [23, 24, 26] v w) (hp : ∀ c : Int, 0 ≤ c → c < ((m + n : Nat) : Int) → w 26 c = 0 ∧ w 24 c = -1 ∧ w 23 c = 1000000000) : QI m n v k tg 1 (fun _ => 0) (up (up w 26 tg 1) 25 0 tg) := by
  have e26 : ∀ c, up (up w 26 tg 1) 25 0 tg 26 c = if c = tg then 1 else w 26 c := fun c => by
    rw [up_c (show 26 ≠ 25 by decide)]
    by_cases y : c = tg
    · rw [y, up_self, if_pos rfl]
    · rw [up_nj y, if_neg y]
  have e24 : ∀ c, up (up w 26 tg 1) 25 0 tg 24 c = w 24 c := fun c => by rw [up_c (show 24 ≠ 25 by decide), up_c (show 24 ≠ 26 by decide)]
  have one : ∀ c : Int, 0 ≤ c → c < ((m + n : Nat) : Int) → up (up w 26 tg 1) 25 0 tg 26 c = 1 → c = tg := fun c c0 c1 h => by
    rw [e26] at h
    by_cases y : c = tg
    · exact y
    · rw [if_neg y, (hp c c0 c1).1] at h; omega
  refine ⟨fr_up (fr_up (fr_sub hf (by decide)) (by decide) _ _) (by decide) _ _, by omega, ⟨by rw [e26, if_pos rfl], by rw [e24]; exact (hp tg t0 t1).2.1⟩, fun c c0 c1 => ?_, fun c c0 c1 hc => ?_, fun t z0 z1 => ?_, fun c c0 c1 hc hne => absurd (one c c0 c1 hc) hne⟩
  · rw [e26]
    split
    · exact Or.inr rfl
    · exact Or.inl (hp c c0 c1).1
  · refine ⟨Nat.zero_lt_one, ?_⟩
    show up (up w 26 tg 1) 25 0 tg 25 0 = c
    rw [up_self]; exact (one c c0 c1 hc).symm
  · have : t = 0 := by omega
    subst this
    rw [up_self, e26, if_pos rfl]
    exact ⟨⟨t0, t1⟩, rfl, rfl⟩
theorem QI_all {m n : Nat} {v w : VV} {k tg : Int} {q : Nat} {rho : Int → Nat} (h : QI m n v k tg q rho w) (hq : m + n ≤ q) : ∀ c : Int, 0 ≤ c → c < ((m + n : Nat) : Int) → w 26 c = 1 := by
  intro c c0 c1
  obtain ⟨-, h2, -, h4, -, h6, -⟩ := h
  rcases h4 c c0 c1 with z | z
  · have := php_lt (m := m + n) (N := m + n) (w 25) (fun t t0 t1 => (h6 t t0 (by omega)).1) (fun t t' t0 t1 t0' t1' e => by
      have e1 := (h6 t t0 (by omega)).2.2
      have e2 := (h6 t' t0' (by omega)).2.2
      rw [e] at e1
      omega) c c0 c1 (fun t t0 t1 e => by
      have e1 := (h6 t t0 (by omega)).2.1
      rw [e] at e1
      omega)
    omega
  · exact z
theorem QI_add {m n : Nat} {v w : VV} {k tg : Int} {q : Nat} {rho : Int → Nat} (h : QI m n v k tg q rho w) (hq : q < m + n) {i r : Int} (i0 : 0 ≤ i) (i1 : i < q) (r0 : k < r) (hr : (0 ≤ v 19 r ∧ v 19 r < ((m + n : Nat) : Int)) ∧ v 20 (v 19 r) = r) (hs : w 26 (v 19 r) = 0) (hg : gv m n v r (w 25 i) = 0) :
    QI m n v k tg (q + 1) (fun c => if c = v 19 r then q else rho c) (up (up (up w 26 (v 19 r) 1) 24 (v 19 r) (w 25 i)) 25 q (v 19 r)) := by
  obtain ⟨h1, h2, h3, h4, h5, h6, h7⟩ := h
  obtain ⟨⟨c0, c1⟩, hrr⟩ := hr
  generalize hC : v 19 r = C at *
  have e26 : ∀ c, up (up (up w 26 C 1) 24 C (w 25 i)) 25 q C 26 c = if c = C then 1 else w 26 c := fun c => by
    rw [up_c (show 26 ≠ 25 by decide), up_c (show 26 ≠ 24 by decide)]
    by_cases y : c = C
    · rw [y, up_self, if_pos rfl]
    · rw [up_nj y, if_neg y]
  have e24 : ∀ c, up (up (up w 26 C 1) 24 C (w 25 i)) 25 q C 24 c = if c = C then w 25 i else w 24 c := fun c => by
    rw [up_c (show 24 ≠ 25 by decide)]
    by_cases y : c = C
    · rw [y, up_self, if_pos rfl]
    · rw [up_nj y, if_neg y, up_c (show 24 ≠ 26 by decide)]
  have e25 : ∀ t, up (up (up w 26 C 1) 24 C (w 25 i)) 25 q C 25 t = if t = q then C else w 25 t := fun t => by
    by_cases y : t = q
    · rw [y, up_self, if_pos rfl]
    · rw [up_nj y, if_neg y, up_c (show 25 ≠ 24 by decide), up_c (show 25 ≠ 26 by decide)]
  have htg : tg ≠ C := fun e => by rw [← e, h3.1] at hs; omega
  refine ⟨fr_up (fr_up (fr_up h1 (by decide) _ _) (by decide) _ _) (by decide) _ _, by omega, ⟨by rw [e26, if_neg htg]; exact h3.1, by rw [e24, if_neg htg]; exact h3.2⟩, fun c x0 x1 => ?_, fun c x0 x1 hc => ?_, fun t z0 z1 => ?_, fun c x0 x1 hc hne => ?_⟩
  · rw [e26]
    split
    · exact Or.inr rfl
    · exact h4 c x0 x1
  · rw [e26] at hc
    show (if c = C then q else rho c) < q + 1 ∧ up (up (up w 26 C 1) 24 C (w 25 i)) 25 q C 25 ((if c = C then q else rho c : Nat) : Int) = c
    by_cases y : c = C
    · rw [if_pos y, e25, if_pos rfl]; exact ⟨by omega, y.symm⟩
    · rw [if_neg y] at hc
      have q5 := h5 c x0 x1 hc
      rw [if_neg y, e25, if_neg (by omega)]; exact ⟨by omega, q5.2⟩
  · rw [e25]
    by_cases y : t = q
    · rw [if_pos y, e26, if_pos rfl]
      refine ⟨⟨c0, c1⟩, rfl, ?_⟩
      show ((if C = C then q else rho C : Nat) : Int) = t
      rw [if_pos rfl]; exact y.symm
    · have q6 := h6 t z0 (by omega)
      have hne : w 25 t ≠ C := fun e => by rw [e, hs] at q6; omega
      rw [if_neg y, e26, if_neg hne]
      refine ⟨q6.1, q6.2.1, ?_⟩
      show ((if w 25 t = C then q else rho (w 25 t) : Nat) : Int) = t
      rw [if_neg hne]; exact q6.2.2
  · rw [e26] at hc
    rw [e24]
    show k < v 20 c ∧ (0 ≤ (if c = C then w 25 i else w 24 c) ∧ (if c = C then w 25 i else w 24 c) < ((m + n : Nat) : Int)) ∧ up (up (up w 26 C 1) 24 C (w 25 i)) 25 q C 26 (if c = C then w 25 i else w 24 c) = 1 ∧ (if (if c = C then w 25 i else w 24 c) = C then q else rho (if c = C then w 25 i else w 24 c)) < (if c = C then q else rho c) ∧ gv m n v (v 20 c) (if c = C then w 25 i else w 24 c) = 0
    by_cases y : c = C
    · have q6 := h6 i i0 i1
      have hne : w 25 i ≠ C := fun e => by rw [e, hs] at q6; omega
      rw [if_pos y, if_pos y, e26, if_neg hne, if_neg hne, y, hrr]
      exact ⟨r0, q6.1, q6.2.1, by omega, hg⟩
    · rw [if_neg y] at hc
      obtain ⟨g1, g2, g3, g4, g5⟩ := h7 c x0 x1 hc hne
      have hne2 : w 24 c ≠ C := fun e => by rw [e, hs] at g3; omega
      rw [if_neg y, if_neg y, e26, if_neg hne2, if_neg hne2]
      exact ⟨g1, g2, g3, g4, g5⟩
theorem QC_add {m n : Nat} {v w : VV} {k tg : Int} {q : Nat} {rho : Int → Nat} (h : QI m n v k tg q rho w) {i j C : Int} (i1 : i ≤ q) (hc : QC m n v k i w) : QC m n v k i (up (up (up w 26 C 1) 24 C j) 25 q C) := by
  intro t t0 t1 r r0 r1 hg
  rw [up_nj (show t ≠ q by omega), up_c (show 25 ≠ 24 by decide), up_c (show 25 ≠ 26 by decide)] at hg
  have := hc t t0 t1 r r0 r1 hg
  rw [up_c (show 26 ≠ 25 by decide), up_c (show 26 ≠ 24 by decide)]
  by_cases y : v 19 r = C
  · rw [y, up_self]
  · rw [up_nj y]; exact this
def QP (m n : Nat) (v : VV) (k tg : Int) (w : VV) : Prop := ∃ (q : Nat) (rho : Int → Nat), QI m n v k tg q rho w ∧ ∀ r x : Int, k < r → r < ((m + n : Nat) : Int) → 0 ≤ x → x < ((m + n : Nat) : Int) → w 26 x = 1 → gv m n v r x = 0 → w 26 (v 19 r) = 1
theorem QP_of {m n : Nat} {v w : VV} {k tg : Int} {q : Nat} {rho : Int → Nat} (h : QI m n v k tg q rho w) {i : Int} (hi : q ≤ i) (hc : QC m n v k i w) : QP m n v k tg w := by
  refine ⟨q, rho, h, fun r x r0 r1 x0 x1 hx hg => ?_⟩
  have q5 := h.2.2.2.2.1 x x0 x1 hx
  exact hc (rho x) (by omega) (by omega) r r0 r1 (by rw [q5.2]; exact hg)
set_option maxRecDepth 20000 in
set_option maxHeartbeats 2000000 in
theorem c_X2_findMovable (l : Launch) (d nu : Nat) (v : VV) (m n : Nat) (hD : SD m n v) (hB : BD m n v) (k tg : Int) (hk : 0 ≤ k ∧ k < ((m + n : Nat) : Int)) (ht : 0 ≤ tg ∧ tg < ((m + n : Nat) : Int)) (hall : ∀ i : Int, 0 ≤ i → i < ((m + n : Nat) : Int) → (0 ≤ v 19 i ∧ v 19 i < ((m + n : Nat) : Int)) ∧ v 20 (v 19 i) = i ∧ gv m n v i (v 19 i) = 0) : Ct l yX2_findMovable cX2_findMovable none 7 (d + 1) 0 0 [ar (some 17), ai k, ai tg] (SG nu) v (fun r S2 w => r = none ∧ S2 = SG nu ∧ QP m n v k tg w) := by
  refine Ct_of_G [some (ar (some 17)), some (ai k), some (ai tg), none, none, none, none] (by decide) rfl rfl ?_
  obtain ⟨d9, d10, d11, hm, hn⟩ := id hD
  have loop : ∀ (N : Nat) (i : Int) (q : Nat) (rho : Int → Nat) (Z5 Z6 : Option AV) (w : VV), 0 ≤ i → i + N = ((m + n : Nat) : Int) + 1 → i ≤ q → QI m n v k tg q rho w → QC m n v k i w → G l (yX2_findMovable, cX2_findMovable, none, 7, (d + 1), 0, 0, none) (fun r S2 w => r = none ∧ S2 = SG nu ∧ QP m n v k tg w) 0 0 (SG nu) 23 [some (ar (some 17)), some (ai k), some (ai tg), some (ai (q : Int)), some (ai i), Z5, Z6] [] w := by
    intro N
    induction N using Nat.strongRecOn with
    | ind N ih =>
    intro i q rho Z5 Z6 w h0 h1 hiq0 hI hC
    have hf := hI.1
    have hqb := hI.2.1
    have d11w : w 17 11 = ((m + n : Nat) : Int) := by rw [hf 17 (by decide)]; exact d11
    have hD2 := hD.fr hf (by decide)
    have hB2 := hB.fr hf (by decide) (by decide) (by decide)
    refine G_iload dX2_findMovable_23 rfl ?_
    refine G_iload_n dX2_findMovable_25 rfl ?_
    refine G_icmp_ge 146 dX2_findMovable_26 (by decide) (fun h26 => ?_) (fun h26 => ?_)
    · exact G_vret dX2_findMovable_146 rfl rfl rfl ⟨rfl, rfl, QP_of hI (i := i) (by have := hI.2.1; omega) hC⟩
    · have hiq : i < q := by omega
      have inner : ∀ (M : Nat) (r : Int) (q : Nat) (rho : Int → Nat) (Z6 : Option AV) (w : VV), k < r → r + M = ((m + n : Nat) : Int) → i < q → QI m n v k tg q rho w → QC m n v k i w → (∀ r2 : Int, k < r2 → r2 < r → gv m n v r2 (w 25 i) = 0 → w 26 (v 19 r2) = 1) → G l (yX2_findMovable, cX2_findMovable, none, 7, (d + 1), 0, 0, none) (fun r S2 w => r = none ∧ S2 = SG nu ∧ QP m n v k tg w) 0 0 (SG nu) 43 [some (ar (some 17)), some (ai k), some (ai tg), some (ai (q : Int)), some (ai i), some (ai r), Z6] [] w := by
        intro M
        induction M using Nat.strongRecOn with
        | ind M ih2 =>
        intro r q rho Z6 w hr0 hr1 hiq hI hC hR
        have hf := hI.1
        have hqb := hI.2.1
        have d11w : w 17 11 = ((m + n : Nat) : Int) := by rw [hf 17 (by decide)]; exact d11
        have hD2 := hD.fr hf (by decide)
        have hB2 := hB.fr hf (by decide) (by decide) (by decide)
        refine G_iload dX2_findMovable_43 rfl ?_
        refine G_aload_n dX2_findMovable_45 rfl ?_
        refine G_getIv (((m + n : Nat) : Int)) (jj := 11) dX2_findMovable_46 flX2_56 rfl rfl rfl d11w ?_
        refine G_icmp_ge 140 dX2_findMovable_49 (by decide) (fun h49 => ?_) (fun h49 => ?_)
        · refine G_iinc dX2_findMovable_140 rfl (iRm (by omega) (by omega)) rfl rfl ?_
          refine G_goto 23 dX2_findMovable_143 (by decide) ?_
          exact ih (N - 1) (by omega) (i + 1) q rho _ _ w (by omega) (by omega) (by omega) hI (fun t t0 t1 r2 a1 a2 hg2 => by by_cases y : t = i; (rw [y] at hg2; exact hR r2 a1 (by omega) hg2); exact hC t t0 (by omega) r2 a1 a2 hg2)
        · have hrr := hall r (by omega) (by omega)
          have hqi := hI.2.2.2.2.2.1 i h0 hiq
          refine G_iload_n dX2_findMovable_52 rfl ?_
          refine G_aload_n dX2_findMovable_53 rfl ?_
          refine G_getIv (((m + n : Nat) : Int)) (jj := 11) dX2_findMovable_54 flX2_56 rfl rfl rfl d11w ?_
          refine G_icmp_ge 140 dX2_findMovable_57 (by decide) (fun h57 => ?_) (fun h57 => ?_)
          · refine G_iinc dX2_findMovable_140 rfl (iRm (by omega) (by omega)) rfl rfl ?_
            refine G_goto 23 dX2_findMovable_143 (by decide) ?_
            exact ih (N - 1) (by omega) (i + 1) q rho _ _ w (by omega) (by omega) (by omega) hI (fun t t0 t1 r2 a1 a2 hg2 => QI_all hI (by omega) _ (hall r2 (by omega) a2).1.1 (hall r2 (by omega) a2).1.2)
          · have hq2 : q < m + n := by omega
            refine G_aload_n dX2_findMovable_60 rfl ?_
            refine G_getR (jj := 1) dX2_findMovable_61 flX2_15 rfl rfl rfl ?_
            refine G_iload dX2_findMovable_64 rfl ?_
            refine G_ialdv (v 19 r) dX2_findMovable_66 rfl (by omega) (by omega) (by rw [hf 19 (by decide)]) ?_
            refine G_istore dX2_findMovable_67 rfl rfl ?_
            refine G_iload dX2_findMovable_69 rfl ?_
            refine G_iconst (n := (-1)) dX2_findMovable_71 ⟨by decide, by decide⟩ ?_
            refine G_icmp_eq 134 dX2_findMovable_72 (by decide) (fun h72 => by omega) (fun h72 => ?_)
            refine G_aload_n dX2_findMovable_75 rfl ?_
            refine G_getR (jj := 8) dX2_findMovable_76 flX2_36 rfl rfl rfl ?_
            refine G_iload dX2_findMovable_79 rfl ?_
            refine G_zald dX2_findMovable_81 rfl (by omega) (by omega) ?_
            refine G_if_ne 134 dX2_findMovable_82 (by decide) (fun h82 => ?_) (fun h82 => ?_)
            · refine G_iinc dX2_findMovable_134 rfl (iRm (by omega) (by omega)) rfl rfl ?_
              refine G_goto 43 dX2_findMovable_137 (by decide) ?_
              exact ih2 (M - 1) (by omega) (r + 1) q rho _ w (by omega) (by omega) (by omega) hI hC (fun r2 a1 a2 hg2 => by by_cases y : r2 = r; (rw [y]; rcases hI.2.2.2.1 (v 19 r) hrr.1.1 hrr.1.2 with z | z; exact absurd z h82; exact z); exact hR r2 a1 (by omega) hg2)
            · refine G_aload_n dX2_findMovable_85 rfl ?_
              refine G_iload dX2_findMovable_86 rfl ?_
              refine G_aload_n dX2_findMovable_88 rfl ?_
              refine G_getR (jj := 7) dX2_findMovable_89 flX2_33 rfl rfl rfl ?_
              refine G_iload dX2_findMovable_92 rfl ?_
              refine G_iald dX2_findMovable_94 rfl (by omega) (by omega) ?_
              refine G_cVi (ci := 2) dX2_findMovable_95 rfl (by decide) rfl (c_X2_gap l (d + 0) nu w m n hD2 hB2 r (w 25 i) ⟨by omega, by omega⟩ hqi.1) mcX2_89 rfl rfl (by show _ ≤ d + 1; omega) rfl rfl (Nat.le_refl _) (Nat.le_refl _) ?_
              rw [gv_fr hf (by decide) (by decide) (by decide)]
              refine G_if_ne 134 dX2_findMovable_98 (by decide) (fun h98 => ?_) (fun h98 => ?_)
              · refine G_iinc dX2_findMovable_134 rfl (iRm (by omega) (by omega)) rfl rfl ?_
                refine G_goto 43 dX2_findMovable_137 (by decide) ?_
                exact ih2 (M - 1) (by omega) (r + 1) q rho _ w (by omega) (by omega) (by omega) hI hC (fun r2 a1 a2 hg2 => by by_cases y : r2 = r; (rw [y] at hg2; exact absurd hg2 h98); exact hR r2 a1 (by omega) hg2)
              · refine G_aload_n dX2_findMovable_101 rfl ?_
                refine G_getR (jj := 8) dX2_findMovable_102 flX2_36 rfl rfl rfl ?_
                refine G_iload dX2_findMovable_105 rfl ?_
                refine G_iconst (n := 1) dX2_findMovable_107 ⟨by decide, by decide⟩ ?_
                refine G_zast dX2_findMovable_108 rfl (by omega) (by omega) (Or.inr rfl) ?_
                refine G_aload_n dX2_findMovable_109 rfl ?_
                refine G_getR (jj := 6) dX2_findMovable_110 flX2_30 rfl rfl rfl ?_
                refine G_iload dX2_findMovable_113 rfl ?_
                refine G_aload_n dX2_findMovable_115 rfl ?_
                refine G_getR (jj := 7) dX2_findMovable_116 flX2_33 rfl rfl rfl ?_
                refine G_iload dX2_findMovable_119 rfl ?_
                refine G_ialdv (w 25 i) dX2_findMovable_121 rfl (by omega) (by omega) (by rw [up_c (show 25 ≠ 26 by decide)]) ?_
                refine G_iast dX2_findMovable_122 rfl (by omega) (by omega) ?_
                refine G_aload_n dX2_findMovable_123 rfl ?_
                refine G_getR (jj := 7) dX2_findMovable_124 flX2_33 rfl rfl rfl ?_
                refine G_iload_n dX2_findMovable_127 rfl ?_
                refine G_iload dX2_findMovable_128 rfl ?_
                refine G_iast dX2_findMovable_130 rfl (by omega) (by omega) ?_
                refine G_iinc dX2_findMovable_131 rfl (iRm (by omega) (by omega)) rfl rfl ?_
                refine G_iinc dX2_findMovable_134 rfl (iRm (by omega) (by omega)) rfl rfl ?_
                refine G_goto 43 dX2_findMovable_137 (by decide) ?_
                exact ih2 (M - 1) (by omega) (r + 1) (q + 1) _ _ _ (by omega) (by omega) (by omega) (QI_add hI hq2 h0 hiq hr0 ⟨hrr.1, hrr.2.1⟩ h82 h98) (QC_add hI (by omega) hC) (fun r2 a1 a2 hg2 => by
                    rw [up_nj (show i ≠ q by omega), up_c (show 25 ≠ 24 by decide), up_c (show 25 ≠ 26 by decide)] at hg2
                    rw [up_c (show 26 ≠ 25 by decide), up_c (show 26 ≠ 24 by decide)]
                    by_cases y : r2 = r
                    · rw [y, up_self]
                    · by_cases y2 : v 19 r2 = v 19 r
                      · rw [y2, up_self]
                      · rw [up_nj y2]; exact hR r2 a1 (by omega) hg2)
      refine G_iload dX2_findMovable_29 rfl ?_
      refine G_aload_n dX2_findMovable_31 rfl ?_
      refine G_getIv (((m + n : Nat) : Int)) (jj := 11) dX2_findMovable_32 flX2_56 rfl rfl rfl d11w ?_
      refine G_icmp_ge 146 dX2_findMovable_35 (by decide) (fun h35 => ?_) (fun h35 => ?_)
      · exact G_vret dX2_findMovable_146 rfl rfl rfl ⟨rfl, rfl, QP_of hI (i := i) (by have := hI.2.1; omega) hC⟩
      · refine G_iload_n dX2_findMovable_38 rfl ?_
        refine G_iconst (n := 1) dX2_findMovable_39 ⟨by decide, by decide⟩ ?_
        refine G_iadd dX2_findMovable_40 (iRm (by omega) (by omega)) ?_
        refine G_istore dX2_findMovable_41 rfl rfl ?_
        exact inner (((m + n : Nat) : Int) - (k + 1)).toNat (k + 1) q rho _ w (by omega) (by omega) hiq hI hC (fun r2 a1 a2 => by omega)
  refine G_aload_n dX2_findMovable_0 rfl ?_
  refine G_cVq (ci := 2) dX2_findMovable_1 rfl (by decide) rfl (c_X2_forgetColumns l d nu v m n hD) mcX2_73 rfl rfl (by show _ ≤ d + 1; omega) rfl rfl (Nat.le_refl _) (Nat.le_refl _) (fun r S2 w hq9 => ?_)
  obtain ⟨rfl, rfl, hf1, hp1⟩ := hq9
  refine G_aload_n dX2_findMovable_4 rfl ?_
  refine G_getR (jj := 8) dX2_findMovable_5 flX2_36 rfl rfl rfl ?_
  refine G_iload_n dX2_findMovable_8 rfl ?_
  refine G_iconst (n := 1) dX2_findMovable_9 ⟨by decide, by decide⟩ ?_
  refine G_zast dX2_findMovable_10 rfl (by omega) (by omega) (Or.inr rfl) ?_
  refine G_aload_n dX2_findMovable_11 rfl ?_
  refine G_getR (jj := 7) dX2_findMovable_12 flX2_33 rfl rfl rfl ?_
  refine G_iconst (n := 0) dX2_findMovable_15 ⟨by decide, by decide⟩ ?_
  refine G_iload_n dX2_findMovable_16 rfl ?_
  refine G_iast dX2_findMovable_17 rfl (by omega) (by omega) ?_
  refine G_iconst (n := 1) dX2_findMovable_18 ⟨by decide, by decide⟩ ?_
  refine G_istore_n dX2_findMovable_19 rfl rfl ?_
  refine G_iconst (n := 0) dX2_findMovable_20 ⟨by decide, by decide⟩ ?_
  refine G_istore dX2_findMovable_21 rfl rfl ?_
  exact loop (m + n + 1) 0 1 (fun _ => 0) _ _ _ (by omega) (by omega) (by omega) (QI_0 ht.1 ht.2 hf1 hp1) (fun t t0 t1 => by omega)
