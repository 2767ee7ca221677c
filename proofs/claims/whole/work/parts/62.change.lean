def TK (m n : Nat) (k : Int) (v : VV) (rank : Int → Nat) : Prop := ∀ s : Int, 0 ≤ s → s < k → (v 51 s = -1 ∧ v 50 s = 1000000) ∨ ((0 ≤ v 51 s ∧ v 51 s < n) ∧ Cl v s (v 51 s) ≠ 100000000 ∧ v 50 s = Cl v s (v 51 s) + hp v (v 50) (v 51 s) ∧ (v 53 (v 51 s) ≠ -1 → v 53 (v 51 s) < k ∧ rank (v 53 (v 51 s)) < rank s))
def CHx (n : Nat) (k : Int) (v w : VV) (x : Int) : Prop := (w 48 x = -1 ∧ (k ≤ x ∨ v 50 x = 1000000)) ∨ (x < k ∧ (0 ≤ w 48 x ∧ w 48 x < n) ∧ w 53 (w 48 x) = x ∧ Cl v x (w 48 x) ≠ 100000000 ∧ Cl v x (w 48 x) = v 50 x - hp v (v 50) (w 48 x))
def CHI (m n : Nat) (k : Int) (v : VV) (rank : Int → Nat) (a : Int) (w : VV) : Prop := fr [48, 53] v w ∧ (0 ≤ a ∧ a < k) ∧ (∀ x : Int, 0 ≤ x → x < m → x ≠ a → CHx n k v w x) ∧
  (∀ u : Int, 0 ≤ u → u < n → (w 53 u = -1 ∧ v 53 u = -1) ∨ ((0 ≤ w 53 u ∧ w 53 u < k) ∧ w 53 u ≠ a ∧ w 48 (w 53 u) = u)) ∧
  ∀ u : Int, 0 ≤ u → u < n → w 53 u ≠ v 53 u → v 53 u ≠ -1 ∧ rank a ≤ rank (v 53 u)
def CHP (m n : Nat) (k : Int) (v w : VV) : Prop := fr [48, 53] v w ∧ (∀ x : Int, 0 ≤ x → x < m → CHx n k v w x) ∧ ∀ u : Int, 0 ≤ u → u < n → (w 53 u = -1 ∧ v 53 u = -1) ∨ ((0 ≤ w 53 u ∧ w 53 u < k) ∧ w 48 (w 53 u) = u)
theorem CHI_none {m n : Nat} {k : Int} {v w : VV} {rank : Int → Nat} {a : Int} (h : CHI m n k v rank a w) (ha : v 50 a = 1000000) : CHP m n k v (up w 48 a (-1)) := by
  obtain ⟨h1, h2, h3, h4, -⟩ := h
  refine ⟨fr_up h1 (by decide) _ _, fun x x0 x1 => ?_, fun u u0 u1 => ?_⟩
  · unfold CHx
    rw [up_c (show 53 ≠ 48 by decide)]
    by_cases y : x = a
    · rw [y, up_self]; exact Or.inl ⟨rfl, Or.inr ha⟩
    · rw [up_nj y]; exact h3 x x0 x1 y
  · rw [up_c (show 53 ≠ 48 by decide)]
    rcases h4 u u0 u1 with g | g
    · exact Or.inl g
    · rw [up_nj g.2.1]; exact Or.inr ⟨g.1, g.2.2⟩
theorem CHI_take {m n : Nat} {k : Int} {v w : VV} {rank : Int → Nat} {a : Int} (hk : k ≤ m) (hT : TK m n k v rank) (h : CHI m n k v rank a w) (ha : v 51 a ≠ -1) : (0 ≤ v 51 a ∧ v 51 a < n) ∧ w 53 (v 51 a) = v 53 (v 51 a) ∧ (v 53 (v 51 a) = -1 → CHP m n k v (up (up w 48 a (v 51 a)) 53 (v 51 a) a)) ∧ (v 53 (v 51 a) ≠ -1 → (0 ≤ v 53 (v 51 a) ∧ v 53 (v 51 a) < k) ∧ rank (v 53 (v 51 a)) < rank a ∧ CHI m n k v rank (v 53 (v 51 a)) (up (up w 48 a (v 51 a)) 53 (v 51 a) a)) := by
  obtain ⟨h1, h2, h3, h4, h5⟩ := h
  obtain ⟨t1, t2, t3, t4⟩ : (0 ≤ v 51 a ∧ v 51 a < n) ∧ Cl v a (v 51 a) ≠ 100000000 ∧ v 50 a = Cl v a (v 51 a) + hp v (v 50) (v 51 a) ∧ (v 53 (v 51 a) ≠ -1 → v 53 (v 51 a) < k ∧ rank (v 53 (v 51 a)) < rank a) := by
    rcases hT a h2.1 h2.2 with g | g
    · exact absurd g.1 ha
    · exact g
  generalize hu : v 51 a = u at *
  have e53 : w 53 u = v 53 u := by
    apply Classical.byContradiction
    intro g
    obtain ⟨g1, g2⟩ := h5 u t1.1 t1.2 g
    have := (t4 g1).2
    omega
  have f48 : ∀ x, up (up w 48 a u) 53 u a 48 x = if x = a then u else w 48 x := fun x => by
    rw [up_c (show 48 ≠ 53 by decide)]
    by_cases y : x = a
    · rw [y, up_self, if_pos rfl]
    · rw [up_nj y, if_neg y]
  have f53 : ∀ x, up (up w 48 a u) 53 u a 53 x = if x = u then a else w 53 x := fun x => by
    by_cases y : x = u
    · rw [y, up_self, if_pos rfl]
    · rw [up_nj y, if_neg y, up_c (show 53 ≠ 48 by decide)]
  -- who has u loses it
  have hx : ∀ x : Int, 0 ≤ x → x < m → x ≠ v 53 u → CHx n k v (up (up w 48 a u) 53 u a) x := by
    intro x x0 x1 hne
    unfold CHx
    rw [f48]
    by_cases y : x = a
    · rw [if_pos y, f53, if_pos rfl, y]
      exact Or.inr ⟨h2.2, t1, rfl, t2, by omega⟩
    · rw [if_neg y]
      rcases h3 x x0 x1 y with g | g
      · exact Or.inl g
      · have : w 48 x ≠ u := fun e => by
          have e2 := g.2.2.1
          rw [e, e53] at e2
          exact hne e2.symm
        rw [f53, if_neg this]
        exact Or.inr g
  have hhold : ∀ y : Int, 0 ≤ y → y < n → (up (up w 48 a u) 53 u a 53 y = -1 ∧ v 53 y = -1) ∨ ((0 ≤ up (up w 48 a u) 53 u a 53 y ∧ up (up w 48 a u) 53 u a 53 y < k) ∧ (y ≠ u → up (up w 48 a u) 53 u a 53 y ≠ v 53 u) ∧ up (up w 48 a u) 53 u a 48 (up (up w 48 a u) 53 u a 53 y) = y) := by
    intro y y0 y1
    rw [f53]
    by_cases z : y = u
    · rw [if_pos z, f48, if_pos rfl]
      exact Or.inr ⟨h2, fun q => absurd z q, z.symm⟩
    · rw [if_neg z]
      rcases h4 y y0 y1 with g | g
      · exact Or.inl g
      · rw [f48, if_neg g.2.1]
        refine Or.inr ⟨g.1, fun _ e => ?_, g.2.2⟩
        have e2 := g.2.2
        rcases h4 u t1.1 t1.2 with q | q
        · rw [e, ← e53, q.1] at g; omega
        · rw [e53] at q
          rw [e, q.2.2] at e2
          exact z e2.symm
  refine ⟨t1, e53, fun hn => ⟨fr_up (fr_up h1 (by decide) _ _) (by decide) _ _, fun x x0 x1 => hx x x0 x1 (by omega), fun y y0 y1 => ?_⟩, fun hn => ?_⟩
  · rcases hhold y y0 y1 with g | g
    · exact Or.inl g
    · exact Or.inr ⟨g.1, g.2.2⟩
  · have hr := t4 hn
    have hv : 0 ≤ v 53 u ∧ v 53 u < k := by
      rcases h4 u t1.1 t1.2 with q | q
      · exact absurd q.2 hn
      · rw [e53] at q; exact q.1
    refine ⟨hv, hr.2, fr_up (fr_up h1 (by decide) _ _) (by decide) _ _, hv, fun x x0 x1 hxa => hx x x0 x1 hxa, fun y y0 y1 => ?_, fun y y0 y1 hy => ?_⟩
    · rcases hhold y y0 y1 with g | g
      · exact Or.inl g
      · refine Or.inr ⟨g.1, ?_, g.2.2⟩
        by_cases z : y = u
        · rw [f53, if_pos z]
          intro e
          rw [← e] at hr
          omega
        · exact g.2.1 z
    · rw [f53] at hy
      by_cases z : y = u
      · rw [z]; exact ⟨hn, Nat.le_refl _⟩
      · rw [if_neg z] at hy
        have := h5 y y0 y1 hy
        exact ⟨this.1, by omega⟩
set_option maxRecDepth 20000 in
set_option maxHeartbeats 1000000 in
theorem c_X6_change (l : Launch) (d nu : Nat) (v : VV) (m n : Nat) (hb : m ≤ 16 ∧ n ≤ 20) (k b : Int) (hk : k ≤ m) (rank : Int → Nat) (hT : TK m n k v rank) (hI0 : CHI m n k v rank b v) : Ct l yX6_change cX6_change none 5 (d + 0) 0 0 [ar (some 27), ai b] (SG nu) v (fun r S2 w => r = none ∧ S2 = SG nu ∧ CHP m n k v w) := by
  refine Ct_of_G [some (ar (some 27)), some (ai b), none, none, none] (by decide) rfl rfl ?_
  have fin : ∀ (Z3 Z4 : Option AV) (w : VV), CHP m n k v w → G l (yX6_change, cX6_change, none, 5, (d + 0), 0, 0, none) (fun r S2 w => r = none ∧ S2 = SG nu ∧ CHP m n k v w) 0 0 (SG nu) 2 [some (ar (some 27)), some (ai b), some (ai (-1)), Z3, Z4] [] w := by
    intro Z3 Z4 w hP
    refine G_iload_n dX6_change_2 rfl ?_
    refine G_iconst (n := (-1)) dX6_change_3 ⟨by decide, by decide⟩ ?_
    refine G_icmp_eq 56 dX6_change_4 (by decide) (fun h4 => ?_) (fun h4 => absurd rfl h4)
    exact G_vret dX6_change_56 rfl rfl rfl ⟨rfl, rfl, hP⟩
  have loop : ∀ (N : Nat) (a : Int) (Z3 Z4 : Option AV) (w : VV), CHI m n k v rank a w → rank a < N → G l (yX6_change, cX6_change, none, 5, (d + 0), 0, 0, none) (fun r S2 w => r = none ∧ S2 = SG nu ∧ CHP m n k v w) 0 0 (SG nu) 2 [some (ar (some 27)), some (ai b), some (ai a), Z3, Z4] [] w := by
    intro N
    induction N using Nat.strongRecOn with
    | ind N ih =>
    intro a Z3 Z4 w hI hN
    have hf := hI.1
    have ha := hI.2.1
    refine G_iload_n dX6_change_2 rfl ?_
    refine G_iconst (n := (-1)) dX6_change_3 ⟨by decide, by decide⟩ ?_
    refine G_icmp_eq 56 dX6_change_4 (by decide) (fun h4 => by omega) (fun h4 => ?_)
    refine G_aload_n dX6_change_7 rfl ?_
    refine G_getR (jj := 38) dX6_change_8 flX6_80 rfl rfl rfl ?_
    refine G_iload_n dX6_change_11 rfl ?_
    refine G_ialdv (v 51 a) dX6_change_12 rfl (by omega) (by omega) (by rw [hf 51 (by decide)]) ?_
    refine G_istore_n dX6_change_13 rfl rfl ?_
    refine G_iload_n dX6_change_14 rfl ?_
    refine G_iconst (n := (-1)) dX6_change_15 ⟨by decide, by decide⟩ ?_
    refine G_icmp_ne 23 dX6_change_16 (by decide) (fun h16 => ?_) (fun h16 => ?_)
    · obtain ⟨q1, q2, q3, q4⟩ := CHI_take hk hT hI h16
      refine G_aload_n dX6_change_23 rfl ?_
      refine G_getR (jj := 40) dX6_change_24 flX6_86 rfl rfl rfl ?_
      refine G_iload_n dX6_change_27 rfl ?_
      refine G_ialdv (v 53 (v 51 a)) dX6_change_28 rfl (by omega) (by omega) q2 ?_
      refine G_istore dX6_change_29 rfl rfl ?_
      refine G_aload_n dX6_change_31 rfl ?_
      refine G_getR (jj := 31) dX6_change_32 flX6_71 rfl rfl rfl ?_
      refine G_iload_n dX6_change_35 rfl ?_
      refine G_iload_n dX6_change_36 rfl ?_
      refine G_iast dX6_change_37 rfl (by omega) (by omega) ?_
      refine G_iload_n dX6_change_38 rfl ?_
      refine G_iconst (n := (-1)) dX6_change_39 ⟨by decide, by decide⟩ ?_
      refine G_icmp_eq 50 dX6_change_40 (by decide) (fun h40 => by omega) (fun h40 => ?_)
      refine G_aload_n dX6_change_43 rfl ?_
      refine G_getR (jj := 40) dX6_change_44 flX6_86 rfl rfl rfl ?_
      refine G_iload_n dX6_change_47 rfl ?_
      refine G_iload_n dX6_change_48 rfl ?_
      refine G_iast dX6_change_49 rfl (by omega) (by omega) ?_
      refine G_iload dX6_change_50 rfl ?_
      refine G_istore_n dX6_change_52 rfl rfl ?_
      refine G_goto 2 dX6_change_53 (by decide) ?_
      by_cases y : v 53 (v 51 a) = -1
      · rw [y]; exact fin _ _ _ (q3 y)
      · obtain ⟨y1, y2, y3⟩ := q4 y
        exact ih (rank a) (by omega) _ _ _ _ y3 y2
    · have h50 : v 50 a = 1000000 := by rcases hT a ha.1 ha.2 with g | g; exact g.2; omega
      refine G_iconst (n := (-1)) dX6_change_19 ⟨by decide, by decide⟩ ?_
      refine G_goto 29 dX6_change_20 (by decide) ?_
      refine G_istore dX6_change_29 rfl rfl ?_
      refine G_aload_n dX6_change_31 rfl ?_
      refine G_getR (jj := 31) dX6_change_32 flX6_71 rfl rfl rfl ?_
      refine G_iload_n dX6_change_35 rfl ?_
      refine G_iload_n dX6_change_36 rfl ?_
      refine G_iast dX6_change_37 rfl (by omega) (by omega) ?_
      refine G_iload_n dX6_change_38 rfl ?_
      refine G_iconst (n := (-1)) dX6_change_39 ⟨by decide, by decide⟩ ?_
      refine G_icmp_eq 50 dX6_change_40 (by decide) (fun h40 => ?_) (fun h40 => by omega)
      refine G_iload dX6_change_50 rfl ?_
      refine G_istore_n dX6_change_52 rfl rfl ?_
      refine G_goto 2 dX6_change_53 (by decide) ?_
      have e9 : v 51 a = -1 := h16
      rw [e9]
      exact fin _ _ _ (CHI_none hI h50)
  refine G_iload_n dX6_change_0 rfl ?_
  refine G_istore_n dX6_change_1 rfl rfl ?_
  exact loop (rank b + 1) b none none v hI0 (by omega)
/-- the first k SEATS stand as well as can be -/
def P1 (m n : Nat) (k : Int) (v : VV) (ph : Int → Int) : Prop := ML m n v ∧ WH m n v ∧ (∀ s : Int, k ≤ s → s < m → v 48 s = -1) ∧ (∀ s : Int, 0 ≤ s → s < k → (py v s ≤ ph s ∧ ph s ≤ 1000000) ∧ (v 48 s = -1 → ph s = 1000000)) ∧ ∀ s u : Int, 0 ≤ s → s < k → 0 ≤ u → u < n → Cl v s u ≠ 100000000 → ph s ≤ Cl v s u + hp v ph u
theorem P1_hold {m n : Nat} {k : Int} {v : VV} {ph : Int → Int} (h : P1 m n k v ph) {u : Int} (u0 : 0 ≤ u) (u1 : u < n) (hu : v 53 u ≠ -1) : (0 ≤ v 53 u ∧ v 53 u < k) ∧ v 53 u < m ∧ v 48 (v 53 u) = u := by
  rcases h.2.1.2 u u0 u1 with g | g
  · exact absurd g hu
  · refine ⟨⟨g.1.1, ?_⟩, g.1.2, g.2⟩
    apply Classical.byContradiction
    intro z
    have := h.2.2.1 (v 53 u) (by omega) g.1.2
    omega
theorem P1_PHI {m n : Nat} {k : Int} {v : VV} {ph : Int → Int} (h : P1 m n k v ph) (k0 : 0 ≤ k) (k1 : k < m) : PHI m n (k + 1) v (fun s => if s < k then ph s else if s = k then 0 else 1000000) := by
  have ehp : ∀ u : Int, 0 ≤ u → u < n → hp v (fun s => if s < k then ph s else if s = k then 0 else 1000000) u = hp v ph u ∧ 0 ≤ hp v ph u := fun u u0 u1 => by
    unfold hp
    by_cases g : v 53 u = -1
    · rw [if_pos g, if_pos g]; omega
    · have q := P1_hold h u0 u1 g
      rw [if_neg g, if_neg g]
      show (if v 53 u < k then ph (v 53 u) else if v 53 u = k then 0 else 1000000) - py v (v 53 u) = _ ∧ _
      rw [if_pos q.1.2]
      have := (h.2.2.2.1 (v 53 u) q.1.1 q.1.2).1.1
      omega
  refine ⟨fun s s0 s1 => ?_, fun s s0 s1 => ?_, fun s u s0 s1 u0 u1 hc => ?_⟩
  · show 0 ≤ (if s < k then ph s else if s = k then 0 else 1000000) ∧ (if s < k then ph s else if s = k then 0 else 1000000) ≤ 1000000
    by_cases y : s < k
    · rw [if_pos y]
      have q := h.2.2.2.1 s s0 y
      have q2 := py_bd h.1 h.2.1 s0 (by omega)
      omega
    · rw [if_neg y, if_pos (by omega)]; omega
  · show (if s < k then ph s else if s = k then 0 else 1000000) = 1000000
    rw [if_neg (by omega), if_neg (by omega)]
  · show (if s < k then ph s else if s = k then 0 else 1000000) ≤ _
    rw [(ehp u u0 u1).1]
    by_cases y : s < k
    · rw [if_pos y]; exact h.2.2.2.2 s u s0 y u0 u1 hc
    · rw [if_neg y, if_pos (by omega)]
      have := (ehp u u0 u1).2
      rcases h.1.2.2.2 s u s0 (by omega) u0 u1 with g | g
      · exact absurd g hc
      · omega
/-- behind seek -/
theorem seek_TK {m n : Nat} {k : Int} {v w : VV} {ph : Int → Int} {tau : Int → Nat} {T : Nat} (hP : P1 m n k v ph) (k0 : 0 ≤ k) (k1 : k < m) (hT : ∀ x, tau x < T) (hI : SI m n (k + 1) v (fun s => if s < k then ph s else if s = k then 0 else 1000000) tau w) (hR : ∀ s u : Int, 0 ≤ s → s < k + 1 → 0 ≤ u → u < n → REL v w s u) :
    ∃ rank : Int → Nat, TK m n (k + 1) w rank ∧ CHI m n (k + 1) w rank k w := by
  have hPH := P1_PHI hP k0 k1
  have hf := hI.1
  have e48 := hf 48 (by decide)
  have e53 := hf 53 (by decide)
  have eC : ∀ s u, Cl w s u = Cl v s u := fun s u => by unfold Cl; rw [hf 52 (by decide)]
  have ehp : ∀ g u, hp w g u = hp v g u := fun g u => by unfold hp; rw [e53, py_fr hf (by decide) (by decide)]
  refine ⟨fun s => (w 50 s - (if s < k then ph s else if s = k then 0 else 1000000)).toNat * T + tau s, fun s s0 s1 => ?_, fr_rf, by omega, fun x x0 x1 hx => ?_, fun u u0 u1 => ?_, fun u _ _ h => absurd rfl h⟩
  · obtain ⟨a1, a2⟩ := (hI.2 s s0 (by omega)).2 s1
    rcases a2 with a2 | ⟨c1, c2, c3, c4, c5⟩
    · exact Or.inl a2
    · have hr := hR s (w 51 s) s0 s1 c1.1 c1.2 c2 c3
      refine Or.inr ⟨c1, by rw [eC]; exact c2, by rw [eC, ehp]; omega, fun hn => ?_⟩
      rw [e53] at hn ⊢
      have q := P1_hold hP c1.1 c1.2 hn
      refine ⟨by omega, ?_⟩
      have q5 := c5 hn
      have hdle : w 50 (v 53 (w 51 s)) - (if v 53 (w 51 s) < k then ph (v 53 (w 51 s)) else if v 53 (w 51 s) = k then 0 else 1000000) ≤ w 50 s - (if s < k then ph s else if s = k then 0 else 1000000) := by
        have z := hPH.2.2 s (w 51 s) s0 s1 c1.1 c1.2 c2
        unfold hp at z c4
        rw [if_neg hn] at z c4
        have z' : (if s < k then ph s else if s = k then 0 else 1000000) ≤ Cl v s (w 51 s) + ((if v 53 (w 51 s) < k then ph (v 53 (w 51 s)) else if v 53 (w 51 s) = k then 0 else 1000000) - py v (v 53 (w 51 s))) := z
        omega
      have hn1 : (if v 53 (w 51 s) < k then ph (v 53 (w 51 s)) else if v 53 (w 51 s) = k then 0 else 1000000) ≤ w 50 (v 53 (w 51 s)) := (SI_le hI hPH (by omega) q.1.1 q.2.1).1
      have hT1 := hT (v 53 (w 51 s))
      show (w 50 (v 53 (w 51 s)) - (if v 53 (w 51 s) < k then ph (v 53 (w 51 s)) else if v 53 (w 51 s) = k then 0 else 1000000)).toNat * T + tau (v 53 (w 51 s)) < (w 50 s - (if s < k then ph s else if s = k then 0 else 1000000)).toNat * T + tau s
      by_cases z : w 50 (v 53 (w 51 s)) - (if v 53 (w 51 s) < k then ph (v 53 (w 51 s)) else if v 53 (w 51 s) = k then 0 else 1000000) = w 50 s - (if s < k then ph s else if s = k then 0 else 1000000)
      · have := q5 z
        rw [z]; omega
      · generalize hd1 : w 50 (v 53 (w 51 s)) - (if v 53 (w 51 s) < k then ph (v 53 (w 51 s)) else if v 53 (w 51 s) = k then 0 else 1000000) = d1 at *
        generalize hd2 : w 50 s - (if s < k then ph s else if s = k then 0 else 1000000) = d2 at *
        have : (d1.toNat + 1) * T ≤ d2.toNat * T := Nat.mul_le_mul_right T (by omega)
        rw [Nat.add_mul] at this
        omega
  · unfold CHx
    rw [e48, e53, eC]
    rcases hP.2.1.1 x x0 x1 with g | g
    · refine Or.inl ⟨g, ?_⟩
      by_cases y : x < k
      · refine Or.inr ?_
        have q := (hP.2.2.2.1 x x0 y).2 g
        have q2 := ((hI.2 x x0 x1).2 (by omega)).1
        have q3 : (if x < k then ph x else if x = k then 0 else 1000000) ≤ w 50 x := q2.1
        rw [if_pos y] at q3
        omega
      · exact Or.inl (by omega)
    · have y : x < k := by
        apply Classical.byContradiction
        intro z
        have := hP.2.2.1 x (by omega) x1
        omega
      refine Or.inr ⟨by omega, g.1, g.2.1, g.2.2, ?_⟩
      rw [ehp]
      unfold hp py
      rw [if_neg (by omega), g.2.1, if_neg (by omega)]
      unfold Cl
      omega
  · rw [e48, e53]
    by_cases g : v 53 u = -1
    · exact Or.inl ⟨g, g⟩
    · have q := P1_hold hP u0 u1 g
      exact Or.inr ⟨by omega, by omega, q.2.2⟩
theorem P1_next {m n : Nat} {k : Int} {v w z : VV} {ph : Int → Int} {tau : Int → Nat} (hP : P1 m n k v ph) (k0 : 0 ≤ k) (k1 : k < m) (hI : SI m n (k + 1) v (fun s => if s < k then ph s else if s = k then 0 else 1000000) tau w) (hR : ∀ s u : Int, 0 ≤ s → s < k + 1 → 0 ≤ u → u < n → REL v w s u) (hC : CHP m n (k + 1) w z) : P1 m n (k + 1) z (w 50) := by
  have hPH := P1_PHI hP k0 k1
  have hf := hI.1
  obtain ⟨c1, c2, c3⟩ := hC
  have e48 := hf 48 (by decide)
  have e53 := hf 53 (by decide)
  have eC : ∀ s u, Cl w s u = Cl v s u := fun s u => by unfold Cl; rw [hf 52 (by decide)]
  have eZ : ∀ s u, Cl z s u = Cl w s u := fun s u => by unfold Cl; rw [c1 52 (by decide)]
  have ehp : ∀ g u, hp w g u = hp v g u := fun g u => by unfold hp; rw [e53, py_fr hf (by decide) (by decide)]
  have hnn : ∀ u : Int, 0 ≤ u → u < n → 0 ≤ hp w (w 50) u := fun u u0 u1 => by
    rw [ehp]
    unfold hp
    by_cases g : v 53 u = -1
    · rw [if_pos g]; omega
    · rw [if_neg g]
      have q := P1_hold hP u0 u1 g
      have q2 := ((hI.2 (v 53 u) q.1.1 q.2.1).2 (by omega)).1.1
      have q4 : (if v 53 u < k then ph (v 53 u) else if v 53 u = k then 0 else 1000000) ≤ w 50 (v 53 u) := q2
      rw [if_pos q.1.2] at q4
      have q3 := (hP.2.2.2.1 (v 53 u) q.1.1 q.1.2).1.1
      omega
  have pz : ∀ x : Int, z 48 x ≠ -1 → py z x = Cl w x (z 48 x) := fun x hx => by
    unfold py
    rw [if_neg hx, c1 52 (by decide)]; rfl
  have ehz : ∀ u : Int, 0 ≤ u → u < n → hp z (w 50) u = hp w (w 50) u := fun u u0 u1 => by
    rcases c3 u u0 u1 with g | g
    · unfold hp
      rw [if_pos g.1, if_pos g.2]
    · have hx := c2 (z 53 u) g.1.1 (by omega)
      unfold CHx at hx
      rw [g.2] at hx
      rcases hx with hx | hx
      · omega
      · have e : hp z (w 50) u = w 50 (z 53 u) - py z (z 53 u) := if_neg (by omega)
        rw [e, pz (z 53 u) (by omega), g.2]
        omega
  refine ⟨⟨?_, hP.1.2.1, hP.1.2.2.1, fun s u s0 s1 u0 u1 => ?_⟩, ⟨fun s s0 s1 => ?_, fun u u0 u1 => ?_⟩, fun s s0 s1 => ?_, fun s s0 s1 => ?_, fun s u s0 s1 u0 u1 hc => ?_⟩
  · rw [c1 27 (by decide), hf 27 (by decide)]; exact hP.1.1
  · rw [eZ, eC]; exact hP.1.2.2.2 s u s0 s1 u0 u1
  · rcases c2 s s0 s1 with g | g
    · exact Or.inl g.1
    · exact Or.inr ⟨g.2.1, g.2.2.1, by rw [eZ]; exact g.2.2.2.1⟩
  · rcases c3 u u0 u1 with g | g
    · exact Or.inl g.1
    · exact Or.inr ⟨by omega, g.2⟩
  · rcases c2 s (by omega) s1 with g | g
    · exact g.1
    · omega
  · have q := ((hI.2 s s0 (by omega)).2 s1).1
    rcases c2 s s0 (by omega) with g | g
    · have : w 50 s = 1000000 := by
        rcases g.2 with y | y
        · omega
        · exact y
      refine ⟨⟨?_, q.2⟩, fun _ => this⟩
      unfold py
      rw [if_pos g.1]; omega
    · have hz : z 48 s ≠ -1 := by omega
      refine ⟨⟨?_, q.2⟩, fun y => absurd y hz⟩
      rw [pz s hz, g.2.2.2.2]
      have := hnn (z 48 s) g.2.1.1 g.2.1.2
      omega
  · rw [eZ, eC] at hc
    rw [eZ, eC, ehz u u0 u1, ehp]
    by_cases y : u = v 48 s
    · have hs := hP.2.1.1 s s0 (by omega)
      rw [← y] at hs
      rcases hs with g | g
      · omega
      · unfold hp
        rw [if_neg (by omega), g.2.1]
        unfold py
        rw [if_neg (by omega), ← y]
        unfold Cl
        omega
    · exact hR s u s0 s1 u0 u1 hc y
def psi (v : VV) (ph : Int → Int) (u : Int) : Int := - hp v ph u
theorem P1_MC {m n : Nat} {v : VV} {ph : Int → Int} (h : P1 m n m v ph) : MC 1000000 m n (fun s u => Cl v s u ≠ 100000000) (Cl v) (v 48) ph (psi v ph) ∧ ∀ u : Int, 0 ≤ u → u < n → -1000000 ≤ psi v ph u := by
  have hb : ∀ u : Int, 0 ≤ u → u < n → v 53 u ≠ -1 → psi v ph u = py v (v 53 u) - ph (v 53 u) ∧ (0 ≤ py v (v 53 u) ∧ py v (v 53 u) ≤ ph (v 53 u) ∧ ph (v 53 u) ≤ 1000000) := fun u u0 u1 g => by
    have q := P1_hold h u0 u1 g
    unfold psi hp
    rw [if_neg g]
    have q2 := (h.2.2.2.1 (v 53 u) q.1.1 q.1.2).1
    have q3 := py_bd h.1 h.2.1 q.1.1 q.2.1
    omega
  have h0 : ∀ u : Int, v 53 u = -1 → psi v ph u = 0 := fun u g => by
    unfold psi hp
    rw [if_pos g]; rfl
  refine ⟨⟨⟨fun s s0 s1 => ?_, fun s t s0 s1 t0 t1 e hne => ?_⟩, fun s u s0 s1 u0 u1 hc => ?_, fun s s0 s1 hs => ?_, fun u u0 u1 => ?_, fun u u0 u1 hu => ?_, fun s s0 s1 => (h.2.2.2.1 s s0 s1).1.2, fun s s0 s1 hs => (h.2.2.2.1 s s0 s1).2 hs⟩, fun u u0 u1 => ?_⟩
  · rcases h.2.1.1 s s0 s1 with g | g
    · exact Or.inl g
    · exact Or.inr ⟨g.1, g.2.2⟩
  · rcases h.2.1.1 s s0 s1 with g | g
    · exact absurd g hne
    · rcases h.2.1.1 t t0 t1 with g2 | g2
      · omega
      · rw [← g.2.1, ← g2.2.1, e]
  · have := h.2.2.2.2 s u s0 s1 u0 u1 hc
    unfold psi
    omega
  · rcases h.2.1.1 s s0 s1 with g | g
    · exact absurd g hs
    · have q := hb (v 48 s) g.1.1 g.1.2 (by omega)
      rw [g.2.1] at q
      rw [q.1]
      unfold py Cl
      rw [if_neg hs]
      omega
  · by_cases g : v 53 u = -1
    · rw [h0 u g]; omega
    · have := hb u u0 u1 g; omega
  · refine h0 u ?_
    rcases h.2.1.2 u u0 u1 with g | g
    · exact g
    · exact absurd g.2 (hu (v 53 u) g.1.1 g.1.2)
  · by_cases g : v 53 u = -1
    · rw [h0 u g]; omega
    · have := hb u u0 u1 g; omega
