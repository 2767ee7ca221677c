theorem WFA_edge {m n : Nat} {k : Int} {v w : VV} (k0 : 0 ≤ k) (h : WFA v w m n k) {y x q wt : Int} (hE : ED m n v k y x q wt) (hy : w 55 y < 100000000) : w 55 x ≤ w 55 y + wt := by
  obtain ⟨⟨h1, h2⟩, h3, h4⟩ := h
  rcases hE with ⟨-, g2, g3, g4⟩ | ⟨-, g2, g3⟩
  · rw [g3] at hy ⊢
    obtain ⟨s1, s2⟩ := h1 q (by omega) g2.2 g2.1 hy
    rcases g4 with g4 | g4
    · have := s1 g4.2.1
      rw [g4.1]; omega
    · have := s2 x g4.1.1 g4.1.2 (by rw [← g3]; exact g4.2.1) g4.2.2.1 g4.2.2.2.1
      omega
  · rcases g3 with g | g | g | g
    · have := (h2 y g.1.1 g.1.2).1 g.2.1 hy
      rw [g.2.2]; omega
    · rw [g.1] at hy ⊢
      have := (h2 x g.2.1.1 g.2.1.2).2 g.2.2.1 g.2.2.2 hy
      omega
    · rw [g.1] at hy ⊢
      rw [g.2]
      have := h3 hy
      omega
    · rw [g.1] at hy ⊢
      rw [g.2]
      have := h4 hy
      omega
theorem WFA_WF {m n : Nat} {k u : Int} {v w : VV} {ph ps : Int → Int} {tau : Int → Nat} {T : Nat} (k0 : 0 ≤ k) (k1 : k < m) (hC : WC m n k v ph ps) (hu : 0 ≤ u ∧ u < n) (hI : WI m n k u v ps tau T w) (h : WFA v w m n k) : WF 1000000 m n (fun s u => Cl v s u ≠ 100000000) (Cl v) (v 48) ps k u (w 55) := by
  have hn := hC.1.2.1
  have eu : pN n ps u = ps u := if_pos hu.2
  have e20 : pN n ps 20 = 0 := if_neg (by omega)
  have e21 : pN n ps 21 = 0 := if_neg (by omega)
  have off53 : ∀ x : Int, 0 ≤ x → x < n → offI m (v 48) x → v 53 x = -1 := fun x x0 x1 hx => by
    rcases hC.2.1.2 x x0 x1 with g | g
    · exact g
    · exact absurd g.2 (hx _ g.1.1 g.1.2)
  refine ⟨hI.2.2.1, fun x x0 x1 => ?_, ⟨?_, ?_⟩, fun s x s0 s1 x0 x1 hx hok hnf hlt => ?_, fun s s0 s1 hs hlt => ?_, fun x x0 x1 hx hlt => (h.1.2 x x0 x1).1 (off53 x x0 x1 hx) hlt, fun x x0 x1 hx hlt => ?_, h.2.1, h.2.2⟩
  · have := (hI.2.1 x x0 (by omega)).1
    rw [lb_node (Or.inl ⟨x0, x1⟩)] at this
    rw [eu]; exact this
  · have := (hI.2.1 20 (by omega) (by omega)).1
    rw [lb_node (Or.inr (Or.inl rfl)), e20] at this
    rw [eu]; omega
  · have := (hI.2.1 21 (by omega) (by omega)).1
    rw [lb_node (Or.inr (Or.inr rfl)), e21] at this
    rw [eu]; omega
  · have := (h.1.1 s (by omega) s1 s0 hlt).2 x x0 x1 hx hok hnf
    exact this
  · have e : pl (v 48) s = v 48 s := if_neg hs
    have := (h.1.1 s (by omega) s1 s0 (by rw [e]; exact hlt)).1 hs
    rw [e] at this
    unfold py at this
    rw [if_neg hs] at this
    unfold Cl
    omega
  · obtain ⟨t, t0, t1, et⟩ := hx
    have h53 : v 53 x = t := by
      rcases hC.2.1.1 t (by omega) t1 with g | g
      · omega
      · rw [et] at g; exact g.2.1
    refine (h.1.2 x x0 x1).2 (by omega) ?_ hlt
    rw [held_iff hC.2.1 (by omega) x0 x1 (by omega)]
    omega
/-- the way back from had to u, its pairs changed one by one -/
def csk (E : Int) (k : Int) (v : VV) (W : Int → Int) (m : Nat) : Int := sg (fun s => if s = k then 0 else if W s = -1 then E else Cl v s (W s)) m
def AP (m n : Nat) (k u : Int) (v w : VV) (rank : Int → Nat) (a : Int) (W : Int → Int) : Prop := node n a ∧ w 55 a < 100000000 ∧
  (∀ s : Int, 0 ≤ s → s < m → s ≠ k → W s = -1 ∨ ((0 ≤ W s ∧ W s < n) ∧ Cl v s (W s) ≠ 100000000)) ∧
  (∀ s t : Int, 0 ≤ s → s < m → s ≠ k → 0 ≤ t → t < m → t ≠ k → W s = W t → W s ≠ -1 → s = t) ∧
  (∀ s : Int, 0 ≤ s → s < m → s ≠ k → W s ≠ a) ∧
  (∀ s : Int, 0 ≤ s → s < m → s ≠ k → rank (pl (v 48) s) < rank a → W s = v 48 s) ∧
  (∀ s : Int, 0 ≤ s → s < m → s ≠ k → W s = v 48 s ∨ (W s ≠ -1 → rank a ≤ rank (W s))) ∧
  (∀ s : Int, 0 ≤ s → s < k → W s = v 48 s) ∧
  csk 1000000 k v W m = csk 1000000 k v (v 48) m + (w 55 (pl (v 48) k) - w 55 a)
theorem AP_0 {m n : Nat} {k u : Int} {v w : VV} {ph ps : Int → Int} {rank : Int → Nat} (k0 : 0 ≤ k) (k1 : k < m) (hC : WC m n k v ph ps) (hlt : w 55 (pl (v 48) k) < 100000000) : AP m n k u v w rank (pl (v 48) k) (v 48) := by
  have hn := hC.1.2.1
  have hV := hC.2.2.2.1.1
  refine ⟨pl_node hC.2.1 k0 k1, hlt, fun s s0 s1 _ => hV.1 s s0 s1, fun s t s0 s1 _ t0 t1 _ e hne => hV.2 s t s0 s1 t0 t1 e hne, fun s s0 s1 hs e => ?_, fun _ _ _ _ _ => rfl, fun _ _ _ _ => Or.inl rfl, fun _ _ _ => rfl, by omega⟩
  unfold pl at e
  rcases hV.1 s s0 s1 with g | g
  · by_cases y : v 48 k = -1
    · rw [if_pos y] at e; omega
    · rw [if_neg y] at e
      exact y (e ▸ g)
  · by_cases y : v 48 k = -1
    · rw [if_pos y] at e; omega
    · rw [if_neg y] at e
      exact hs (hV.2 s k s0 s1 k0 k1 e (by omega))
theorem csk_set {k : Int} {v : VV} {W : Int → Int} {m : Nat} {q x : Int} (q0 : 0 ≤ q) (q1 : q < m) (hq : q ≠ k) : csk 1000000 k v (fun s => if s = q then x else W s) m = csk 1000000 k v W m - (if W q = -1 then 1000000 else Cl v q (W q)) + (if x = -1 then 1000000 else Cl v q x) := by
  unfold csk
  have e := sg_upd (fun s => if s = k then 0 else if W s = -1 then 1000000 else Cl v s (W s)) q (if x = -1 then 1000000 else Cl v q x) m q0 q1
  have e2 : (if q = k then (0 : Int) else if W q = -1 then 1000000 else Cl v q (W q)) = (if W q = -1 then 1000000 else Cl v q (W q)) := if_neg hq
  rw [e2] at e
  rw [← e]
  refine sg_congr m (fun s s0 s1 => ?_)
  show (if s = k then (0 : Int) else if (if s = q then x else W s) = -1 then 1000000 else Cl v s (if s = q then x else W s)) = if s = q then (if x = -1 then 1000000 else Cl v q x) else if s = k then 0 else if W s = -1 then 1000000 else Cl v s (W s)
  by_cases y : s = q
  · rw [if_pos y, if_pos y, if_neg (by omega), y]
  · rw [if_neg y, if_neg y]
theorem AP_move {m n : Nat} {k u : Int} {v w : VV} {ph ps : Int → Int} {rank : Int → Nat} {a y q wt : Int} {W : Int → Int} (k0 : 0 ≤ k) (k1 : k < m) (hC : WC m n k v ph ps) (h : AP m n k u v w rank a W) (hE : ED m n v k y a q wt) (hq : q ≠ -1) (hy : w 55 y < 100000000) (he : w 55 a = w 55 y + wt) (hr : rank y < rank a) :
    (k < q ∧ q < m) ∧ AP m n k u v w rank y (fun s => if s = q then (if a = 20 then -1 else a) else W s) := by
  have hn := hC.1.2.1
  obtain ⟨a1, a2, a3, a4, a5, a6, a7, a8, a9⟩ := h
  obtain ⟨g2, g3, g4⟩ : (k < q ∧ q < m) ∧ y = pl (v 48) q ∧ ((a = 20 ∧ v 48 q ≠ -1 ∧ wt = 1000000 - py v q) ∨ ((0 ≤ a ∧ a < n) ∧ a ≠ y ∧ Cl v q a ≠ 100000000 ∧ ¬ heldF (v 48) k a ∧ wt = Cl v q a - py v q)) := by
    rcases hE with ⟨-, g2, g3, g4⟩ | ⟨g1, -⟩
    · exact ⟨g2, g3, g4⟩
    · exact absurd g1 hq
  have hqk : q ≠ k := by omega
  have wq : W q = v 48 q := a6 q (by omega) g2.2 hqk (by rw [← g3]; exact hr)
  have nx : (if a = 20 then (-1 : Int) else a) = -1 ∨ ((0 ≤ (if a = 20 then (-1 : Int) else a) ∧ (if a = 20 then (-1 : Int) else a) < n) ∧ Cl v q (if a = 20 then (-1 : Int) else a) ≠ 100000000 ∧ (if a = 20 then (-1 : Int) else a) = a) := by
    rcases g4 with g | g
    · rw [if_pos g.1]; exact Or.inl rfl
    · rw [if_neg (by omega)]; exact Or.inr ⟨g.1, g.2.2.1, rfl⟩
  have hya : y ≠ a := fun e => by rw [e] at hr; omega
  refine ⟨g2, ?_, hy, fun s s0 s1 hs => ?_, fun s t s0 s1 hs t0 t1 ht e hne => ?_, fun s s0 s1 hs => ?_, fun s s0 s1 hs hrs => ?_, fun s s0 s1 hs => ?_, fun s s0 s1 => ?_, ?_⟩
  · rw [g3]; exact pl_node hC.2.1 (by omega) g2.2
  · show (if s = q then (if a = 20 then (-1 : Int) else a) else W s) = -1 ∨ ((0 ≤ (if s = q then (if a = 20 then (-1 : Int) else a) else W s) ∧ (if s = q then (if a = 20 then (-1 : Int) else a) else W s) < n) ∧ Cl v s (if s = q then (if a = 20 then (-1 : Int) else a) else W s) ≠ 100000000)
    by_cases z : s = q
    · rw [if_pos z, z]
      rcases nx with g | g
      · exact Or.inl g
      · exact Or.inr ⟨g.1, g.2.1⟩
    · rw [if_neg z]; exact a3 s s0 s1 hs
  · have e' : (if s = q then (if a = 20 then (-1 : Int) else a) else W s) = (if t = q then (if a = 20 then (-1 : Int) else a) else W t) := e
    have hne' : (if s = q then (if a = 20 then (-1 : Int) else a) else W s) ≠ -1 := hne
    by_cases z : s = q
    · by_cases z2 : t = q
      · omega
      · rw [if_pos z, if_neg z2] at e'
        rw [if_pos z] at hne'
        rcases nx with g | g
        · exact absurd g hne'
        · rw [g.2.2] at e'
          exact absurd e'.symm (a5 t t0 t1 ht)
    · rw [if_neg z] at e' hne'
      by_cases z2 : t = q
      · rw [if_pos z2] at e'
        rcases nx with g | g
        · rw [g] at e'; exact absurd e' hne'
        · rw [g.2.2] at e'
          exact absurd e' (a5 s s0 s1 hs)
      · rw [if_neg z2] at e'
        exact a4 s t s0 s1 hs t0 t1 ht e' hne'
  · show (if s = q then (if a = 20 then (-1 : Int) else a) else W s) ≠ y
    by_cases z : s = q
    · rw [if_pos z]
      have ny := node_bd hn (pl_node hC.2.1 (q := q) (by omega) g2.2)
      rcases nx with g | g
      · rw [g]; omega
      · rw [g.2.2]; exact fun e => hya e.symm
    · rw [if_neg z]
      intro e
      unfold pl at g3
      by_cases z2 : v 48 q = -1
      · rw [if_pos z2] at g3
        have := a3 s s0 s1 hs
        omega
      · rw [if_neg z2] at g3
        have e2 : W s = W q := by rw [e, g3, wq]
        exact z (a4 s q s0 s1 hs (by omega) g2.2 hqk e2 (by rw [e, g3]; exact z2))
  · show (if s = q then (if a = 20 then (-1 : Int) else a) else W s) = v 48 s
    have z : s ≠ q := fun e => by rw [e, ← g3] at hrs; omega
    rw [if_neg z]; exact a6 s s0 s1 hs (by omega)
  · show (if s = q then (if a = 20 then (-1 : Int) else a) else W s) = v 48 s ∨ ((if s = q then (if a = 20 then (-1 : Int) else a) else W s) ≠ -1 → rank y ≤ rank (if s = q then (if a = 20 then (-1 : Int) else a) else W s))
    by_cases z : s = q
    · rw [if_pos z]
      refine Or.inr (fun g9 => ?_)
      rcases nx with g | g
      · exact absurd g g9
      · rw [g.2.2]; omega
    · rw [if_neg z]
      rcases a7 s s0 s1 hs with g | g
      · exact Or.inl g
      · exact Or.inr (fun g9 => by have := g g9; omega)
  · show (if s = q then (if a = 20 then (-1 : Int) else a) else W s) = v 48 s
    rw [if_neg (by omega)]; exact a8 s s0 s1
  · rw [csk_set (by omega) g2.2 hqk, a9, wq]
    have ep : (if v 48 q = -1 then (1000000 : Int) else Cl v q (v 48 q)) = py v q := rfl
    rw [ep]
    rcases g4 with g | g
    · rw [if_pos g.1, if_pos rfl]; omega
    · rw [if_neg (by omega), if_neg (by omega)]; omega
theorem AP_stay {m n : Nat} {k u : Int} {v w : VV} {ph ps : Int → Int} {rank : Int → Nat} {a y q wt : Int} {W : Int → Int} (k0 : 0 ≤ k) (k1 : k < m) (hC : WC m n k v ph ps) (h : AP m n k u v w rank a W) (hE : ED m n v k y a q wt) (hq : q = -1) (hy : w 55 y < 100000000) (he : w 55 a = w 55 y + wt) (hr : rank y < rank a) : AP m n k u v w rank y W := by
  have hn := hC.1.2.1
  have ny := (ED_node k0 hC.2.1 hE).1
  obtain ⟨a1, a2, a3, a4, a5, a6, a7, a8, a9⟩ := h
  obtain ⟨g2, g3⟩ : wt = 0 ∧ (((0 ≤ y ∧ y < n) ∧ v 53 y = -1 ∧ a = 21) ∨ (y = 21 ∧ (0 ≤ a ∧ a < n) ∧ v 53 a ≠ -1 ∧ ¬ heldF (v 48) k a) ∨ (y = 20 ∧ a = 21) ∨ (y = 21 ∧ a = 20)) := by
    rcases hE with ⟨g1, -⟩ | ⟨-, g2, g3⟩
    · exact absurd hq g1
    · exact ⟨g2, g3⟩
  refine ⟨ny, hy, a3, a4, fun s s0 s1 hs e => ?_, fun s s0 s1 hs hrs => a6 s s0 s1 hs (by omega), fun s s0 s1 hs => ?_, a8, by omega⟩
  · have q3 := a3 s s0 s1 hs
    rcases g3 with g | g | g | g
    · rcases a7 s s0 s1 hs with z | z
      · rcases hC.2.1.1 s s0 s1 with z2 | z2
        · omega
        · rw [← z, e, g.2.1] at z2; omega
      · have := z (by omega)
        rw [e] at this
        omega
    · omega
    · omega
    · omega
  · rcases a7 s s0 s1 hs with g | g
    · exact Or.inl g
    · exact Or.inr (fun g9 => by have := g g9; omega)
theorem csk_cE {k : Int} {v : VV} {W : Int → Int} {m : Nat} (k0 : 0 ≤ k) (k1 : k < m) : cE 1000000 (Cl v) W m = csk 1000000 k v W m + (if W k = -1 then 1000000 else Cl v k (W k)) := by
  have e := sg_upd (fun s => if W s = -1 then (1000000 : Int) else Cl v s (W s)) k 0 m k0 k1
  have e2 : csk 1000000 k v W m = sg (fun s => if s = k then (0 : Int) else if W s = -1 then 1000000 else Cl v s (W s)) m := rfl
  unfold cE
  rw [e2, e]
  omega
theorem AP_end {m n : Nat} {k u : Int} {v w : VV} {ph ps : Int → Int} {rank : Int → Nat} {W : Int → Int} (k0 : 0 ≤ k) (k1 : k < m) (hC : WC m n k v ph ps) (hu : 0 ≤ u ∧ u < n) (h : AP m n k u v w rank u W) (hc : Cl v k u ≠ 100000000) (hw : w 55 u = 0) (ht : Cl v k u - py v k + w 55 (pl (v 48) k) = 0) : MC 1000000 m n (fun s u => Cl v s u ≠ 100000000) (Cl v) (fun s => if s = k then u else W s) ph ps ∧ ∀ t : Int, 0 ≤ t → t < k → (fun s => if s = k then u else W s) t = v 48 t := by
  obtain ⟨a1, a2, a3, a4, a5, a6, a7, a8, a9⟩ := h
  have hV : Val m n (fun s u => Cl v s u ≠ 100000000) (fun s => if s = k then u else W s) := by
    refine ⟨fun s s0 s1 => ?_, fun s t s0 s1 t0 t1 e hne => ?_⟩
    · show (if s = k then u else W s) = -1 ∨ ((0 ≤ (if s = k then u else W s) ∧ (if s = k then u else W s) < n) ∧ Cl v s (if s = k then u else W s) ≠ 100000000)
      by_cases z : s = k
      · rw [if_pos z, z]; exact Or.inr ⟨hu, hc⟩
      · rw [if_neg z]; exact a3 s s0 s1 z
    · have e' : (if s = k then u else W s) = (if t = k then u else W t) := e
      have hne' : (if s = k then u else W s) ≠ -1 := hne
      by_cases z : s = k
      · by_cases z2 : t = k
        · omega
        · rw [if_pos z, if_neg z2] at e'
          exact absurd e'.symm (a5 t t0 t1 z2)
      · rw [if_neg z] at e' hne'
        by_cases z2 : t = k
        · rw [if_pos z2] at e'
          exact absurd e' (a5 s s0 s1 z)
        · rw [if_neg z2] at e'
          exact a4 s t s0 s1 z t0 t1 z2 e' hne'
  refine ⟨(MC_dual hC.2.2.2.1 hV).2 ?_, fun t t0 t1 => ?_⟩
  · rw [csk_cE (k := k) k0 k1, csk_cE (k := k) k0 k1]
    show csk 1000000 k v (fun s => if s = k then u else W s) m + (if (if k = k then u else W k) = -1 then 1000000 else Cl v k (if k = k then u else W k)) ≤ _
    have e1 : csk 1000000 k v (fun s => if s = k then u else W s) m = csk 1000000 k v W m := sg_congr m (fun s s0 s1 => by
      show (if s = k then (0 : Int) else if (if s = k then u else W s) = -1 then 1000000 else Cl v s (if s = k then u else W s)) = if s = k then 0 else if W s = -1 then 1000000 else Cl v s (W s)
      by_cases z : s = k
      · rw [if_pos z, if_pos z]
      · rw [if_neg z, if_neg z, if_neg z])
    rw [e1, if_pos rfl, if_neg (by omega), a9]
    have ep : (if v 48 k = -1 then (1000000 : Int) else Cl v k (v 48 k)) = py v k := rfl
    rw [ep]
    omega
  · show (if t = k then u else W t) = v 48 t
    rw [if_neg (by omega)]; exact a8 t t0 t1
/-- the way's pointers: equal, and falling -/
def PF (m n : Nat) (k u : Int) (v w : VV) (rank : Int → Nat) : Prop := ∀ x : Int, node n x → x ≠ u → w 55 x < 100000000 → ∃ wt, ED m n v k (w 56 x) x (w 57 x) wt ∧ w 55 x = w 55 (w 56 x) + wt ∧ w 55 (w 56 x) < 100000000 ∧ rank (w 56 x) < rank x
theorem WI_PF {m n : Nat} {k u : Int} {v w : VV} {ph ps : Int → Int} {tau : Int → Nat} {T : Nat} (k0 : 0 ≤ k) (hC : WC m n k v ph ps) (hI : WI m n k u v ps tau T w) (h : WFA v w m n k) : ∃ rank : Int → Nat, PF m n k u v w rank := by
  have hn := hC.1.2.1
  refine ⟨fun x => (w 55 x - (pN n ps x - ps u)).toNat * T + tau x, fun x nx hx hlt => ?_⟩
  obtain ⟨wt, a1, a2, a3, a4⟩ := hI.2.2.2.1 x nx hx hlt
  have e1 := WFA_edge k0 h a1 a3
  have red := ED_red k0 hC a1
  have ny := (ED_node k0 hC.2.1 a1).1
  have by_ := (hI.2.1 (w 56 x) (node_bd hn ny).1 (node_bd hn ny).2).1
  rw [lb_node ny] at by_
  refine ⟨wt, a1, by omega, a3, ?_⟩
  show (w 55 (w 56 x) - (pN n ps (w 56 x) - ps u)).toNat * T + tau (w 56 x) < (w 55 x - (pN n ps x - ps u)).toNat * T + tau x
  have ht := hI.2.2.2.2 (w 56 x)
  by_cases z : w 55 (w 56 x) - pN n ps (w 56 x) = w 55 x - pN n ps x
  · have := a4 z
    rw [show w 55 (w 56 x) - (pN n ps (w 56 x) - ps u) = w 55 x - (pN n ps x - ps u) from by omega]
    omega
  · generalize hd1 : w 55 (w 56 x) - (pN n ps (w 56 x) - ps u) = d1 at *
    generalize hd2 : w 55 x - (pN n ps x - ps u) = d2 at *
    have : (d1.toNat + 1) * T ≤ d2.toNat * T := Nat.mul_le_mul_right T (by omega)
    rw [Nat.add_mul] at this
    omega
theorem WC_fw {m n : Nat} {k : Int} {v w : VV} {ph ps : Int → Int} (h : WC m n k v ph ps) (hf : fw v w) : WC m n k w ph ps := by
  unfold WC ML WH FX2 Cl
  rw [hf.2 33 (by decide), hf.1 52 (by decide), hf.1 48 (by decide), hf.1 53 (by decide), hf.1 54 (by decide)]
  exact h
def fl (v w : VV) : Prop := (∀ k, k ∉ [27, 48, 53, 55, 56, 57] → w k = v k) ∧ ∀ j : Int, j ≠ 45 → w 27 j = v 27 j
theorem fl_fw {v w : VV} (h : fw v w) : fl v w := ⟨fun k hk => h.1 k (fun z => hk (by revert z; simp; omega)), h.2⟩
theorem fl_tr {a b c : VV} (h : fl a b) (h2 : fl b c) : fl a c := ⟨fun k hk => (h2.1 k hk).trans (h.1 k hk), fun j hj => (h2.2 j hj).trans (h.2 j hj)⟩
theorem fl_fr {v w : VV} (h : fr [48, 53] v w) : fl v w := ⟨fun k hk => h k (fun z => hk (by revert z; simp; omega)), fun j _ => by rw [h 27 (by decide)]⟩
/-- none of the best that are like this one ahead of k has one of those below u at k -/
def NOu (m n : Nat) (k u : Int) (v : VV) : Prop := ∀ b, Opt 1000000 m n (fun s u => Cl v s u ≠ 100000000) (Cl v) b → (∀ t : Int, 0 ≤ t → t < k → b t = v 48 t) → ∀ x : Int, 0 ≤ x → x < u → b k ≠ x
def LSP (m n : Nat) (k : Int) (v : VV) (ph ps : Int → Int) (w : VV) : Prop := fl v w ∧ WC m n k w ph ps ∧ (∀ t : Int, 0 ≤ t → t < k → w 48 t = v 48 t) ∧ ∀ b, Opt 1000000 m n (fun s u => Cl v s u ≠ 100000000) (Cl v) b → (∀ t : Int, 0 ≤ t → t < k → b t = v 48 t) → b k ≠ -1 → w 48 k ≠ -1 ∧ w 48 k ≤ b k
theorem NOu_add {m n : Nat} {k u : Int} {v : VV} (h : NOu m n k u v) (hb : ∀ b, Opt 1000000 m n (fun s u => Cl v s u ≠ 100000000) (Cl v) b → (∀ t : Int, 0 ≤ t → t < k → b t = v 48 t) → b k ≠ u) : NOu m n k (u + 1) v := by
  intro b h1 h2 x x0 x1
  by_cases y : x = u
  · rw [y]; exact hb b h1 h2
  · exact h b h1 h2 x x0 (by omega)
theorem optk {m n : Nat} {v : VV} {b : Int → Int} {k : Int} (h : Opt 1000000 m n (fun s u => Cl v s u ≠ 100000000) (Cl v) b) (k0 : 0 ≤ k) (k1 : k < m) (hb : b k ≠ -1) : (0 ≤ b k ∧ b k < n) ∧ Cl v k (b k) ≠ 100000000 := by
  rcases h.1.1 k k0 k1 with g | g
  · exact absurd g hb
  · exact g
theorem optF {m n : Nat} {v : VV} {b : Int → Int} {k : Int} (h : Opt 1000000 m n (fun s u => Cl v s u ≠ 100000000) (Cl v) b) (k0 : 0 ≤ k) (k1 : k < m) (hab : ∀ t : Int, 0 ≤ t → t < k → b t = v 48 t) {u : Int} (u0 : 0 ≤ u) (hF : heldF (v 48) k u) : b k ≠ u := by
  obtain ⟨t, t0, t1, e⟩ := hF
  intro e2
  have := h.1.2 t k t0 (by omega) k0 k1 (by rw [hab t t0 t1, e, e2]) (by rw [hab t t0 t1, e]; omega)
  omega
/-- all but the holders is settled; then the holders are told anew -/
def HL (m n : Nat) (v : VV) (q : Int) (w : VV) : Prop := fr [53] v w ∧ (∀ u : Int, 0 ≤ u → u < n → w 53 u = -1 ∨ ((0 ≤ w 53 u ∧ w 53 u < q) ∧ v 48 (w 53 u) = u)) ∧ ∀ s : Int, 0 ≤ s → s < q → v 48 s ≠ -1 → w 53 (v 48 s) = s
theorem HL_no {m n : Nat} {v w : VV} {q : Int} (h : HL m n v q w) (hq : v 48 q = -1) : HL m n v (q + 1) w := by
  refine ⟨h.1, fun u u0 u1 => ?_, fun s s0 s1 hs => ?_⟩
  · rcases h.2.1 u u0 u1 with g | g
    · exact Or.inl g
    · exact Or.inr ⟨by omega, g.2⟩
  · have : s ≠ q := fun e => by rw [e] at hs; exact hs hq
    exact h.2.2 s s0 (by omega) hs
theorem HL_yes {m n : Nat} {v w : VV} {q : Int} {ok : Int → Int → Prop} (hV : Val m n ok (v 48)) (q0 : 0 ≤ q) (q1 : q < m) (h : HL m n v q w) (hq : v 48 q ≠ -1) : HL m n v (q + 1) (up w 53 (v 48 q) q) := by
  have hr : 0 ≤ v 48 q ∧ v 48 q < n := by
    rcases hV.1 q q0 q1 with g | g
    · exact absurd g hq
    · exact g.1
  refine ⟨fr_up h.1 (by decide) _ _, fun u u0 u1 => ?_, fun s s0 s1 hs => ?_⟩
  · by_cases y : u = v 48 q
    · rw [y, up_self]; exact Or.inr ⟨by omega, rfl⟩
    · rw [up_nj y]
      rcases h.2.1 u u0 u1 with g | g
      · exact Or.inl g
      · exact Or.inr ⟨by omega, g.2⟩
  · by_cases y : s = q
    · rw [y, up_self]
    · have : v 48 s ≠ v 48 q := fun e => y (hV.2 s q s0 (by omega) q0 q1 e hs)
      rw [up_nj this]
      exact h.2.2 s s0 (by omega) hs
theorem HL_WC {m n : Nat} {k : Int} {v y w : VV} {ph ps : Int → Int} (hC : WC m n k v ph ps) (hf : ∀ c, c = 52 ∨ c = 54 → y c = v c) (h33 : y 27 33 = v 27 33) (hMC : MC 1000000 m n (fun s u => Cl v s u ≠ 100000000) (Cl v) (y 48) ph ps) (h : HL m n y m w) : WC m n k w ph ps := by
  obtain ⟨h1, h2, h3⟩ := h
  have e48 : w 48 = y 48 := h1 48 (by decide)
  have eC : Cl w = Cl v := by funext s u; unfold Cl; rw [h1 52 (by decide), hf 52 (Or.inl rfl)]
  refine ⟨⟨?_, hC.1.2.1, hC.1.2.2.1, ?_⟩, ⟨fun s s0 s1 => ?_, fun u u0 u1 => ?_⟩, fun s s0 s1 => ?_, ?_, hC.2.2.2.2⟩
  · rw [h1 27 (by decide), h33]; exact hC.1.1
  · rw [eC]; exact hC.1.2.2.2
  · rw [e48, eC]
    rcases hMC.1.1 s s0 s1 with g | g
    · exact Or.inl g
    · exact Or.inr ⟨g.1, h3 s s0 s1 (by omega), g.2⟩
  · rw [e48]; exact h2 u u0 u1
  · rw [h1 54 (by decide), hf 54 (Or.inr rfl)]; exact hC.2.2.1 s s0 s1
  · rw [eC, e48]; exact hMC
theorem ED_base {m n : Nat} {k : Int} {v w : VV} (hf : fw v w) {y x q wt : Int} (h : ED m n w k y x q wt) : ED m n v k y x q wt := by
  unfold ED py Cl at h ⊢
  rw [hf.1 48 (by decide), hf.1 52 (by decide), hf.1 53 (by decide)] at h
  exact h
theorem WI_base {m n : Nat} {k u : Int} {v w y : VV} {ps : Int → Int} {tau : Int → Nat} {T : Nat} (hf : fw v w) (h : WI m n k u w ps tau T y) : WI m n k u v ps tau T y := by
  refine ⟨⟨fun c hc => (h.1.1 c hc).trans (hf.1 c hc), fun j hj => (h.1.2 j hj).trans (hf.2 j hj)⟩, h.2.1, h.2.2.1, fun x nx hx hlt => ?_, h.2.2.2.2⟩
  obtain ⟨wt, a1, a2⟩ := h.2.2.2.1 x nx hx hlt
  exact ⟨wt, ED_base hf a1, a2⟩
theorem WFA_base {m n : Nat} {k : Int} {v w y : VV} (hf : fw v w) (h : WFA w y m n k) : WFA v y m n k := by
  unfold WFA AX AQ sat1 sat2 sat1n sat1x py Cl at h ⊢
  rw [hf.1 48 (by decide), hf.1 52 (by decide), hf.1 53 (by decide)] at h
  exact h
set_option maxRecDepth 20000 in
set_option maxHeartbeats 1000000 in
theorem c_X6_lessen (l : Launch) (d nu : Nat) (v : VV) (m n : Nat) (k : Int) (ph ps : Int → Int) (hk : 0 ≤ k ∧ k < m) (hC : WC m n k v ph ps) : Ct l yX6_lessen cX6_lessen none 7 (d + 3) 0 0 [ar (some 27), ai k, ai (m : Int)] (SG nu) v (fun r S2 w => r = none ∧ S2 = SG nu ∧ LSP m n k v ph ps w) := by
  refine Ct_of_G [some (ar (some 27)), some (ai k), some (ai (m : Int)), none, none, none, none] (by decide) rfl rfl ?_
  have hn20 := hC.1.2.1
  have hm16 := hC.1.2.2.1
  have hhn := node_bd hn20 (pl_node hC.2.1 (q := k) hk.1 hk.2)
  have hpk := py_bd hC.1 hC.2.1 (t := k) hk.1 hk.2
  have h2 : ∀ (u : Int) (y : VV), fl v y → (∀ c, c = 52 ∨ c = 54 → y c = v c) → y 27 33 = v 27 33 → MC 1000000 m n (fun s u => Cl v s u ≠ 100000000) (Cl v) (y 48) ph ps → (∀ t : Int, 0 ≤ t → t < k → y 48 t = v 48 t) → y 48 k = u → (0 ≤ u ∧ u < n) → NOu m n k u v → ∀ (N : Nat) (q : Int) (w : VV) (z5 : Int), 0 ≤ q → q + N = m → HL m n y q w → G l (yX6_lessen, cX6_lessen, none, 7, (d + 3), 0, 0, none) (fun r S2 w => r = none ∧ S2 = SG nu ∧ LSP m n k v ph ps w) 0 0 (SG nu) 215 [some (ar (some 27)), some (ai k), some (ai (m : Int)), some (ai (pl (v 48) k)), some (ai u), some (ai z5), some (ai q)] [] w := by
    intro u y hfl hf9 h339 hMC9 h489 hk489 hu hNO N
    induction N using Nat.strongRecOn with
    | ind N ih =>
    intro q w z5 h0 h1 hL
    have e48 : w 48 q = y 48 q := by rw [hL.1 48 (by decide)]
    refine G_iload dX6_lessen_215 rfl ?_
    refine G_iload_n dX6_lessen_217 rfl ?_
    refine G_icmp_ge 252 dX6_lessen_218 (by decide) (fun h218 => ?_) (fun h218 => ?_)
    · exact G_vret dX6_lessen_252 rfl rfl rfl ⟨rfl, rfl, fl_tr hfl (fl_fr (fr_sub hL.1 (by decide))), HL_WC hC hf9 h339 hMC9 (by rw [show (m : Int) = q from (by omega)]; exact hL), fun t t0 t1 => by rw [hL.1 48 (by decide)]; exact h489 t t0 t1, fun b b1 b2 b3 => by
          rw [hL.1 48 (by decide), hk489]
          have hb9 := optk b1 hk.1 hk.2 b3
          refine ⟨by omega, ?_⟩
          apply Classical.byContradiction
          intro g
          exact hNO b b1 b2 (b k) hb9.1.1 (by omega) rfl⟩
    · have hwq := hMC9.1.1 q h0 (by omega)
      refine G_aload_n dX6_lessen_221 rfl ?_
      refine G_getR (jj := 31) dX6_lessen_222 flX6_71 rfl rfl rfl ?_
      refine G_iload dX6_lessen_225 rfl ?_
      refine G_ialdv (y 48 q) dX6_lessen_227 rfl (by omega) (by omega) e48 ?_
      refine G_iconst (n := (-1)) dX6_lessen_228 ⟨by decide, by decide⟩ ?_
      refine G_icmp_eq 246 dX6_lessen_229 (by decide) (fun h229 => ?_) (fun h229 => ?_)
      · refine G_iinc dX6_lessen_246 rfl (iRm (by omega) (by omega)) rfl rfl ?_
        refine G_goto 215 dX6_lessen_249 (by decide) ?_
        exact ih (N - 1) (by omega) (q + 1) w _ (by omega) (by omega) (HL_no hL h229)
      · refine G_aload_n dX6_lessen_232 rfl ?_
        refine G_getR (jj := 40) dX6_lessen_233 flX6_86 rfl rfl rfl ?_
        refine G_aload_n dX6_lessen_236 rfl ?_
        refine G_getR (jj := 31) dX6_lessen_237 flX6_71 rfl rfl rfl ?_
        refine G_iload dX6_lessen_240 rfl ?_
        refine G_ialdv (y 48 q) dX6_lessen_242 rfl (by omega) (by omega) e48 ?_
        refine G_iload dX6_lessen_243 rfl ?_
        refine G_iast dX6_lessen_245 rfl (by omega) (by omega) ?_
        refine G_iinc dX6_lessen_246 rfl (iRm (by omega) (by omega)) rfl rfl ?_
        refine G_goto 215 dX6_lessen_249 (by decide) ?_
        exact ih (N - 1) (by omega) (q + 1) _ _ (by omega) (by omega) (HL_yes hMC9.1 h0 (by omega) hL h229)
  have h1 : ∀ (u : Int) (y : VV), fl v y → (∀ c, c = 52 ∨ c = 54 → y c = v c) → y 27 33 = v 27 33 → MC 1000000 m n (fun s u => Cl v s u ≠ 100000000) (Cl v) (y 48) ph ps → (∀ t : Int, 0 ≤ t → t < k → y 48 t = v 48 t) → y 48 k = u → (0 ≤ u ∧ u < n) → NOu m n k u v → ∀ (N : Nat) (x : Int) (w : VV) (z5 : Int), 0 ≤ x → x + N = n → fr [53] y w → (∀ c : Int, 0 ≤ c → c < x → w 53 c = -1) → G l (yX6_lessen, cX6_lessen, none, 7, (d + 3), 0, 0, none) (fun r S2 w => r = none ∧ S2 = SG nu ∧ LSP m n k v ph ps w) 0 0 (SG nu) 189 [some (ar (some 27)), some (ai k), some (ai (m : Int)), some (ai (pl (v 48) k)), some (ai u), some (ai z5), some (ai x)] [] w := by
    intro u y hfl hf9 h339 hMC9 h489 hk489 hu hNO N
    induction N using Nat.strongRecOn with
    | ind N ih =>
    intro x w z5 h0 h1 hf hp9
    have e33 : w 27 33 = n := by rw [hf 27 (by decide), h339]; exact hC.1.1
    refine G_iload dX6_lessen_189 rfl ?_
    refine G_aload_n dX6_lessen_191 rfl ?_
    refine G_getIv ((n : Int)) (jj := 33) dX6_lessen_192 flX6_181 rfl rfl rfl e33 ?_
    refine G_icmp_ge 212 dX6_lessen_195 (by decide) (fun h195 => ?_) (fun h195 => ?_)
    · refine G_iconst (n := 0) dX6_lessen_212 ⟨by decide, by decide⟩ ?_
      refine G_istore dX6_lessen_213 rfl rfl ?_
      exact h2 u y hfl hf9 h339 hMC9 h489 hk489 hu hNO m 0 w _ (by omega) (by omega) ⟨hf, fun c c0 c1 => Or.inl (hp9 c c0 (by omega)), fun s s0 s1 => by omega⟩
    · refine G_aload_n dX6_lessen_198 rfl ?_
      refine G_getR (jj := 40) dX6_lessen_199 flX6_86 rfl rfl rfl ?_
      refine G_iload dX6_lessen_202 rfl ?_
      refine G_iconst (n := (-1)) dX6_lessen_204 ⟨by decide, by decide⟩ ?_
      refine G_iast dX6_lessen_205 rfl (by omega) (by omega) ?_
      refine G_iinc dX6_lessen_206 rfl (iRm (by omega) (by omega)) rfl rfl ?_
      refine G_goto 189 dX6_lessen_209 (by decide) ?_
      exact ih (N - 1) (by omega) (x + 1) _ _ (by omega) (by omega) (fr_up hf (by decide) _ _) (fun c c0 c1 => by by_cases g : c = x; (rw [g, up_self]); (rw [up_nj g]; exact hp9 c c0 (by omega)))
  have pth : ∀ (u : Int) (y : VV) (rank : Int → Nat), (0 ≤ u ∧ u < n) → fw v y → PF m n k u v y rank → Cl v k u ≠ 100000000 → y 55 u = 0 → Cl v k u - py v k + y 55 (pl (v 48) k) = 0 → NOu m n k u v → ∀ (N : Nat) (a : Int) (w : VV) (Z6 : Option AV), fr [48] y w → AP m n k u v y rank a (w 48) → rank a < N → G l (yX6_lessen, cX6_lessen, none, 7, (d + 3), 0, 0, none) (fun r S2 w => r = none ∧ S2 = SG nu ∧ LSP m n k v ph ps w) 0 0 (SG nu) 123 [some (ar (some 27)), some (ai k), some (ai (m : Int)), some (ai (pl (v 48) k)), some (ai u), some (ai a), Z6] [] w := by
    intro u y rank hu hfw hPF hcl hy0 htot hNO N
    induction N using Nat.strongRecOn with
    | ind N ih =>
    intro a w Z6 hf hA hN
    have hab := node_bd hn20 hA.1
    have e57 : w 57 a = y 57 a := by rw [hf 57 (by decide)]
    have e56 : w 56 a = y 56 a := by rw [hf 56 (by decide)]
    refine G_iload dX6_lessen_123 rfl ?_
    refine G_iload dX6_lessen_125 rfl ?_
    refine G_icmp_eq 178 dX6_lessen_127 (by decide) (fun h127 => ?_) (fun h127 => ?_)
    · obtain rfl : a = u := h127
      obtain ⟨hMC9, h489⟩ := AP_end hk.1 hk.2 hC hu hA hcl hy0 htot
      refine G_aload_n dX6_lessen_178 rfl ?_
      refine G_getR (jj := 31) dX6_lessen_179 flX6_71 rfl rfl rfl ?_
      refine G_iload_n dX6_lessen_182 rfl ?_
      refine G_iload dX6_lessen_183 rfl ?_
      refine G_iast dX6_lessen_185 rfl (by omega) (by omega) ?_
      refine G_iconst (n := 0) dX6_lessen_186 ⟨by decide, by decide⟩ ?_
      refine G_istore dX6_lessen_187 rfl rfl ?_
      have e489 : up w 48 k a 48 = fun s => if s = k then a else w 48 s := up_at _ _ _ _
      have hfy : fl v (up w 48 k a) := fl_tr (fl_fw hfw) (fl_fr (fr_up (fr_sub hf (by decide)) (by decide) _ _))
      refine h1 a (up w 48 k a) hfy (fun c hc => hfy.1 c (by revert hc; simp; omega)) (hfy.2 33 (by decide)) (by rw [e489]; exact hMC9) (fun t t0 t1 => by rw [e489]; exact h489 t t0 t1) (by rw [up_self]) hu hNO n 0 _ _ (by omega) (by omega) fr_rf (fun c c0 c1 => by omega)
    · obtain ⟨wt, p1, p2, p3, p4⟩ := hPF a hA.1 h127 hA.2.1
      refine G_aload_n dX6_lessen_130 rfl ?_
      refine G_getR (jj := 44) dX6_lessen_131 flX6_98 rfl rfl rfl ?_
      refine G_iload dX6_lessen_134 rfl ?_
      refine G_ialdv (y 57 a) dX6_lessen_136 rfl (by omega) (by omega) e57 ?_
      refine G_iconst (n := (-1)) dX6_lessen_137 ⟨by decide, by decide⟩ ?_
      refine G_icmp_eq 166 dX6_lessen_138 (by decide) (fun h138 => ?_) (fun h138 => ?_)
      · have hA2 := AP_stay hk.1 hk.2 hC hA p1 h138 p3 p2 p4
        refine G_aload_n dX6_lessen_166 rfl ?_
        refine G_getR (jj := 43) dX6_lessen_167 flX6_95 rfl rfl rfl ?_
        refine G_iload dX6_lessen_170 rfl ?_
        refine G_ialdv (y 56 a) dX6_lessen_172 rfl (by omega) (by omega) (by first | (exact e56) | (rw [up_c (show 56 ≠ 48 by decide)]; exact e56)) ?_
        refine G_istore dX6_lessen_173 rfl rfl ?_
        refine G_goto 123 dX6_lessen_175 (by decide) ?_
        exact ih (rank a) (by omega) _ _ _ hf hA2 p4
      · obtain ⟨hq9, hA2⟩ := AP_move hk.1 hk.2 hC hA p1 h138 p3 p2 p4
        refine G_aload_n dX6_lessen_141 rfl ?_
        refine G_getR (jj := 31) dX6_lessen_142 flX6_71 rfl rfl rfl ?_
        refine G_aload_n dX6_lessen_145 rfl ?_
        refine G_getR (jj := 44) dX6_lessen_146 flX6_98 rfl rfl rfl ?_
        refine G_iload dX6_lessen_149 rfl ?_
        refine G_ialdv (y 57 a) dX6_lessen_151 rfl (by omega) (by omega) e57 ?_
        refine G_iload dX6_lessen_152 rfl ?_
        refine G_bipush (n := 20) dX6_lessen_154 (by decide) ⟨by decide, by decide⟩ ?_
        refine G_icmp_ne 163 dX6_lessen_156 (by decide) (fun h156 => ?_) (fun h156 => ?_)
        · refine G_iload dX6_lessen_163 rfl ?_
          refine G_iast dX6_lessen_165 rfl (by omega) (by omega) ?_
          refine G_aload_n dX6_lessen_166 rfl ?_
          refine G_getR (jj := 43) dX6_lessen_167 flX6_95 rfl rfl rfl ?_
          refine G_iload dX6_lessen_170 rfl ?_
          refine G_ialdv (y 56 a) dX6_lessen_172 rfl (by omega) (by omega) (by first | (exact e56) | (rw [up_c (show 56 ≠ 48 by decide)]; exact e56)) ?_
          refine G_istore dX6_lessen_173 rfl rfl ?_
          refine G_goto 123 dX6_lessen_175 (by decide) ?_
          exact ih (rank a) (by omega) _ _ _ (fr_up hf (by decide) _ _) (by rw [if_neg h156] at hA2; rw [show up w 48 (y 57 a) a 48 = fun s => if s = y 57 a then a else w 48 s from up_at _ _ _ _]; exact hA2) p4
        · refine G_iconst (n := (-1)) dX6_lessen_159 ⟨by decide, by decide⟩ ?_
          refine G_goto 165 dX6_lessen_160 (by decide) ?_
          refine G_iast dX6_lessen_165 rfl (by omega) (by omega) ?_
          refine G_aload_n dX6_lessen_166 rfl ?_
          refine G_getR (jj := 43) dX6_lessen_167 flX6_95 rfl rfl rfl ?_
          refine G_iload dX6_lessen_170 rfl ?_
          refine G_ialdv (y 56 a) dX6_lessen_172 rfl (by omega) (by omega) (by first | (exact e56) | (rw [up_c (show 56 ≠ 48 by decide)]; exact e56)) ?_
          refine G_istore dX6_lessen_173 rfl rfl ?_
          refine G_goto 123 dX6_lessen_175 (by decide) ?_
          exact ih (rank a) (by omega) _ _ _ (fr_up hf (by decide) _ _) (by rw [if_pos h156] at hA2; rw [show up w 48 (y 57 a) (-1) 48 = fun s => if s = y 57 a then -1 else w 48 s from up_at _ _ _ _]; exact hA2) p4
  have ul : ∀ (N : Nat) (u : Int) (w : VV) (Z5 Z6 : Option AV), 0 ≤ u → u + N = n → fw v w → NOu m n k u v → G l (yX6_lessen, cX6_lessen, none, 7, (d + 3), 0, 0, none) (fun r S2 w => r = none ∧ S2 = SG nu ∧ LSP m n k v ph ps w) 0 0 (SG nu) 9 [some (ar (some 27)), some (ai k), some (ai (m : Int)), some (ai (pl (v 48) k)), some (ai u), Z5, Z6] [] w := by
    intro N
    induction N using Nat.strongRecOn with
    | ind N ih =>
    intro u w Z5 Z6 h0 h1 hfw hNO
    have e33 : w 27 33 = n := by rw [hfw.2 33 (by decide)]; exact hC.1.1
    refine G_iload dX6_lessen_9 rfl ?_
    refine G_aload_n dX6_lessen_11 rfl ?_
    refine G_getIv ((n : Int)) (jj := 33) dX6_lessen_12 flX6_181 rfl rfl rfl e33 ?_
    refine G_icmp_ge 259 dX6_lessen_15 (by decide) (fun h15 => ?_) (fun h15 => ?_)
    · exact G_vret dX6_lessen_259 rfl rfl rfl ⟨rfl, rfl, fl_fw hfw, WC_fw hC hfw, fun t t0 t1 => by rw [hfw.1 48 (by decide)], fun b b1 b2 b3 => by
          have hb9 := optk b1 hk.1 hk.2 b3
          have hge : u ≤ b k := by
            apply Classical.byContradiction
            intro g
            exact hNO b b1 b2 (b k) hb9.1.1 (by omega) rfl
          rw [hfw.1 48 (by decide)]
          first
            | (exfalso; omega)
            | (unfold pl at h21
               by_cases g : v 48 k = -1
               · rw [if_pos g] at h21; exfalso; omega
               · rw [if_neg g] at h21; exact ⟨g, by omega⟩)⟩
    · have e53 : w 53 u = v 53 u := by rw [hfw.1 53 (by decide)]
      have hcl := hC.1.2.2.2 k u hk.1 hk.2 h0 (by omega)
      refine G_iload dX6_lessen_18 rfl ?_
      refine G_iload_n dX6_lessen_20 rfl ?_
      refine G_icmp_eq 259 dX6_lessen_21 (by decide) (fun h21 => ?_) (fun h21 => ?_)
      · exact G_vret dX6_lessen_259 rfl rfl rfl ⟨rfl, rfl, fl_fw hfw, WC_fw hC hfw, fun t t0 t1 => by rw [hfw.1 48 (by decide)], fun b b1 b2 b3 => by
            have hb9 := optk b1 hk.1 hk.2 b3
            have hge : u ≤ b k := by
              apply Classical.byContradiction
              intro g
              exact hNO b b1 b2 (b k) hb9.1.1 (by omega) rfl
            rw [hfw.1 48 (by decide)]
            first
              | (exfalso; omega)
              | (unfold pl at h21
                 by_cases g : v 48 k = -1
                 · rw [if_pos g] at h21; exfalso; omega
                 · rw [if_neg g] at h21; exact ⟨g, by omega⟩)⟩
      · refine G_aload_n dX6_lessen_24 rfl ?_
        refine G_getR (jj := 39) dX6_lessen_25 flX6_83 rfl rfl rfl ?_
        refine G_bipush (n := 20) dX6_lessen_28 (by decide) ⟨by decide, by decide⟩ ?_
        refine G_iload_n dX6_lessen_30 rfl ?_
        refine G_imul dX6_lessen_31 (iRm (by omega) (by omega)) ?_
        refine G_iload dX6_lessen_32 rfl ?_
        refine G_iadd dX6_lessen_34 (iRm (by omega) (by omega)) ?_
        refine G_ialdv (Cl v k u) dX6_lessen_35 rfl (by omega) (by omega) (by unfold Cl; rw [hfw.1 52 (by decide)]) ?_
        refine G_ldc (n := 100000000) dX6_lessen_36 (show Cond.constant RX6 218 (Int32.ofInt 100000000) ∈ lw_good by decide +kernel) ⟨by decide, by decide⟩ ?_
        refine G_icmp_eq 253 dX6_lessen_38 (by decide) (fun h38 => ?_) (fun h38 => ?_)
        · refine G_iinc dX6_lessen_253 rfl (iRm (by omega) (by omega)) rfl rfl ?_
          refine G_goto 9 dX6_lessen_256 (by decide) ?_
          exact ih (N - 1) (by omega) (u + 1) w _ _ (by omega) (by omega) hfw (NOu_add hNO (fun b b1 b2 e => (optk b1 hk.1 hk.2 (by omega)).2 (by rw [e]; exact h38)))
        · refine G_aload_n dX6_lessen_41 rfl ?_
          refine G_getR (jj := 40) dX6_lessen_42 flX6_86 rfl rfl rfl ?_
          refine G_iload dX6_lessen_45 rfl ?_
          refine G_ialdv (v 53 u) dX6_lessen_47 rfl (by omega) (by omega) e53 ?_
          refine G_iconst (n := (-1)) dX6_lessen_48 ⟨by decide, by decide⟩ ?_
          refine G_icmp_eq 70 dX6_lessen_49 (by decide) (fun h49 => ?_) (fun h49 => ?_)
          · have hnf := free_iff hC.2.1 (k := k) (by omega) h0 (by omega) h49
            refine G_aload_n dX6_lessen_70 rfl ?_
            refine G_iload dX6_lessen_71 rfl ?_
            refine G_iload_n dX6_lessen_73 rfl ?_
            refine G_iload_n dX6_lessen_74 rfl ?_
            refine G_cVq (ci := 6) dX6_lessen_75 rfl (by decide) rfl (c_X6_ways l (d + 0) nu w m n k u ph ps hk (WC_fw hC hfw) ⟨h0, by omega⟩) mcX6_246 rfl rfl (by show _ ≤ d + 3; omega) rfl rfl (Nat.le_refl _) (Nat.le_refl _) (fun r S2 y hq9 => ?_)
            obtain ⟨rfl, rfl, tau, T, hWI', hWF'⟩ := hq9
            have hWI : WI m n k u v ps tau T y := WI_base hfw hWI'
            have hWF : WFA v y m n k := WFA_base hfw hWF'
            have hln := hWI.2.1 (pl (v 48) k) hhn.1 hhn.2
            have hlb := lb_bd hC (u := u) ⟨h0, by omega⟩ (pl (v 48) k) hhn.1
            have hcl2 : 0 ≤ Cl v k u ∧ Cl v k u ≤ 5148 := by rcases hcl with g | g; exact absurd g h38; exact g
            refine G_aload_n dX6_lessen_78 rfl ?_
            refine G_getR (jj := 42) dX6_lessen_79 flX6_92 rfl rfl rfl ?_
            refine G_iload_n dX6_lessen_82 rfl ?_
            refine G_iald dX6_lessen_83 rfl (by omega) (by omega) ?_
            refine G_ldc (n := 100000000) dX6_lessen_84 (show Cond.constant RX6 218 (Int32.ofInt 100000000) ∈ lw_good by decide +kernel) ⟨by decide, by decide⟩ ?_
            refine G_icmp_eq 253 dX6_lessen_86 (by decide) (fun h86 => ?_) (fun h86 => ?_)
            · refine G_iinc dX6_lessen_253 rfl (iRm (by omega) (by omega)) rfl rfl ?_
              refine G_goto 9 dX6_lessen_256 (by decide) ?_
              exact ih (N - 1) (by omega) (u + 1) y _ _ (by omega) (by omega) hWI.1 (NOu_add hNO (fun b b1 b2 => M_less hn20 hC.2.2.2.1 hC.2.2.2.2 hk.1 hk.2 h0 (by omega) (fun e => h21 (by unfold pl; rw [← e, if_neg (by omega)])) hnf (WFA_WF hk.1 hk.2 hC ⟨h0, by omega⟩ hWI hWF) (by intro g; have := g.1; omega) b b1 b2))
            · refine G_aload_n dX6_lessen_89 rfl ?_
              refine G_getR (jj := 39) dX6_lessen_90 flX6_83 rfl rfl rfl ?_
              refine G_bipush (n := 20) dX6_lessen_93 (by decide) ⟨by decide, by decide⟩ ?_
              refine G_iload_n dX6_lessen_95 rfl ?_
              refine G_imul dX6_lessen_96 (iRm (by omega) (by omega)) ?_
              refine G_iload dX6_lessen_97 rfl ?_
              refine G_iadd dX6_lessen_99 (iRm (by omega) (by omega)) ?_
              refine G_ialdv (Cl v k u) dX6_lessen_100 rfl (by omega) (by omega) (by unfold Cl; rw [hWI.1.1 52 (by decide)]) ?_
              refine G_aload_n dX6_lessen_101 rfl ?_
              refine G_iload_n dX6_lessen_102 rfl ?_
              refine G_cVi (ci := 6) dX6_lessen_103 rfl (by decide) rfl (c_X6_pays l (d + 2) nu y k ⟨hk.1, by omega⟩ (by rw [hWI.1.1 48 (by decide)]; rcases hC.2.1.1 k hk.1 hk.2 with g | g <;> omega)) mcX6_219 rfl rfl (by show _ ≤ d + 3; omega) rfl rfl (Nat.le_refl _) (Nat.le_refl _) ?_
              rw [show (if y 48 k = -1 then (1000000 : Int) else y 52 (20 * k + y 48 k)) = py v k from by unfold py; rw [hWI.1.1 48 (by decide), hWI.1.1 52 (by decide)]]
              refine G_isub dX6_lessen_106 (iRm (by omega) (by omega)) ?_
              refine G_aload_n dX6_lessen_107 rfl ?_
              refine G_getR (jj := 42) dX6_lessen_108 flX6_92 rfl rfl rfl ?_
              refine G_iload_n dX6_lessen_111 rfl ?_
              refine G_iald dX6_lessen_112 rfl (by omega) (by omega) ?_
              refine G_iadd dX6_lessen_113 (iRm (by omega) (by omega)) ?_
              refine G_if_eq 120 dX6_lessen_114 (by decide) (fun h114 => ?_) (fun h114 => ?_)
              · refine G_iload_n dX6_lessen_120 rfl ?_
                refine G_istore dX6_lessen_121 rfl rfl ?_
                obtain ⟨rank, hPF⟩ := WI_PF hk.1 hC hWI hWF
                exact pth u y rank ⟨h0, by omega⟩ hWI.1 hPF h38 hWI.2.2.1 h114 hNO (rank (pl (v 48) k) + 1) (pl (v 48) k) y _ fr_rf (by rw [show y 48 = v 48 from hWI.1.1 48 (by decide)]; exact AP_0 hk.1 hk.2 hC (by omega)) (by omega)
              · refine G_goto 253 dX6_lessen_117 (by decide) ?_
                refine G_iinc dX6_lessen_253 rfl (iRm (by omega) (by omega)) rfl rfl ?_
                refine G_goto 9 dX6_lessen_256 (by decide) ?_
                exact ih (N - 1) (by omega) (u + 1) y _ _ (by omega) (by omega) hWI.1 (NOu_add hNO (fun b b1 b2 => M_less hn20 hC.2.2.2.1 hC.2.2.2.2 hk.1 hk.2 h0 (by omega) (fun e => h21 (by unfold pl; rw [← e, if_neg (by omega)])) hnf (WFA_WF hk.1 hk.2 hC ⟨h0, by omega⟩ hWI hWF) (by intro g; exact h114 g.2) b b1 b2))
          · have hbx : (0 ≤ v 53 u ∧ v 53 u < m) := by rcases hC.2.1.2 u h0 (by omega) with g | g; exact absurd g h49; exact g.1
            have hif := held_iff hC.2.1 (k := k) (by omega) h0 (by omega) h49
            refine G_aload_n dX6_lessen_52 rfl ?_
            refine G_getR (jj := 41) dX6_lessen_53 flX6_89 rfl rfl rfl ?_
            refine G_aload_n dX6_lessen_56 rfl ?_
            refine G_getR (jj := 40) dX6_lessen_57 flX6_86 rfl rfl rfl ?_
            refine G_iload dX6_lessen_60 rfl ?_
            refine G_ialdv (v 53 u) dX6_lessen_62 rfl (by omega) (by omega) e53 ?_
            refine G_zaldv ((if v 53 u < k then 1 else 0)) dX6_lessen_63 rfl (by omega) (by omega) (by rw [hfw.1 54 (by decide)]; exact hC.2.2.1 (v 53 u) hbx.1 hbx.2) ?_
            refine G_if_eq 70 dX6_lessen_64 (by decide) (fun h64 => ?_) (fun h64 => ?_)
            · have hnf : ¬ heldF (v 48) k u := fun g => by rw [if_pos (hif.mp g)] at h64; omega
              refine G_aload_n dX6_lessen_70 rfl ?_
              refine G_iload dX6_lessen_71 rfl ?_
              refine G_iload_n dX6_lessen_73 rfl ?_
              refine G_iload_n dX6_lessen_74 rfl ?_
              refine G_cVq (ci := 6) dX6_lessen_75 rfl (by decide) rfl (c_X6_ways l (d + 0) nu w m n k u ph ps hk (WC_fw hC hfw) ⟨h0, by omega⟩) mcX6_246 rfl rfl (by show _ ≤ d + 3; omega) rfl rfl (Nat.le_refl _) (Nat.le_refl _) (fun r S2 y hq9 => ?_)
              obtain ⟨rfl, rfl, tau, T, hWI', hWF'⟩ := hq9
              have hWI : WI m n k u v ps tau T y := WI_base hfw hWI'
              have hWF : WFA v y m n k := WFA_base hfw hWF'
              have hln := hWI.2.1 (pl (v 48) k) hhn.1 hhn.2
              have hlb := lb_bd hC (u := u) ⟨h0, by omega⟩ (pl (v 48) k) hhn.1
              have hcl2 : 0 ≤ Cl v k u ∧ Cl v k u ≤ 5148 := by rcases hcl with g | g; exact absurd g h38; exact g
              refine G_aload_n dX6_lessen_78 rfl ?_
              refine G_getR (jj := 42) dX6_lessen_79 flX6_92 rfl rfl rfl ?_
              refine G_iload_n dX6_lessen_82 rfl ?_
              refine G_iald dX6_lessen_83 rfl (by omega) (by omega) ?_
              refine G_ldc (n := 100000000) dX6_lessen_84 (show Cond.constant RX6 218 (Int32.ofInt 100000000) ∈ lw_good by decide +kernel) ⟨by decide, by decide⟩ ?_
              refine G_icmp_eq 253 dX6_lessen_86 (by decide) (fun h86 => ?_) (fun h86 => ?_)
              · refine G_iinc dX6_lessen_253 rfl (iRm (by omega) (by omega)) rfl rfl ?_
                refine G_goto 9 dX6_lessen_256 (by decide) ?_
                exact ih (N - 1) (by omega) (u + 1) y _ _ (by omega) (by omega) hWI.1 (NOu_add hNO (fun b b1 b2 => M_less hn20 hC.2.2.2.1 hC.2.2.2.2 hk.1 hk.2 h0 (by omega) (fun e => h21 (by unfold pl; rw [← e, if_neg (by omega)])) hnf (WFA_WF hk.1 hk.2 hC ⟨h0, by omega⟩ hWI hWF) (by intro g; have := g.1; omega) b b1 b2))
              · refine G_aload_n dX6_lessen_89 rfl ?_
                refine G_getR (jj := 39) dX6_lessen_90 flX6_83 rfl rfl rfl ?_
                refine G_bipush (n := 20) dX6_lessen_93 (by decide) ⟨by decide, by decide⟩ ?_
                refine G_iload_n dX6_lessen_95 rfl ?_
                refine G_imul dX6_lessen_96 (iRm (by omega) (by omega)) ?_
                refine G_iload dX6_lessen_97 rfl ?_
                refine G_iadd dX6_lessen_99 (iRm (by omega) (by omega)) ?_
                refine G_ialdv (Cl v k u) dX6_lessen_100 rfl (by omega) (by omega) (by unfold Cl; rw [hWI.1.1 52 (by decide)]) ?_
                refine G_aload_n dX6_lessen_101 rfl ?_
                refine G_iload_n dX6_lessen_102 rfl ?_
                refine G_cVi (ci := 6) dX6_lessen_103 rfl (by decide) rfl (c_X6_pays l (d + 2) nu y k ⟨hk.1, by omega⟩ (by rw [hWI.1.1 48 (by decide)]; rcases hC.2.1.1 k hk.1 hk.2 with g | g <;> omega)) mcX6_219 rfl rfl (by show _ ≤ d + 3; omega) rfl rfl (Nat.le_refl _) (Nat.le_refl _) ?_
                rw [show (if y 48 k = -1 then (1000000 : Int) else y 52 (20 * k + y 48 k)) = py v k from by unfold py; rw [hWI.1.1 48 (by decide), hWI.1.1 52 (by decide)]]
                refine G_isub dX6_lessen_106 (iRm (by omega) (by omega)) ?_
                refine G_aload_n dX6_lessen_107 rfl ?_
                refine G_getR (jj := 42) dX6_lessen_108 flX6_92 rfl rfl rfl ?_
                refine G_iload_n dX6_lessen_111 rfl ?_
                refine G_iald dX6_lessen_112 rfl (by omega) (by omega) ?_
                refine G_iadd dX6_lessen_113 (iRm (by omega) (by omega)) ?_
                refine G_if_eq 120 dX6_lessen_114 (by decide) (fun h114 => ?_) (fun h114 => ?_)
                · refine G_iload_n dX6_lessen_120 rfl ?_
                  refine G_istore dX6_lessen_121 rfl rfl ?_
                  obtain ⟨rank, hPF⟩ := WI_PF hk.1 hC hWI hWF
                  exact pth u y rank ⟨h0, by omega⟩ hWI.1 hPF h38 hWI.2.2.1 h114 hNO (rank (pl (v 48) k) + 1) (pl (v 48) k) y _ fr_rf (by rw [show y 48 = v 48 from hWI.1.1 48 (by decide)]; exact AP_0 hk.1 hk.2 hC (by omega)) (by omega)
                · refine G_goto 253 dX6_lessen_117 (by decide) ?_
                  refine G_iinc dX6_lessen_253 rfl (iRm (by omega) (by omega)) rfl rfl ?_
                  refine G_goto 9 dX6_lessen_256 (by decide) ?_
                  exact ih (N - 1) (by omega) (u + 1) y _ _ (by omega) (by omega) hWI.1 (NOu_add hNO (fun b b1 b2 => M_less hn20 hC.2.2.2.1 hC.2.2.2.2 hk.1 hk.2 h0 (by omega) (fun e => h21 (by unfold pl; rw [← e, if_neg (by omega)])) hnf (WFA_WF hk.1 hk.2 hC ⟨h0, by omega⟩ hWI hWF) (by intro g; exact h114 g.2) b b1 b2))
            · have hyf : heldF (v 48) k u := hif.mpr (by
                apply Classical.byContradiction
                intro g
                rw [if_neg g] at h64
                exact h64 rfl)
              refine G_goto 253 dX6_lessen_67 (by decide) ?_
              refine G_iinc dX6_lessen_253 rfl (iRm (by omega) (by omega)) rfl rfl ?_
              refine G_goto 9 dX6_lessen_256 (by decide) ?_
              exact ih (N - 1) (by omega) (u + 1) w _ _ (by omega) (by omega) hfw (NOu_add hNO (fun b b1 b2 => optF b1 hk.1 hk.2 b2 h0 hyf))
  refine G_aload_n dX6_lessen_0 rfl ?_
  refine G_iload_n dX6_lessen_1 rfl ?_
  refine G_cVi (ci := 6) dX6_lessen_2 rfl (by decide) rfl (c_X6_placeOf l (d + 2) nu v k ⟨by omega, by omega⟩) mcX6_236 rfl rfl (by show _ ≤ d + 3; omega) rfl rfl (Nat.le_refl _) (Nat.le_refl _) ?_
  rw [show (if v 48 k = -1 then (20 : Int) else v 48 k) = pl (v 48) k from rfl]
  refine G_istore_n dX6_lessen_5 rfl rfl ?_
  refine G_iconst (n := 0) dX6_lessen_6 ⟨by decide, by decide⟩ ?_
  refine G_istore dX6_lessen_7 rfl rfl ?_
  exact ul n 0 v _ _ (by omega) (by omega) fw_rf (fun b b1 b2 x x0 x1 => by omega)
