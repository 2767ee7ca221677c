def fw (v w : VV) : Prop := (∀ k, k ∉ [27, 55, 56, 57] → w k = v k) ∧ ∀ j : Int, j ≠ 45 → w 27 j = v 27 j
theorem fw_rf {v : VV} : fw v v := ⟨fun _ _ => rfl, fun _ _ => rfl⟩
theorem fw_up {v w : VV} (h : fw v w) {k : Nat} (hk : k ∈ [55, 56, 57]) (j x : Int) : fw v (up w k j x) := by
  refine ⟨fun a ha => ?_, fun i hi => ?_⟩
  · have e : a ≠ k := fun e => ha (by rw [e]; revert hk; simp; omega)
    rw [up_ne e]; exact h.1 a ha
  · have e : 27 ≠ k := fun e => by rw [← e] at hk; revert hk; decide
    rw [up_ne e]; exact h.2 i hi
theorem fw_45 {v w : VV} (h : fw v w) (x : Int) : fw v (up w 27 45 x) := by
  refine ⟨fun a ha => ?_, fun i hi => ?_⟩
  · have e : a ≠ 27 := fun e => ha (by rw [e]; decide)
    rw [up_ne e]; exact h.1 a ha
  · rw [up_nj hi]; exact h.2 i hi
def FX2 (m : Nat) (k : Int) (v : VV) : Prop := ∀ s : Int, 0 ≤ s → s < m → v 54 s = (if s < k then 1 else 0)
def WC (m n : Nat) (k : Int) (v : VV) (ph ps : Int → Int) : Prop := ML m n v ∧ WH m n v ∧ FX2 m k v ∧ MC 1000000 m n (fun s u => Cl v s u ≠ 100000000) (Cl v) (v 48) ph ps ∧ ∀ u : Int, 0 ≤ u → u < n → -1000000 ≤ ps u
def ED (m n : Nat) (v : VV) (k y x q wt : Int) : Prop :=
  (q ≠ -1 ∧ (k < q ∧ q < m) ∧ y = pl (v 48) q ∧ ((x = 20 ∧ v 48 q ≠ -1 ∧ wt = 1000000 - py v q) ∨ ((0 ≤ x ∧ x < n) ∧ x ≠ y ∧ Cl v q x ≠ 100000000 ∧ ¬ heldF (v 48) k x ∧ wt = Cl v q x - py v q))) ∨
  (q = -1 ∧ wt = 0 ∧ (((0 ≤ y ∧ y < n) ∧ v 53 y = -1 ∧ x = 21) ∨ (y = 21 ∧ (0 ≤ x ∧ x < n) ∧ v 53 x ≠ -1 ∧ ¬ heldF (v 48) k x) ∨ (y = 20 ∧ x = 21) ∨ (y = 21 ∧ x = 20)))
def node (n : Nat) (x : Int) : Prop := (0 ≤ x ∧ x < n) ∨ x = 20 ∨ x = 21
theorem pl_node {m n : Nat} {v : VV} (hW : WH m n v) {q : Int} (q0 : 0 ≤ q) (q1 : q < m) : node n (pl (v 48) q) := by
  unfold pl node
  rcases hW.1 q q0 q1 with h | h
  · rw [if_pos h]; omega
  · rw [if_neg (by omega)]; omega
theorem ED_node {m n : Nat} {v : VV} {k y x q wt : Int} (k0 : 0 ≤ k) (hW : WH m n v) (h : ED m n v k y x q wt) : node n y ∧ node n x := by
  rcases h with ⟨-, h2, h3, h4⟩ | ⟨-, -, h3⟩
  · refine ⟨by rw [h3]; exact pl_node hW (by omega) h2.2, ?_⟩
    unfold node
    omega
  · unfold node
    omega
theorem pN_pl {m n : Nat} {k : Int} {v : VV} {ph ps : Int → Int} (hn : n ≤ 20) (h : MC 1000000 m n (fun s u => Cl v s u ≠ 100000000) (Cl v) (v 48) ph ps) {q : Int} (q0 : 0 ≤ q) (q1 : q < m) : py v q = ph q + pN n ps (pl (v 48) q) := by
  obtain ⟨h0, h1, h2, h3, h4, h5, h6⟩ := h
  unfold py pl pN
  rcases h0.1 q q0 q1 with g | g
  · rw [if_pos g, if_pos g, if_neg (by omega), h6 q q0 q1 g]; rfl
  · have g2 : v 48 q ≠ -1 := by omega
    rw [if_neg g2, if_neg g2, if_pos g.1.2]
    exact h2 q q0 q1 g2
/-- no edge is below the parts' difference -/
theorem ED_red {m n : Nat} {k : Int} {v : VV} {ph ps : Int → Int} (k0 : 0 ≤ k) (hC : WC m n k v ph ps) {y x q wt : Int} (h : ED m n v k y x q wt) : pN n ps x - pN n ps y ≤ wt := by
  obtain ⟨hM, hW, -, hMC, -⟩ := hC
  have hn := hM.2.1
  obtain ⟨h0, h1, h2, h3, h4, h5, h6⟩ := id hMC
  rcases h with ⟨-, g2, g3, g4⟩ | ⟨-, g2, g3⟩
  · have e := pN_pl (k := k) hn hMC (q := q) (by omega) g2.2
    have := h5 q (by omega) g2.2
    rcases g4 with g4 | g4
    · rw [g4.1, g3, show pN n ps 20 = 0 from if_neg (by omega)]
      omega
    · have := h1 q x (by omega) g2.2 g4.1.1 g4.1.2 g4.2.2.1
      rw [g3, show pN n ps x = ps x from if_pos g4.1.2]
      omega
  · rcases g3 with g | g | g | g
    · rw [g.2.2, show pN n ps 21 = 0 from if_neg (by omega), show pN n ps y = ps y from if_pos g.1.2]
      have : offI m (v 48) y := fun s s0 s1 e => by
        rcases hW.1 s s0 s1 with z | z
        · omega
        · rw [e, g.2.1] at z; omega
      have := h4 y g.1.1 g.1.2 this
      omega
    · rw [g.1, show pN n ps 21 = 0 from if_neg (by omega), show pN n ps x = ps x from if_pos g.2.1.2]
      have := h3 x g.2.1.1 g.2.1.2
      omega
    · rw [g.1, g.2, show pN n ps 21 = 0 from if_neg (by omega), show pN n ps 20 = 0 from if_neg (by omega)]; omega
    · rw [g.1, g.2, show pN n ps 21 = 0 from if_neg (by omega), show pN n ps 20 = 0 from if_neg (by omega)]; omega
def lbN (n : Nat) (ps : Int → Int) (u x : Int) : Int := if x < n ∨ 20 ≤ x then pN n ps x - ps u else 100000000
def MSw (n : Nat) (ps : Int → Int) (u : Int) (w : VV) : Int := sg (fun x => w 55 x - lbN n ps u x) 22
def WI (m n : Nat) (k u : Int) (v : VV) (ps : Int → Int) (tau : Int → Nat) (T : Nat) (w : VV) : Prop := fw v w ∧ (∀ x : Int, 0 ≤ x → x < 22 → lbN n ps u x ≤ w 55 x ∧ w 55 x ≤ 100000000) ∧ w 55 u = 0 ∧
  (∀ x : Int, node n x → x ≠ u → w 55 x < 100000000 → ∃ wt, ED m n v k (w 56 x) x (w 57 x) wt ∧ w 55 (w 56 x) + wt ≤ w 55 x ∧ w 55 (w 56 x) < 100000000 ∧ (w 55 (w 56 x) - pN n ps (w 56 x) = w 55 x - pN n ps x → tau (w 56 x) < tau x)) ∧ ∀ x, tau x < T
theorem node_bd {n : Nat} (hn : n ≤ 20) {x : Int} (h : node n x) : 0 ≤ x ∧ x < 22 := by
  unfold node at h
  omega
theorem lb_node {n : Nat} {ps : Int → Int} {u x : Int} (h : node n x) : lbN n ps u x = pN n ps x - ps u := by
  unfold node at h
  unfold lbN
  rw [if_pos (by omega)]
theorem MS_nn {m n : Nat} {k u : Int} {v : VV} {ps : Int → Int} {tau : Int → Nat} {T : Nat} {w : VV} (h : WI m n k u v ps tau T w) : 0 ≤ MSw n ps u w := by
  refine sg_nn 22 (fun x x0 x1 => ?_)
  show 0 ≤ w 55 x - lbN n ps u x
  have := (h.2.1 x x0 (by omega)).1
  omega
def ofr (w : VV) (x c y q : Int) : VV := if w 55 x ≤ c then w else up (up (up (up w 55 x c) 56 x y) 57 x q) 27 45 1
/-- an offer along an edge -/
theorem WI_off {m n : Nat} {k u : Int} {v : VV} {ph ps : Int → Int} {tau : Int → Nat} {T : Nat} {w : VV} (k0 : 0 ≤ k) (hC : WC m n k v ph ps) (hu : 0 ≤ u ∧ u < n) (h : WI m n k u v ps tau T w) {x y q wt c : Int} (hE : ED m n v k y x q wt) (hy : w 55 y < 100000000) (hc : c = w 55 y + wt) :
    (w 55 x ≤ c ∧ ofr w x c y q = w) ∨ (∃ tau2 T2, WI m n k u v ps tau2 T2 (ofr w x c y q) ∧ MSw n ps u (ofr w x c y q) < MSw n ps u w ∧ ofr w x c y q 27 45 = 1 ∧ ∀ z : Int, z ≠ x → ofr w x c y q 55 z = w 55 z) := by
  unfold ofr
  by_cases hle : w 55 x ≤ c
  · exact Or.inl ⟨hle, if_pos hle⟩
  · rw [if_neg hle]
    have hn := hC.1.2.1
    obtain ⟨ny, nx⟩ := ED_node k0 hC.2.1 hE
    have bx := node_bd hn nx
    have red := ED_red k0 hC hE
    obtain ⟨h1, h2, h3, h4, h5⟩ := h
    have nu0 : node n u := Or.inl hu
    have lx := (h2 x bx.1 bx.2)
    have ly := (h2 y (node_bd hn ny).1 (node_bd hn ny).2).1
    rw [lb_node ny] at ly
    have eu : pN n ps u = ps u := if_pos hu.2
    have hxu : x ≠ u := fun e => by
      rw [e] at red hle
      rw [eu] at red
      omega
    have hxy : y ≠ x := fun e => by rw [e] at red hc; omega
    have f55 : ∀ z, up (up (up (up w 55 x c) 56 x y) 57 x q) 27 45 1 55 z = if z = x then c else w 55 z := fun z => by
      rw [up_c (show 55 ≠ 27 by decide), up_c (show 55 ≠ 57 by decide), up_c (show 55 ≠ 56 by decide)]
      by_cases g : z = x
      · rw [g, up_self, if_pos rfl]
      · rw [up_nj g, if_neg g]
    have f56 : ∀ z, up (up (up (up w 55 x c) 56 x y) 57 x q) 27 45 1 56 z = if z = x then y else w 56 z := fun z => by
      rw [up_c (show 56 ≠ 27 by decide), up_c (show 56 ≠ 57 by decide)]
      by_cases g : z = x
      · rw [g, up_self, if_pos rfl]
      · rw [up_nj g, if_neg g, up_c (show 56 ≠ 55 by decide)]
    have f57 : ∀ z, up (up (up (up w 55 x c) 56 x y) 57 x q) 27 45 1 57 z = if z = x then q else w 57 z := fun z => by
      rw [up_c (show 57 ≠ 27 by decide)]
      by_cases g : z = x
      · rw [g, up_self, if_pos rfl]
      · rw [up_nj g, if_neg g, up_c (show 57 ≠ 56 by decide), up_c (show 57 ≠ 55 by decide)]
    refine Or.inr ⟨fun z => if z = x then T else tau z, T + 1, ⟨fw_45 (fw_up (fw_up (fw_up h1 (by decide) _ _) (by decide) _ _) (by decide) _ _) 1, fun z z0 z1 => ?_, ?_, fun z nz hz hlt => ?_, fun z => ?_⟩, ?_, ?_, fun z hz => ?_⟩
    · rw [f55]
      by_cases g : z = x
      · rw [if_pos g, g, lb_node nx]; omega
      · rw [if_neg g]; exact h2 z z0 z1
    · rw [f55, if_neg (fun e => hxu e.symm)]; exact h3
    · rw [f55] at hlt
      rw [f56 z, f57 z, f55 z]
      by_cases g : z = x
      · rw [if_pos g] at hlt
        rw [if_pos g, if_pos g, if_pos g, f55, if_neg hxy]
        refine ⟨wt, by rw [g]; exact hE, by omega, hy, fun _ => ?_⟩
        show (if y = x then T else tau y) < (if z = x then T else tau z)
        rw [if_neg hxy, if_pos g]; exact h5 y
      · rw [if_neg g] at hlt
        rw [if_neg g, if_neg g, if_neg g]
        obtain ⟨wz, a1, a2, a3, a4⟩ := h4 z nz hz hlt
        refine ⟨wz, a1, ?_, ?_, fun he => ?_⟩
        · rw [f55]
          by_cases g2 : w 56 z = x
          · rw [if_pos g2]; rw [g2] at a2; omega
          · rw [if_neg g2]; exact a2
        · rw [f55]
          by_cases g2 : w 56 z = x
          · rw [if_pos g2]; omega
          · rw [if_neg g2]; exact a3
        · show (if w 56 z = x then T else tau (w 56 z)) < (if z = x then T else tau z)
          rw [f55] at he
          by_cases g2 : w 56 z = x
          · exfalso
            have r := ED_red k0 hC a1
            rw [if_pos g2] at he
            rw [g2] at r a2 he
            omega
          · rw [if_neg g2, if_neg g]
            rw [if_neg g2] at he
            exact a4 he
    · show (if z = x then T else tau z) < T + 1
      have := h5 z
      split <;> omega
    · have e := sg_upd (fun z => w 55 z - lbN n ps u z) x (c - lbN n ps u x) 22 bx.1 (by omega)
      have e2 : MSw n ps u (up (up (up (up w 55 x c) 56 x y) 57 x q) 27 45 1) = sg (fun z => if z = x then c - lbN n ps u x else w 55 z - lbN n ps u z) 22 := sg_congr 22 (fun z z0 z1 => by
        show up (up (up (up w 55 x c) 56 x y) 57 x q) 27 45 1 55 z - lbN n ps u z = if z = x then c - lbN n ps u x else w 55 z - lbN n ps u z
        rw [f55]
        by_cases g : z = x
        · rw [if_pos g, if_pos g, g]
        · rw [if_neg g, if_neg g])
      rw [e2, e]
      show sg (fun z => w 55 z - lbN n ps u z) 22 - (w 55 x - lbN n ps u x) + (c - lbN n ps u x) < sg (fun z => w 55 z - lbN n ps u z) 22
      omega
    · rw [up_self]
    · rw [f55, if_neg hz]
/-- a stretch of a pass: nothing was changed, and A holds; or something was -/
def ST1 (m n : Nat) (k u : Int) (v : VV) (ps : Int → Int) (w0 : VV) (A : Prop) (w : VV) : Prop := ∃ tau T, WI m n k u v ps tau T w ∧ ((w = w0 ∧ A) ∨ (MSw n ps u w < MSw n ps u w0 ∧ w 27 45 = 1))
theorem ST1_imp {m n : Nat} {k u : Int} {v : VV} {ps : Int → Int} {w0 : VV} {A B : Prop} {w : VV} (h : ST1 m n k u v ps w0 A w) (hAB : w = w0 → A → B) : ST1 m n k u v ps w0 B w := by
  obtain ⟨tau, T, h1, h2⟩ := h
  refine ⟨tau, T, h1, ?_⟩
  rcases h2 with h2 | h2
  · exact Or.inl ⟨h2.1, hAB h2.1 h2.2⟩
  · exact Or.inr h2
theorem ST1_off {m n : Nat} {k u : Int} {v : VV} {ph ps : Int → Int} {w0 : VV} {A B : Prop} {w : VV} (k0 : 0 ≤ k) (hC : WC m n k v ph ps) (hu : 0 ≤ u ∧ u < n) (h : ST1 m n k u v ps w0 A w) {x y q wt c : Int} (hE : ED m n v k y x q wt) (hy : w 55 y < 100000000) (hc : c = w 55 y + wt) (hB : A → w0 55 x ≤ c → B) : ST1 m n k u v ps w0 B (ofr w x c y q) := by
  obtain ⟨tau, T, h1, h2⟩ := h
  rcases WI_off k0 hC hu h1 hE hy hc with ⟨g1, g2⟩ | ⟨tau2, T2, g1, g2, g3, -⟩
  · rw [g2]
    refine ⟨tau, T, h1, ?_⟩
    rcases h2 with h2 | h2
    · exact Or.inl ⟨h2.1, hB h2.2 (by rw [← h2.1]; exact g1)⟩
    · exact Or.inr h2
  · refine ⟨tau2, T2, g1, Or.inr ⟨?_, g3⟩⟩
    rcases h2 with h2 | h2
    · rw [← h2.1]; exact g2
    · omega
theorem ST1_tr {m n : Nat} {k u : Int} {v : VV} {ps : Int → Int} {w0 w1 w : VV} {A B D : Prop} (h : ST1 m n k u v ps w0 A w1) (h2 : ST1 m n k u v ps w1 B w) (hD : w1 = w0 → A → B → D) : ST1 m n k u v ps w0 D w := by
  obtain ⟨-, -, -, a⟩ := h
  obtain ⟨tau, T, h1, b⟩ := h2
  refine ⟨tau, T, h1, ?_⟩
  rcases a with a | a
  · rcases b with b | b
    · exact Or.inl ⟨b.1.trans a.1, hD a.1 a.2 b.2⟩
    · rw [a.1] at b; exact Or.inr b
  · rcases b with b | b
    · rw [b.1]; exact Or.inr a
    · exact Or.inr ⟨by omega, b.2⟩
theorem ST1_wi {m n : Nat} {k u : Int} {v : VV} {ps : Int → Int} {w0 : VV} {A : Prop} {w : VV} (h : ST1 m n k u v ps w0 A w) : fw v w ∧ (∀ x : Int, 0 ≤ x → x < 22 → lbN n ps u x ≤ w 55 x ∧ w 55 x ≤ 100000000) := by
  obtain ⟨tau, T, h1, -⟩ := h
  exact ⟨h1.1, h1.2.1⟩
def sat1x (v w : VV) (k q x : Int) : Prop := x ≠ pl (v 48) q → Cl v q x ≠ 100000000 → ¬ heldF (v 48) k x → w 55 x ≤ w 55 (pl (v 48) q) - py v q + Cl v q x
def sat1n (v w : VV) (q : Int) : Prop := v 48 q ≠ -1 → w 55 20 ≤ w 55 (pl (v 48) q) - py v q + 1000000
theorem lb_bd {m n : Nat} {k u : Int} {v : VV} {ph ps : Int → Int} (hC : WC m n k v ph ps) (hu : 0 ≤ u ∧ u < n) (x : Int) (x0 : 0 ≤ x) : -1000000 ≤ lbN n ps u x := by
  have hn := hC.1.2.1
  have b1 := hC.2.2.2.1.2.2.2.1 u hu.1 hu.2
  unfold lbN pN
  split
  · split
    · have := hC.2.2.2.2 x x0 (by assumption); omega
    · omega
  · omega
theorem held_iff {m n : Nat} {v : VV} (hW : WH m n v) {k x : Int} (k1 : k ≤ m) (x0 : 0 ≤ x) (x1 : x < n) (h : v 53 x ≠ -1) : heldF (v 48) k x ↔ v 53 x < k := by
  have q : (0 ≤ v 53 x ∧ v 53 x < m) ∧ v 48 (v 53 x) = x := by
    rcases hW.2 x x0 x1 with g | g
    · exact absurd g h
    · exact g
  constructor
  · rintro ⟨t, t0, t1, e⟩
    rcases hW.1 t t0 (by omega) with g | g
    · omega
    · rw [e] at g; omega
  · intro g; exact ⟨v 53 x, q.1.1, g, q.2⟩
theorem free_iff {m n : Nat} {v : VV} (hW : WH m n v) {k x : Int} (k1 : k ≤ m) (x0 : 0 ≤ x) (x1 : x < n) (h : v 53 x = -1) : ¬ heldF (v 48) k x := by
  rintro ⟨t, t0, t1, e⟩
  rcases hW.1 t t0 (by omega) with g | g
  · omega
  · rw [e, h] at g; omega
set_option maxRecDepth 20000 in
set_option maxHeartbeats 1000000 in
theorem c_X6_moves (l : Launch) (d nu : Nat) (v : VV) (b : VV) (m n : Nat) (k u : Int) (ph ps : Int → Int) (hk0 : 0 ≤ k) (hk1 : k ≤ m) (hC : WC m n k b ph ps) (hu : 0 ≤ u ∧ u < n) (tau : Int → Nat) (T : Nat) (hI : WI m n k u b ps tau T v) (q : Int) (hq : k < q ∧ q < m) (hlt : v 55 (pl (b 48) q) < 100000000) : Ct l yX6_moves cX6_moves none 5 (d + 1) 0 0 [ar (some 27), ai q] (SG nu) v (fun r S2 w => r = none ∧ S2 = SG nu ∧ w 55 (pl (b 48) q) = v 55 (pl (b 48) q) ∧ ST1 m n k u b ps v (sat1n b v q ∧ ∀ x : Int, 0 ≤ x → x < n → sat1x b v k q x) w) := by
  refine Ct_of_G [some (ar (some 27)), some (ai q), none, none, none] (by decide) rfl rfl ?_
  have hn20 := hC.1.2.1
  have hm16 := hC.1.2.2.1
  have hpn := node_bd hn20 (pl_node hC.2.1 (q := q) (by omega) hq.2)
  have hpy := py_bd hC.1 hC.2.1 (t := q) (by omega) hq.2
  have hlo := hI.2.1 (pl (b 48) q) hpn.1 hpn.2
  have hlb := lb_bd hC hu (pl (b 48) q) hpn.1
  have loop : ∀ (N : Nat) (x : Int) (w : VV), 0 ≤ x → x + N = n → w 55 (pl (b 48) q) = v 55 (pl (b 48) q) → ST1 m n k u b ps v (sat1n b v q ∧ ∀ y : Int, 0 ≤ y → y < x → sat1x b v k q y) w → G l (yX6_moves, cX6_moves, none, 5, (d + 1), 0, 0, none) (fun r S2 w => r = none ∧ S2 = SG nu ∧ w 55 (pl (b 48) q) = v 55 (pl (b 48) q) ∧ ST1 m n k u b ps v (sat1n b v q ∧ ∀ x : Int, 0 ≤ x → x < n → sat1x b v k q x) w) 0 0 (SG nu) 40 [some (ar (some 27)), some (ai q), some (ai (pl (b 48) q)), some (ai (v 55 (pl (b 48) q) - py b q)), some (ai x)] [] w := by
    intro N
    induction N using Nat.strongRecOn with
    | ind N ih =>
    intro x w h0 h1 hpl hS
    obtain ⟨hfw, hbd⟩ := ST1_wi hS
    have e33 : w 27 33 = n := by rw [hfw.2 33 (by decide)]; exact hC.1.1
    refine G_iload dX6_moves_40 rfl ?_
    refine G_aload_n dX6_moves_42 rfl ?_
    refine G_getIv ((n : Int)) (jj := 33) dX6_moves_43 flX6_181 rfl rfl rfl e33 ?_
    refine G_icmp_ge 129 dX6_moves_46 (by decide) (fun h46 => ?_) (fun h46 => ?_)
    · obtain rfl : x = n := by omega
      exact G_vret dX6_moves_129 rfl rfl rfl ⟨rfl, rfl, hpl, hS⟩
    · have hcl := hC.1.2.2.2 q x (by omega) hq.2 h0 (by omega)
      have e53 : w 53 x = b 53 x := by rw [hfw.1 53 (by decide)]
      refine G_iload dX6_moves_49 rfl ?_
      refine G_iload_n dX6_moves_51 rfl ?_
      refine G_icmp_eq 123 dX6_moves_52 (by decide) (fun h52 => ?_) (fun h52 => ?_)
      · refine G_iinc dX6_moves_123 rfl (iRm (by omega) (by omega)) rfl rfl ?_
        refine G_goto 40 dX6_moves_126 (by decide) ?_
        exact ih (N - 1) (by omega) (x + 1) w (by omega) (by omega) hpl (ST1_imp hS (fun _ hA => ⟨hA.1, fun y y0 y1 => by by_cases g : y = x; (rw [g]; exact fun g2 => absurd h52 g2); exact hA.2 y y0 (by omega)⟩))
      · refine G_aload_n dX6_moves_55 rfl ?_
        refine G_getR (jj := 39) dX6_moves_56 flX6_83 rfl rfl rfl ?_
        refine G_bipush (n := 20) dX6_moves_59 (by decide) ⟨by decide, by decide⟩ ?_
        refine G_iload_n dX6_moves_61 rfl ?_
        refine G_imul dX6_moves_62 (iRm (by omega) (by omega)) ?_
        refine G_iload dX6_moves_63 rfl ?_
        refine G_iadd dX6_moves_65 (iRm (by omega) (by omega)) ?_
        refine G_ialdv (Cl b q x) dX6_moves_66 rfl (by omega) (by omega) (by unfold Cl; rw [hfw.1 52 (by decide)]) ?_
        refine G_ldc (n := 100000000) dX6_moves_67 (show Cond.constant RX6 218 (Int32.ofInt 100000000) ∈ lw_good by decide +kernel) ⟨by decide, by decide⟩ ?_
        refine G_icmp_eq 123 dX6_moves_69 (by decide) (fun h69 => ?_) (fun h69 => ?_)
        · refine G_iinc dX6_moves_123 rfl (iRm (by omega) (by omega)) rfl rfl ?_
          refine G_goto 40 dX6_moves_126 (by decide) ?_
          exact ih (N - 1) (by omega) (x + 1) w (by omega) (by omega) hpl (ST1_imp hS (fun _ hA => ⟨hA.1, fun y y0 y1 => by by_cases g : y = x; (rw [g]; exact fun _ g2 => absurd h69 g2); exact hA.2 y y0 (by omega)⟩))
        · refine G_aload_n dX6_moves_72 rfl ?_
          refine G_getR (jj := 40) dX6_moves_73 flX6_86 rfl rfl rfl ?_
          refine G_iload dX6_moves_76 rfl ?_
          refine G_ialdv (b 53 x) dX6_moves_78 rfl (by omega) (by omega) e53 ?_
          refine G_iconst (n := (-1)) dX6_moves_79 ⟨by decide, by decide⟩ ?_
          refine G_icmp_eq 101 dX6_moves_80 (by decide) (fun h80 => ?_) (fun h80 => ?_)
          · have hnf := free_iff hC.2.1 hk1 h0 (by omega) h80
            refine G_aload_n dX6_moves_101 rfl ?_
            refine G_iload dX6_moves_102 rfl ?_
            refine G_iload_n dX6_moves_104 rfl ?_
            refine G_aload_n dX6_moves_105 rfl ?_
            refine G_getR (jj := 39) dX6_moves_106 flX6_83 rfl rfl rfl ?_
            refine G_bipush (n := 20) dX6_moves_109 (by decide) ⟨by decide, by decide⟩ ?_
            refine G_iload_n dX6_moves_111 rfl ?_
            refine G_imul dX6_moves_112 (iRm (by omega) (by omega)) ?_
            refine G_iload dX6_moves_113 rfl ?_
            refine G_iadd dX6_moves_115 (iRm (by omega) (by omega)) ?_
            refine G_ialdv (Cl b q x) dX6_moves_116 rfl (by omega) (by omega) (by unfold Cl; rw [hfw.1 52 (by decide)]) ?_
            refine G_iadd dX6_moves_117 (iRm (by omega) (by omega)) ?_
            have hcl2 : 0 ≤ Cl b q x ∧ Cl b q x ≤ 5148 := by rcases hcl with g | g; exact absurd g h69; exact g
            refine G_iload_n dX6_moves_118 rfl ?_
            refine G_iload_n dX6_moves_119 rfl ?_
            refine G_cVv (ci := 6) dX6_moves_120 rfl (by decide) rfl (c_X6_offer l (d + 0) nu w x (v 55 (pl (b 48) q) - py b q + Cl b q x) (pl (b 48) q) q ⟨h0, by omega⟩) mcX6_242 rfl rfl (by show _ ≤ d + 1; omega) rfl rfl (Nat.le_refl _) (Nat.le_refl _) ?_
            have hED : ED m n b k (pl (b 48) q) x q (Cl b q x - py b q) := Or.inl ⟨by omega, hq, rfl, Or.inr ⟨⟨h0, by omega⟩, h52, h69, hnf, rfl⟩⟩
            have hS2 : ST1 m n k u b ps v (sat1n b v q ∧ ∀ y : Int, 0 ≤ y → y < x + 1 → sat1x b v k q y) (ofr w x (v 55 (pl (b 48) q) - py b q + Cl b q x) (pl (b 48) q) q) := ST1_off hk0 hC hu hS hED (by rw [hpl]; exact hlt) (by rw [hpl]; omega) (fun hA hle => ⟨hA.1, fun y y0 y1 => by
              by_cases g : y = x
              · rw [g]; intro _ _ _; exact hle
              · exact hA.2 y y0 (by omega)⟩)
            have hpl2 : ofr w x (v 55 (pl (b 48) q) - py b q + Cl b q x) (pl (b 48) q) q 55 (pl (b 48) q) = v 55 (pl (b 48) q) := by
              unfold ofr
              split
              · exact hpl
              · rw [up_c (show 55 ≠ 27 by decide), up_c (show 55 ≠ 57 by decide), up_c (show 55 ≠ 56 by decide), up_nj (fun e => h52 e.symm)]; exact hpl
            refine G_iinc dX6_moves_123 rfl (iRm (by omega) (by omega)) rfl rfl ?_
            refine G_goto 40 dX6_moves_126 (by decide) ?_
            exact ih (N - 1) (by omega) (x + 1) _ (by omega) (by omega) hpl2 hS2
          · have hbx : (0 ≤ b 53 x ∧ b 53 x < m) := by rcases hC.2.1.2 x h0 (by omega) with g | g; exact absurd g h80; exact g.1
            have hif := held_iff hC.2.1 hk1 h0 (by omega) h80
            refine G_aload_n dX6_moves_83 rfl ?_
            refine G_getR (jj := 41) dX6_moves_84 flX6_89 rfl rfl rfl ?_
            refine G_aload_n dX6_moves_87 rfl ?_
            refine G_getR (jj := 40) dX6_moves_88 flX6_86 rfl rfl rfl ?_
            refine G_iload dX6_moves_91 rfl ?_
            refine G_ialdv (b 53 x) dX6_moves_93 rfl (by omega) (by omega) e53 ?_
            refine G_zaldv ((if b 53 x < k then 1 else 0)) dX6_moves_94 rfl (by omega) (by omega) (by rw [hfw.1 54 (by decide)]; exact hC.2.2.1 (b 53 x) hbx.1 hbx.2) ?_
            refine G_if_eq 101 dX6_moves_95 (by decide) (fun h95 => ?_) (fun h95 => ?_)
            · have hnf : ¬ heldF (b 48) k x := fun g => by rw [if_pos (hif.mp g)] at h95; omega
              refine G_aload_n dX6_moves_101 rfl ?_
              refine G_iload dX6_moves_102 rfl ?_
              refine G_iload_n dX6_moves_104 rfl ?_
              refine G_aload_n dX6_moves_105 rfl ?_
              refine G_getR (jj := 39) dX6_moves_106 flX6_83 rfl rfl rfl ?_
              refine G_bipush (n := 20) dX6_moves_109 (by decide) ⟨by decide, by decide⟩ ?_
              refine G_iload_n dX6_moves_111 rfl ?_
              refine G_imul dX6_moves_112 (iRm (by omega) (by omega)) ?_
              refine G_iload dX6_moves_113 rfl ?_
              refine G_iadd dX6_moves_115 (iRm (by omega) (by omega)) ?_
              refine G_ialdv (Cl b q x) dX6_moves_116 rfl (by omega) (by omega) (by unfold Cl; rw [hfw.1 52 (by decide)]) ?_
              refine G_iadd dX6_moves_117 (iRm (by omega) (by omega)) ?_
              have hcl2 : 0 ≤ Cl b q x ∧ Cl b q x ≤ 5148 := by rcases hcl with g | g; exact absurd g h69; exact g
              refine G_iload_n dX6_moves_118 rfl ?_
              refine G_iload_n dX6_moves_119 rfl ?_
              refine G_cVv (ci := 6) dX6_moves_120 rfl (by decide) rfl (c_X6_offer l (d + 0) nu w x (v 55 (pl (b 48) q) - py b q + Cl b q x) (pl (b 48) q) q ⟨h0, by omega⟩) mcX6_242 rfl rfl (by show _ ≤ d + 1; omega) rfl rfl (Nat.le_refl _) (Nat.le_refl _) ?_
              have hED : ED m n b k (pl (b 48) q) x q (Cl b q x - py b q) := Or.inl ⟨by omega, hq, rfl, Or.inr ⟨⟨h0, by omega⟩, h52, h69, hnf, rfl⟩⟩
              have hS2 : ST1 m n k u b ps v (sat1n b v q ∧ ∀ y : Int, 0 ≤ y → y < x + 1 → sat1x b v k q y) (ofr w x (v 55 (pl (b 48) q) - py b q + Cl b q x) (pl (b 48) q) q) := ST1_off hk0 hC hu hS hED (by rw [hpl]; exact hlt) (by rw [hpl]; omega) (fun hA hle => ⟨hA.1, fun y y0 y1 => by
                by_cases g : y = x
                · rw [g]; intro _ _ _; exact hle
                · exact hA.2 y y0 (by omega)⟩)
              have hpl2 : ofr w x (v 55 (pl (b 48) q) - py b q + Cl b q x) (pl (b 48) q) q 55 (pl (b 48) q) = v 55 (pl (b 48) q) := by
                unfold ofr
                split
                · exact hpl
                · rw [up_c (show 55 ≠ 27 by decide), up_c (show 55 ≠ 57 by decide), up_c (show 55 ≠ 56 by decide), up_nj (fun e => h52 e.symm)]; exact hpl
              refine G_iinc dX6_moves_123 rfl (iRm (by omega) (by omega)) rfl rfl ?_
              refine G_goto 40 dX6_moves_126 (by decide) ?_
              exact ih (N - 1) (by omega) (x + 1) _ (by omega) (by omega) hpl2 hS2
            · have hyf : heldF (b 48) k x := hif.mpr (by
                apply Classical.byContradiction
                intro g
                rw [if_neg g] at h95
                exact h95 rfl)
              refine G_goto 123 dX6_moves_98 (by decide) ?_
              refine G_iinc dX6_moves_123 rfl (iRm (by omega) (by omega)) rfl rfl ?_
              refine G_goto 40 dX6_moves_126 (by decide) ?_
              exact ih (N - 1) (by omega) (x + 1) w (by omega) (by omega) hpl (ST1_imp hS (fun _ hA => ⟨hA.1, fun y y0 y1 => by by_cases g : y = x; (rw [g]; exact fun _ _ g2 => absurd hyf g2); exact hA.2 y y0 (by omega)⟩))
  refine G_aload_n dX6_moves_0 rfl ?_
  refine G_iload_n dX6_moves_1 rfl ?_
  refine G_cVi (ci := 6) dX6_moves_2 rfl (by decide) rfl (c_X6_placeOf l (d + 0) nu v q ⟨by omega, by omega⟩) mcX6_236 rfl rfl (by show _ ≤ d + 1; omega) rfl rfl (Nat.le_refl _) (Nat.le_refl _) ?_
  rw [show (if v 48 q = -1 then (20 : Int) else v 48 q) = pl (b 48) q from by unfold pl; rw [hI.1.1 48 (by decide)]]
  refine G_istore_n dX6_moves_5 rfl rfl ?_
  refine G_aload_n dX6_moves_6 rfl ?_
  refine G_getR (jj := 42) dX6_moves_7 flX6_92 rfl rfl rfl ?_
  refine G_iload_n dX6_moves_10 rfl ?_
  refine G_iald dX6_moves_11 rfl (by omega) (by omega) ?_
  refine G_aload_n dX6_moves_12 rfl ?_
  refine G_iload_n dX6_moves_13 rfl ?_
  refine G_cVi (ci := 6) dX6_moves_14 rfl (by decide) rfl (c_X6_pays l (d + 0) nu v q ⟨by omega, by omega⟩ (by rw [hI.1.1 48 (by decide)]; rcases hC.2.1.1 q (by omega) hq.2 with g | g <;> omega)) mcX6_219 rfl rfl (by show _ ≤ d + 1; omega) rfl rfl (Nat.le_refl _) (Nat.le_refl _) ?_
  rw [show (if v 48 q = -1 then (1000000 : Int) else v 52 (20 * q + v 48 q)) = py b q from by unfold py; rw [hI.1.1 48 (by decide), hI.1.1 52 (by decide)]]
  refine G_isub dX6_moves_17 (iRm (by omega) (by omega)) ?_
  refine G_istore_n dX6_moves_18 rfl rfl ?_
  refine G_iload_n dX6_moves_19 rfl ?_
  refine G_bipush (n := 20) dX6_moves_20 (by decide) ⟨by decide, by decide⟩ ?_
  refine G_icmp_eq 37 dX6_moves_22 (by decide) (fun h22 => ?_) (fun h22 => ?_)
  · refine G_iconst (n := 0) dX6_moves_37 ⟨by decide, by decide⟩ ?_
    refine G_istore dX6_moves_38 rfl rfl ?_
    exact loop n 0 v (by omega) (by omega) rfl ⟨tau, T, hI, Or.inl ⟨rfl, fun g => absurd h22 (fun e => by unfold pl at e; rw [if_neg g] at e; have := hC.2.1.1 q (by omega) hq.2; omega), fun y y0 y1 => by omega⟩⟩
  · refine G_aload_n dX6_moves_25 rfl ?_
    refine G_bipush (n := 20) dX6_moves_26 (by decide) ⟨by decide, by decide⟩ ?_
    refine G_iload_n dX6_moves_28 rfl ?_
    refine G_ldc (n := 1000000) dX6_moves_29 (show Cond.constant RX6 217 (Int32.ofInt 1000000) ∈ lw_good by decide +kernel) ⟨by decide, by decide⟩ ?_
    refine G_iadd dX6_moves_31 (iRm (by omega) (by omega)) ?_
    refine G_iload_n dX6_moves_32 rfl ?_
    refine G_iload_n dX6_moves_33 rfl ?_
    refine G_cVv (ci := 6) dX6_moves_34 rfl (by decide) rfl (c_X6_offer l (d + 0) nu v 20 (v 55 (pl (b 48) q) - py b q + 1000000) (pl (b 48) q) q ⟨by omega, by omega⟩) mcX6_242 rfl rfl (by show _ ≤ d + 1; omega) rfl rfl (Nat.le_refl _) (Nat.le_refl _) ?_
    have hw9 : b 48 q ≠ -1 := fun g => h22 (by unfold pl; rw [if_pos g])
    have hED : ED m n b k (pl (b 48) q) 20 q (1000000 - py b q) := Or.inl ⟨by omega, hq, rfl, Or.inl ⟨rfl, hw9, rfl⟩⟩
    have hS2 : ST1 m n k u b ps v (sat1n b v q ∧ ∀ y : Int, 0 ≤ y → y < 0 → sat1x b v k q y) (ofr v 20 (v 55 (pl (b 48) q) - py b q + 1000000) (pl (b 48) q) q) := ST1_off hk0 hC hu (A := True) ⟨tau, T, hI, Or.inl ⟨rfl, trivial⟩⟩ hED hlt (by omega) (fun _ hle => ⟨fun _ => hle, fun y y0 y1 => by omega⟩)
    have hpl2 : ofr v 20 (v 55 (pl (b 48) q) - py b q + 1000000) (pl (b 48) q) q 55 (pl (b 48) q) = v 55 (pl (b 48) q) := by
      unfold ofr
      split
      · rfl
      · rw [up_c (show 55 ≠ 27 by decide), up_c (show 55 ≠ 57 by decide), up_c (show 55 ≠ 56 by decide), up_nj h22]
    refine G_iconst (n := 0) dX6_moves_37 ⟨by decide, by decide⟩ ?_
    refine G_istore dX6_moves_38 rfl rfl ?_
    exact loop n 0 _ (by omega) (by omega) hpl2 hS2
