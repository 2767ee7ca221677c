theorem fr_tr2 {ks js : List Nat} {a b c : VV} (h : fr js a b) (h2 : fr ks b c) (hs : ∀ k ∈ ks, k ∈ js) : fr js a c := fun k hk => (h2 k (fun z => hk (hs k z))).trans (h k hk)
/-- the matching of the rows ahead of k and the idle ones: tight, and no gap below 0 -/
def MT (m n : Nat) (k : Int) (w : VV) : Prop :=
  (∀ i : Int, 0 ≤ i → i < ((m + n : Nat) : Int) → (i < k ∨ (m : Int) ≤ i) → (0 ≤ w 19 i ∧ w 19 i < ((m + n : Nat) : Int)) ∧ w 20 (w 19 i) = i ∧ gv m n w i (w 19 i) = 0) ∧
  (∀ i : Int, k ≤ i → i < m → w 19 i = -1) ∧
  (∀ c : Int, 0 ≤ c → c < ((m + n : Nat) : Int) → (w 20 c = -1 ∧ w 22 c = 0) ∨ ((0 ≤ w 20 c ∧ w 20 c < ((m + n : Nat) : Int)) ∧ w 19 (w 20 c) = c)) ∧
  ∀ i c : Int, 0 ≤ i → i < ((m + n : Nat) : Int) → 0 ≤ c → c < ((m + n : Nat) : Int) → (i < k ∨ (m : Int) ≤ i) → 0 ≤ gv m n w i c
def HBd (m n : Nat) (t : Int) (w : VV) : Prop := ∀ i : Int, 0 ≤ i → i < ((m + n : Nat) : Int) → (0 ≤ w 21 i ∧ w 21 i ≤ t) ∧ (-t ≤ w 22 i ∧ w 22 i ≤ 0)
def HI (m n : Nat) (k : Int) (w : VV) : Prop := SD m n w ∧ BP w ∧ MT m n k w ∧ (∀ i : Int, k ≤ i → i < m → w 21 i = 0) ∧ HBd m n (10000000 * k) w
def TB (m n : Nat) (k : Int) (w : VV) : Prop := SD m n w ∧ BP w ∧ MT m n k w ∧ (∀ i : Int, k < i → i < m → w 21 i = 0) ∧ (∀ c : Int, 0 ≤ c → c < ((m + n : Nat) : Int) → 0 ≤ gv m n w k c) ∧ HBd m n (10000000 * k + w 21 k) w
def tree (k : Int) (w : VV) (i : Int) : Prop := i = k ∨ (w 19 i ≠ -1 ∧ w 26 (w 19 i) ≠ 0)
def TS (m n : Nat) (step : Nat) (rho : Int → Nat) (w : VV) : Prop := (∀ c : Int, 0 ≤ c → c < ((m + n : Nat) : Int) → w 26 c = 0 ∨ w 26 c = 1) ∧ (∀ c : Int, 0 ≤ c → c < ((m + n : Nat) : Int) → w 26 c = 1 → w 20 c ≠ -1 ∧ rho c < step) ∧ sg (w 26) (m + n) = step ∧ ∀ c : Int, 0 ≤ c → c < ((m + n : Nat) : Int) → 0 ≤ w 23 c ∧ w 23 c ≤ 1000000000
def TL (m n : Nat) (k : Int) (w : VV) (c : Int) : Prop := (w 24 c = -1 ∨ ((0 ≤ w 24 c ∧ w 24 c < ((m + n : Nat) : Int)) ∧ w 26 (w 24 c) = 1)) ∧ w 23 c = gv m n w (rl k w c) c
def TI (m n : Nat) (k row col : Int) (step : Nat) (rho : Int → Nat) (w : VV) : Prop := TB m n k w ∧ TT m n k rho w ∧ TS m n step rho w ∧
  ((step = 0 ∧ row = k ∧ col = -1 ∧ ∀ c : Int, 0 ≤ c → c < ((m + n : Nat) : Int) → w 26 c = 0 ∧ w 24 c = -1 ∧ w 23 c = 1000000000) ∨
   (0 < step ∧ (0 ≤ col ∧ col < ((m + n : Nat) : Int)) ∧ w 26 col = 1 ∧ row = w 20 col ∧ ∀ c : Int, 0 ≤ c → c < ((m + n : Nat) : Int) → w 26 c = 0 → TL m n k w c ∧ ∀ i : Int, 0 ≤ i → i < ((m + n : Nat) : Int) → tree k w i → i ≠ row → w 23 c ≤ gv m n w i c))
def TR (m n : Nat) (k : Int) (step : Nat) (rho : Int → Nat) (w : VV) : Prop := TB m n k w ∧ TT m n k rho w ∧ TS m n step rho w ∧ ∀ c : Int, 0 ≤ c → c < ((m + n : Nat) : Int) → w 26 c = 0 → TL m n k w c ∧ ∀ i : Int, 0 ≤ i → i < ((m + n : Nat) : Int) → tree k w i → w 23 c ≤ gv m n w i c
theorem MT_fr {m n : Nat} {k : Int} {ks : List Nat} {v w : VV} (h : MT m n k v) (hf : fr ks v w) (h18 : 18 ∉ ks) (h19 : 19 ∉ ks) (h20 : 20 ∉ ks) (h21 : 21 ∉ ks) (h22 : 22 ∉ ks) : MT m n k w := by
  unfold MT gv PV
  rw [hf 18 h18, hf 19 h19, hf 20 h20, hf 21 h21, hf 22 h22]
  exact h
theorem TB_fr {m n : Nat} {k : Int} {ks : List Nat} {v w : VV} (h : TB m n k v) (hf : fr ks v w) (h17 : 17 ∉ ks) (h18 : 18 ∉ ks) (h19 : 19 ∉ ks) (h20 : 20 ∉ ks) (h21 : 21 ∉ ks) (h22 : 22 ∉ ks) : TB m n k w := by
  obtain ⟨a1, a2, a3, a4, a5, a6⟩ := h
  refine ⟨a1.fr hf h17, ?_, MT_fr a3 hf h18 h19 h20 h21 h22, ?_, ?_, ?_⟩
  · unfold BP; rw [hf 18 h18]; exact a2
  · rw [hf 21 h21]; exact a4
  · intro c c0 c1; rw [gv_fr hf h18 h21 h22]; exact a5 c c0 c1
  · unfold HBd; rw [hf 21 h21, hf 22 h22]; exact a6
theorem TB_bd {m n : Nat} {k : Int} {w : VV} (k0 : 0 ≤ k) (k1 : k < m) (h : TB m n k w) (hk : w 21 k ≤ 10000000) : BD m n w := by
  refine ⟨h.2.1, fun i i0 i1 => ?_⟩
  have := h.2.2.2.2.2 i i0 i1
  have hm := h.1.2.2.2.1
  unfold B4
  omega
/-- some column is free -/
theorem free_col {m n : Nat} {k : Int} {w : VV} (k0 : 0 ≤ k) (k1 : k < m) (h : MT m n k w) : ∃ c : Int, 0 ≤ c ∧ c < ((m + n : Nat) : Int) ∧ w 20 c = -1 ∧ w 22 c = 0 := by
  apply Classical.byContradiction
  intro g
  have h1 : ∀ c : Int, 0 ≤ c → c < ((m + n : Nat) : Int) → (0 ≤ w 20 c ∧ w 20 c < ((m + n : Nat) : Int)) ∧ w 19 (w 20 c) = c := fun c c0 c1 => by
    rcases h.2.2.1 c c0 c1 with z | z
    · exact absurd ⟨c, c0, c1, z.1, z.2⟩ g
    · exact z
  have := php_lt (m := m + n) (N := m + n) (w 20) (fun c c0 c1 => (h1 c c0 c1).1) (fun c c' c0 c1 c0' c1' e => by
    have e1 := (h1 c c0 c1).2
    have e2 := (h1 c' c0' c1').2
    rw [e] at e1
    omega) k k0 (by omega) (fun c c0 c1 e => by
    have e1 := (h1 c c0 c1).2
    rw [e, h.2.1 k (by omega) k1] at e1
    omega)
  omega
theorem row_k {m n : Nat} {k : Int} {w : VV} (h : MT m n k w) (k1 : k < m) {c : Int} (c0 : 0 ≤ c) (c1 : c < ((m + n : Nat) : Int)) (hc : w 20 c ≠ -1) : ((0 ≤ w 20 c ∧ w 20 c < ((m + n : Nat) : Int)) ∧ w 19 (w 20 c) = c) ∧ (w 20 c < k ∨ (m : Int) ≤ w 20 c) := by
  have h1 : (0 ≤ w 20 c ∧ w 20 c < ((m + n : Nat) : Int)) ∧ w 19 (w 20 c) = c := by
    rcases h.2.2.1 c c0 c1 with z | z
    · exact absurd z.1 hc
    · exact z
  refine ⟨h1, ?_⟩
  apply Classical.byContradiction
  intro g
  have := h.2.1 (w 20 c) (by omega) (by omega)
  omega
theorem TI_rho {m n : Nat} {k row col : Int} {step : Nat} {rho : Int → Nat} {w : VV} (k0 : 0 ≤ k) (k1 : k < m) (h : TI m n k row col step rho w) : step < m + n ∧ (0 ≤ row ∧ row < ((m + n : Nat) : Int)) ∧ w 21 k ≤ 10000000 := by
  obtain ⟨b, t, s, r⟩ := h
  obtain ⟨f, f0, f1, f2, f3⟩ := free_col k0 k1 b.2.2.1
  have hf : w 26 f = 0 := by
    rcases s.1 f f0 f1 with z | z
    · exact z
    · exact absurd f2 (s.2.1 f f0 f1 z).1
  refine ⟨?_, ?_, ?_⟩
  · have e1 := sg_upd (w 26) f 1 (m + n) f0 f1
    have e2 := sg_le (f := fun i => if i = f then 1 else w 26 i) (g := fun _ => 1) (m + n) (fun i i0 i1 => by
      show (if i = f then 1 else w 26 i) ≤ 1
      split
      · omega
      · rcases s.1 i i0 i1 with z | z <;> omega)
    rw [sg_const] at e2
    have e3 := s.2.2.1
    omega
  · rcases r with ⟨-, r, -⟩ | ⟨-, r1, r2, r3, -⟩
    · omega
    · have := (row_k b.2.2.1 k1 r1.1 r1.2 (s.2.1 col r1.1 r1.2 r2).1).1.1
      omega
  · have g := b.2.2.2.2.1 f f0 f1
    have g2 := (cF_bd b.1 b.2.1 (i := k) (c := f) k0 f0).2
    unfold gv at g
    omega
theorem TI_reach {m n : Nat} {k row col : Int} {step : Nat} {rho : Int → Nat} {v w : VV} (k0 : 0 ≤ k) (k1 : k < m) (h : TI m n k row col step rho v) (hf : fr [23, 24] v w) (hr : ∀ c : Int, 0 ≤ c → c < ((m + n : Nat) : Int) → w 23 c = rS m n v row c ∧ w 24 c = rK m n v row col c) : TR m n k step rho w := by
  obtain ⟨-, hrow, hk7⟩ := TI_rho k0 k1 h
  obtain ⟨b, t, s, r⟩ := h
  have hbd := TB_bd k0 k1 b hk7
  have ls : ∀ c : Int, 0 ≤ c → c < ((m + n : Nat) : Int) → v 26 c = 1 → w 23 c = v 23 c ∧ w 24 c = v 24 c := fun c c0 c1 z => by
    obtain ⟨e1, e2⟩ := hr c c0 c1
    rw [e1, e2]
    unfold rS rK
    rw [if_neg (by omega), if_neg (by omega)]
    exact ⟨rfl, rfl⟩
  have egv : ∀ i c, gv m n w i c = gv m n v i c := gv_fr hf (by decide) (by decide) (by decide)
  have e19 := hf 19 (by decide)
  have e20 := hf 20 (by decide)
  have e26 := hf 26 (by decide)
  have hS9 : ∀ c : Int, 0 ≤ c → c < ((m + n : Nat) : Int) → v 26 c = 0 → TL m n k w c ∧ ∀ i : Int, 0 ≤ i → i < ((m + n : Nat) : Int) → tree k w i → w 23 c ≤ gv m n w i c := by
    intro c c0 c1 hc
    obtain ⟨e1, e2⟩ := hr c c0 c1
    unfold rS at e1
    unfold rK at e2
    have tr : ∀ i, tree k w i ↔ tree k v i := fun i => by unfold tree; rw [e19, e26]
    by_cases hg : gv m n v row c < v 23 c
    · rw [if_pos ⟨hc, hg⟩] at e1 e2
      rcases r with ⟨r1, r2, r3, r4⟩ | ⟨r1, r2, r3, r4, r5⟩
      · refine ⟨⟨Or.inl (e2.trans r3), ?_⟩, fun i i0 i1 hi => ?_⟩
        · unfold rl
          rw [if_pos (e2.trans r3), egv, e1, r2]
        · rw [egv, e1]
          have : i = k := by
            rcases (tr i).mp hi with z | z
            · exact z
            · exfalso
              have q := (r4 (v 19 i))
              by_cases g : v 19 i = -1
              · exact z.1 g
              · have hM := b.2.2.1
                have : i < k ∨ (m : Int) ≤ i := by
                  apply Classical.byContradiction
                  intro g2
                  exact g (hM.2.1 i (by omega) (by omega))
                have q2 := (hM.1 i i0 i1 this).1
                exact z.2 (q q2.1 q2.2).1
          rw [this, r2]
          exact Int.le_refl _
      · refine ⟨⟨Or.inr ?_, ?_⟩, fun i i0 i1 hi => ?_⟩
        · rw [e2, e26]; exact ⟨r2, r3⟩
        · unfold rl
          rw [if_neg (by omega), e2, e20, egv, e1, r4]
        · rw [egv, e1]
          by_cases y : i = row
          · rw [y]; exact Int.le_refl _
          · have := (r5 c c0 c1 hc).2 i i0 i1 ((tr i).mp hi) y
            omega
    · rw [if_neg (fun z => hg z.2)] at e1 e2
      rcases r with ⟨r1, r2, r3, r4⟩ | ⟨r1, r2, r3, r4, r5⟩
      · have := (r4 c c0 c1).2.2
        have := gv_bd b.1 hbd hrow.1 hrow.2 c0 c1
        omega
      · obtain ⟨⟨p1, p2⟩, p3⟩ := r5 c c0 c1 hc
        refine ⟨⟨?_, ?_⟩, fun i i0 i1 hi => ?_⟩
        · rw [e2, e26]; exact p1
        · unfold rl
          rw [e2, e20, egv, e1, p2]
          rfl
        · rw [egv, e1]
          by_cases y : i = row
          · rw [y]; omega
          · exact p3 i i0 i1 ((tr i).mp hi) y
  refine ⟨TB_fr b hf (by decide) (by decide) (by decide) (by decide) (by decide) (by decide), ?_, ⟨?_, ?_, ?_, ?_⟩, ?_⟩
  · intro c c0 c1 hc
    rw [e26] at hc
    have e := ls c c0 c1 hc
    have q := t c c0 c1 hc
    unfold rl at q ⊢
    rw [e.2, e26, e20, egv]
    exact q
  · rw [e26]; exact s.1
  · rw [e26, e20]; exact s.2.1
  · rw [e26]; exact s.2.2.1
  · intro c c0 c1
    rcases s.1 c c0 c1 with z | z
    · obtain ⟨⟨p1, p2⟩, -⟩ := hS9 c c0 c1 z
      -- the slack of a column not seen is a gap
      have hrl : (0 ≤ rl k w c ∧ rl k w c < ((m + n : Nat) : Int)) ∧ 0 ≤ gv m n v (rl k w c) c := by
        unfold rl
        rcases p1 with p1 | p1
        · rw [if_pos p1]; exact ⟨by omega, b.2.2.2.2.1 c c0 c1⟩
        · rw [if_neg (by omega), e20]
          rw [e26] at p1
          have q := row_k b.2.2.1 k1 p1.1.1 p1.1.2 (s.2.1 _ p1.1.1 p1.1.2 p1.2).1
          exact ⟨q.1.1, b.2.2.1.2.2.2 _ c q.1.1.1 q.1.1.2 c0 c1 q.2⟩
      rw [p2, egv]
      have := gv_bd b.1 hbd hrl.1.1 hrl.1.2 c0 c1
      omega
    · rw [(ls c c0 c1 z).1]; exact s.2.2.2 c c0 c1
  · rw [e26]; exact hS9
/-- the slack of the nearest column: what the parts are shifted by -/
theorem TR_by {m n : Nat} {k : Int} {step : Nat} {rho : Int → Nat} {w : VV} (k0 : 0 ≤ k) (k1 : k < m) (h : TR m n k step rho w) {b : Int} (b0 : 0 ≤ b) (b1 : b < ((m + n : Nat) : Int)) (hb : w 26 b = 0) (hmin : ∀ c : Int, 0 ≤ c → c < ((m + n : Nat) : Int) → w 26 c = 0 → w 23 b ≤ w 23 c) :
    (0 ≤ w 23 b ∧ w 21 k + w 23 b ≤ 10000000) ∧ 0 ≤ w 21 k ∧ SPM m n w k ∧ ∀ c : Int, 0 ≤ c → c < ((m + n : Nat) : Int) → (-300000000 ≤ w 21 c ∧ w 21 c ≤ 300000000) ∧ (-300000000 ≤ w 22 c ∧ w 22 c ≤ 300000000) ∧ (0 ≤ w 23 c ∧ w 23 c ≤ 1000000000) := by
  obtain ⟨hB, t, s, r⟩ := h
  obtain ⟨f, f0, f1, f2, f3⟩ := free_col k0 k1 hB.2.2.1
  have hf : w 26 f = 0 := by
    rcases s.1 f f0 f1 with z | z
    · exact z
    · exact absurd f2 (s.2.1 f f0 f1 z).1
  have hx1 := hmin f f0 f1 hf
  have hx2 := (r f f0 f1 hf).2 k k0 (by omega) (Or.inl rfl)
  have hx3 := (cF_bd hB.1 hB.2.1 (i := k) (c := f) k0 f0).2
  have hx4 : gv m n w k f = cF m n (PV w) k f - w 21 k - w 22 f := rfl
  have hx5 := (hB.2.2.2.2.2 k k0 (by omega)).1.1
  have hx6 := s.2.2.2 b b0 b1
  have hm := hB.1.2.2.2.1
  refine ⟨⟨hx6.1, by omega⟩, hx5, ⟨fun c c0 c1 hc => ?_, fun i i0 i1 => ?_⟩, fun c c0 c1 => ?_⟩
  · have hc1 : w 26 c = 1 := by
      rcases s.1 c c0 c1 with z | z
      · exact absurd z hc
      · exact z
    have q := row_k hB.2.2.1 k1 c0 c1 (s.2.1 c c0 c1 hc1).1
    exact ⟨q.1.1, by omega, q.1.2⟩
  · by_cases g : i < k ∨ (m : Int) ≤ i
    · have q := hB.2.2.1.1 i i0 i1 g
      exact Or.inr ⟨q.1, q.2.1⟩
    · exact Or.inl (hB.2.2.1.2.1 i (by omega) (by omega))
  · have := hB.2.2.2.2.2 c c0 c1
    have := s.2.2.2 c c0 c1
    omega
theorem SPP_gv {m n : Nat} {v w : VV} {k x : Int} (h : SPP m n v k x w) {i c : Int} (i0 : 0 ≤ i) (i1 : i < ((m + n : Nat) : Int)) (c0 : 0 ≤ c) (c1 : c < ((m + n : Nat) : Int)) : (tree k v i → v 26 c ≠ 0 → gv m n w i c = gv m n v i c) ∧ (tree k v i → v 26 c = 0 → gv m n w i c = gv m n v i c - x) ∧ (¬ tree k v i → v 26 c ≠ 0 → gv m n w i c = gv m n v i c + x) ∧ (¬ tree k v i → v 26 c = 0 → gv m n w i c = gv m n v i c) := by
  have e1 := (h.2 c c0 c1).2.1
  have e2 := (h.2 i i0 i1).2.2
  have e3 : PV w = PV v := by funext a b; unfold PV; rw [h.1 18 (by decide)]
  unfold gv
  rw [e3]
  refine ⟨fun t z => ?_, fun t z => ?_, fun t z => ?_, fun t z => ?_⟩ <;> unfold tree at t
  · rw [if_pos z] at e1; rw [if_pos t] at e2; omega
  · rw [if_neg (fun y => y z)] at e1; rw [if_pos t] at e2; omega
  · rw [if_pos z] at e1; rw [if_neg t] at e2; omega
  · rw [if_neg (fun y => y z)] at e1; rw [if_neg t] at e2; omega
set_option maxHeartbeats 2000000 in
theorem TR_shift {m n : Nat} {k : Int} {step : Nat} {rho : Int → Nat} {v w : VV} (k0 : 0 ≤ k) (k1 : k < m) (h : TR m n k step rho v) {b : Int} (b0 : 0 ≤ b) (b1 : b < ((m + n : Nat) : Int)) (hb : v 26 b = 0) (hmin : ∀ c : Int, 0 ≤ c → c < ((m + n : Nat) : Int) → v 26 c = 0 → v 23 b ≤ v 23 c) (hs : SPP m n v k (v 23 b) w) :
    TB m n k (up w 26 b 1) ∧ TT m n k (fun c => if c = b then step else rho c) (up w 26 b 1) ∧ up w 26 b 1 20 b = v 20 b ∧ (v 20 b ≠ -1 → TI m n k (v 20 b) b (step + 1) (fun c => if c = b then step else rho c) (up w 26 b 1)) := by
  obtain ⟨⟨hx0, hx1⟩, hx2, hspm, hbb⟩ := TR_by k0 k1 h b0 b1 hb hmin
  obtain ⟨hB, t, s, r⟩ := h
  obtain ⟨a1, a2, a3, a4, a5, a6⟩ := id hB
  have hfu : fr [26] w (up w 26 b 1) := fr_up fr_rf (by decide) _ _
  have hf2 : fr [21, 22, 23, 26] v (up w 26 b 1) := fr_up (fr_sub hs.1 (by decide)) (by decide) _ _
  have egu : ∀ i c, gv m n (up w 26 b 1) i c = gv m n w i c := gv_fr hfu (by decide) (by decide) (by decide)
  have e19 := hf2 19 (by decide)
  have e20 := hf2 20 (by decide)
  have e24 := hf2 24 (by decide)
  have e21 : up w 26 b 1 21 = w 21 := hfu 21 (by decide)
  have e22 : up w 26 b 1 22 = w 22 := hfu 22 (by decide)
  have e23 : up w 26 b 1 23 = w 23 := hfu 23 (by decide)
  have e26 : ∀ c : Int, up w 26 b 1 26 c = if c = b then 1 else v 26 c := fun c => by
    by_cases y : c = b
    · rw [y, up_self, if_pos rfl]
    · rw [up_nj y, if_neg y, hs.1 26 (by decide)]
  have ad_tree : ∀ i : Int, 0 ≤ i → i < ((m + n : Nat) : Int) → (i < k ∨ (m : Int) ≤ i) → (tree k v i ↔ v 26 (v 19 i) ≠ 0) := fun i i0 i1 hi => by
    have q := a3.1 i i0 i1 hi
    unfold tree
    constructor
    · rintro (z | z)
      · omega
      · exact z.2
    · intro z; exact Or.inr ⟨by omega, z⟩
  have hgx : ∀ c : Int, 0 ≤ c → c < ((m + n : Nat) : Int) → v 26 c = 0 → ∀ i : Int, 0 ≤ i → i < ((m + n : Nat) : Int) → tree k v i → v 23 b ≤ gv m n v i c := fun c c0 c1 hc i i0 i1 hi => Int.le_trans (hmin c c0 c1 hc) ((r c c0 c1 hc).2 i i0 i1 hi)
  have gnn : ∀ i c : Int, 0 ≤ i → i < ((m + n : Nat) : Int) → 0 ≤ c → c < ((m + n : Nat) : Int) → (i = k ∨ i < k ∨ (m : Int) ≤ i) → 0 ≤ gv m n w i c := by
    intro i c i0 i1 c0 c1 hi
    have base : 0 ≤ gv m n v i c := by
      rcases hi with z | z
      · rw [z]; exact a5 c c0 c1
      · exact a3.2.2.2 i c i0 i1 c0 c1 z
    obtain ⟨q1, q2, q3, q4⟩ := SPP_gv hs i0 i1 c0 c1
    by_cases ht : tree k v i
    · by_cases hc : v 26 c = 0
      · rw [q2 ht hc]
        have := hgx c c0 c1 hc i i0 i1 ht
        omega
      · rw [q1 ht hc]; exact base
    · by_cases hc : v 26 c = 0
      · rw [q4 ht hc]; exact base
      · rw [q3 ht hc]; omega
  have key21 : ∀ i : Int, 0 ≤ i → i < ((m + n : Nat) : Int) → w 21 i = v 21 i ∨ w 21 i = v 21 i + v 23 b := fun i i0 i1 => by
    rw [(hs.2 i i0 i1).2.2]
    split
    · exact Or.inr rfl
    · exact Or.inl (by omega)
  have key22 : ∀ i : Int, 0 ≤ i → i < ((m + n : Nat) : Int) → w 22 i = v 22 i ∨ w 22 i = v 22 i - v 23 b := fun i i0 i1 => by
    rw [(hs.2 i i0 i1).2.1]
    split
    · exact Or.inr rfl
    · exact Or.inl rfl
  have k21 : w 21 k = v 21 k + v 23 b := by
    rw [(hs.2 k k0 (by omega)).2.2, if_pos (Or.inl rfl)]
  have hTB : TB m n k (up w 26 b 1) := by
    refine ⟨a1.fr hf2 (by decide), ?_, ⟨fun i i0 i1 hi => ?_, ?_, fun c c0 c1 => ?_, fun i c i0 i1 c0 c1 hi => ?_⟩, fun i i0 i1 => ?_, fun c c0 c1 => ?_, fun i i0 i1 => ?_⟩
    · unfold BP; rw [hf2 18 (by decide)]; exact a2
    · rw [e19, e20, egu]
      have q := a3.1 i i0 i1 hi
      refine ⟨q.1, q.2.1, ?_⟩
      obtain ⟨q1, q2, q3, q4⟩ := SPP_gv hs i0 i1 q.1.1 q.1.2
      have ht := ad_tree i i0 i1 hi
      by_cases hc : v 26 (v 19 i) = 0
      · rw [q4 (fun z => ht.mp z hc) hc]; exact q.2.2
      · rw [q1 (ht.mpr hc) hc]; exact q.2.2
    · rw [e19]; exact a3.2.1
    · rw [e19, e20, e22]
      rcases a3.2.2.1 c c0 c1 with z | z
      · refine Or.inl ⟨z.1, ?_⟩
        have hc : v 26 c = 0 := by
          rcases s.1 c c0 c1 with y | y
          · exact y
          · exact absurd z.1 (s.2.1 c c0 c1 y).1
        rw [(hs.2 c c0 c1).2.1, if_neg (fun y => y hc)]; exact z.2
      · exact Or.inr z
    · rw [egu]; exact gnn i c i0 i1 c0 c1 (Or.inr hi)
    · rw [e21, (hs.2 i (by omega) (by omega)).2.2, if_neg, a4 i i0 i1]
      · rfl
      · rintro (z | z)
        · omega
        · exact z.1 (a3.2.1 i (by omega) i1)
    · rw [egu]; exact gnn k c k0 (by omega) c0 c1 (Or.inl rfl)
    · rw [e21, e22, k21]
      have q := a6 i i0 i1
      have q1 := key21 i i0 i1
      have q2 := key22 i i0 i1
      omega
  have hb24 := (r b b0 b1 hb).1
  have rlE : ∀ c, rl k (up w 26 b 1) c = rl k v c := fun c => by unfold rl; rw [e24, e20]
  have hTT : TT m n k (fun c => if c = b then step else rho c) (up w 26 b 1) := by
    intro c c0 c1 hc
    rw [e26] at hc
    rw [e24, e20, rlE, egu]
    by_cases y : c = b
    · subst y
      refine ⟨?_, ?_⟩
      · rcases hb24.1 with z | z
        · exact Or.inl z
        · refine Or.inr ⟨z.1, ?_, ?_, (s.2.1 _ z.1.1 z.1.2 z.2).1⟩
          · rw [e26]
            split
            · rfl
            · exact z.2
          · show (if v 24 c = c then step else rho (v 24 c)) < (if c = c then step else rho c)
            have : v 24 c ≠ c := fun e => by rw [e] at z; omega
            rw [if_pos rfl, if_neg this]
            exact (s.2.1 _ z.1.1 z.1.2 z.2).2
      · -- the nearest column is tight now
        have hrl : (0 ≤ rl k v c ∧ rl k v c < ((m + n : Nat) : Int)) ∧ tree k v (rl k v c) := by
          unfold rl
          rcases hb24.1 with z | z
          · rw [if_pos z]; exact ⟨by omega, Or.inl rfl⟩
          · rw [if_neg (by omega)]
            have q := row_k a3 k1 z.1.1 z.1.2 (s.2.1 _ z.1.1 z.1.2 z.2).1
            refine ⟨q.1.1, Or.inr ⟨?_, ?_⟩⟩
            · rw [q.1.2]; omega
            · rw [q.1.2, z.2]; decide
        rw [(SPP_gv hs hrl.1.1 hrl.1.2 c0 c1).2.1 hrl.2 hb]
        have := hb24.2
        omega
    · rw [if_neg y] at hc
      have q := t c c0 c1 hc
      refine ⟨?_, ?_⟩
      · rcases q.1 with z | z
        · exact Or.inl z
        · have hne : v 24 c ≠ b := fun e => by
            have := z.2.1
            rw [e, hb] at this
            omega
          refine Or.inr ⟨z.1, ?_, ?_, z.2.2.2⟩
          · rw [e26, if_neg hne]; exact z.2.1
          · show (if v 24 c = b then step else rho (v 24 c)) < (if c = b then step else rho c)
            rw [if_neg hne, if_neg y]
            exact z.2.2.1
      · have hrl : (0 ≤ rl k v c ∧ rl k v c < ((m + n : Nat) : Int)) ∧ tree k v (rl k v c) := by
          unfold rl
          rcases q.1 with z | z
          · rw [if_pos z]; exact ⟨by omega, Or.inl rfl⟩
          · rw [if_neg (by omega)]
            have q := row_k a3 k1 z.1.1 z.1.2 z.2.2.2
            refine ⟨q.1.1, Or.inr ⟨?_, ?_⟩⟩
            · rw [q.1.2]; omega
            · rw [q.1.2, z.2.1]; decide
        rw [(SPP_gv hs hrl.1.1 hrl.1.2 c0 c1).1 hrl.2 (by omega)]
        exact q.2
  refine ⟨hTB, hTT, by rw [e20], fun hne => ⟨hTB, hTT, ⟨fun c c0 c1 => ?_, fun c c0 c1 hc => ?_, ?_, fun c c0 c1 => ?_⟩, Or.inr ⟨by omega, ⟨b0, b1⟩, ?_, by rw [e20], fun c c0 c1 hc => ?_⟩⟩⟩
  · rw [e26]
    split
    · exact Or.inr rfl
    · exact s.1 c c0 c1
  · rw [e20]
    rw [e26] at hc
    by_cases y : c = b
    · rw [y]
      refine ⟨hne, ?_⟩
      show (if b = b then step else rho b) < step + 1
      rw [if_pos rfl]; omega
    · rw [if_neg y] at hc
      have q := s.2.1 c c0 c1 hc
      refine ⟨q.1, ?_⟩
      show (if c = b then step else rho c) < step + 1
      rw [if_neg y]; omega
  · rw [show up w 26 b 1 26 = fun c => if c = b then 1 else v 26 c from funext e26, sg_upd (v 26) b 1 (m + n) b0 b1, hb]
    have := s.2.2.1
    omega
  · rw [e23, (hs.2 c c0 c1).1]
    have q := s.2.2.2 c c0 c1
    split
    · rename_i z
      have := hmin c c0 c1 z
      omega
    · exact q
  · rw [e26, if_pos rfl]
  · rw [e26] at hc
    have hcb : c ≠ b := fun e => by rw [if_pos e] at hc; omega
    rw [if_neg hcb] at hc
    obtain ⟨⟨p1, p2⟩, p3⟩ := r c c0 c1 hc
    have e23c : w 23 c = v 23 c - v 23 b := by rw [(hs.2 c c0 c1).1, if_pos hc]
    refine ⟨⟨?_, ?_⟩, fun i i0 i1 hi hir => ?_⟩
    · rw [e24]
      rcases p1 with z | z
      · exact Or.inl z
      · refine Or.inr ⟨z.1, ?_⟩
        rw [e26]
        split
        · rfl
        · exact z.2
    · rw [e23, rlE, egu, e23c]
      have hrl : (0 ≤ rl k v c ∧ rl k v c < ((m + n : Nat) : Int)) ∧ tree k v (rl k v c) := by
        unfold rl
        rcases p1 with z | z
        · rw [if_pos z]; exact ⟨by omega, Or.inl rfl⟩
        · rw [if_neg (by omega)]
          have q := row_k a3 k1 z.1.1 z.1.2 (s.2.1 _ z.1.1 z.1.2 z.2).1
          refine ⟨q.1.1, Or.inr ⟨?_, ?_⟩⟩
          · rw [q.1.2]; omega
          · rw [q.1.2, z.2]; decide
      rw [(SPP_gv hs hrl.1.1 hrl.1.2 c0 c1).2.1 hrl.2 hc]
      omega
    · rw [e23, egu, e23c]
      have hi' : tree k v i := by
        unfold tree at hi ⊢
        rw [e19] at hi
        rcases hi with z | z
        · exact Or.inl z
        · refine Or.inr ⟨z.1, ?_⟩
          have h2 := z.2
          rw [e26] at h2
          by_cases y : v 19 i = b
          · exfalso
            apply hir
            have : i < k ∨ (m : Int) ≤ i := by
              apply Classical.byContradiction
              intro g2
              exact z.1 (a3.2.1 i (by omega) (by omega))
            have q := (a3.1 i i0 i1 this).2.1
            rw [← y]; exact q.symm
          · rwa [if_neg y] at h2
      rw [(SPP_gv hs i0 i1 c0 c1).2.1 hi' hc]
      have := p3 i i0 i1 hi'
      omega
/-- before the first step -/
theorem HI_start {m n : Nat} {k : Int} {v w : VV} (k0 : 0 ≤ k) (k1 : k < m) (h : HI m n k v) (hf : fr [23, 24, 26] v w) (hp : ∀ c : Int, 0 ≤ c → c < ((m + n : Nat) : Int) → w 26 c = 0 ∧ w 24 c = -1 ∧ w 23 c = 1000000000) : TI m n k k (-1) 0 (fun _ => 0) w := by
  obtain ⟨a1, a2, a3, a4, a5⟩ := h
  have hB : TB m n k v := by
    refine ⟨a1, a2, a3, fun i i0 i1 => a4 i (by omega) i1, fun c c0 c1 => ?_, ?_⟩
    · have q := (cF_bd a1 a2 (i := k) (c := c) k0 c0).1
      have q2 := (a5 c c0 c1).2.2
      have q3 := a4 k (by omega) k1
      unfold gv
      omega
    · rw [a4 k (by omega) k1, Int.add_zero]; exact a5
  refine ⟨TB_fr hB hf (by decide) (by decide) (by decide) (by decide) (by decide) (by decide), fun c c0 c1 hc => ?_, ⟨fun c c0 c1 => Or.inl (hp c c0 c1).1, fun c c0 c1 hc => ?_, ?_, fun c c0 c1 => ?_⟩, Or.inl ⟨rfl, rfl, rfl, hp⟩⟩
  · have := (hp c c0 c1).1; omega
  · have := (hp c c0 c1).1; omega
  · rw [sg_congr (g := fun _ => 0) (m + n) (fun i i0 i1 => (hp i i0 i1).1), sg_const]; simp
  · have := (hp c c0 c1).2.2; omega
theorem MVI_start {m n : Nat} {k : Int} {v : VV} (hM : MT m n k v) {rho : Int → Nat} {j : Int} (j0 : 0 ≤ j) (j1 : j < ((m + n : Nat) : Int)) (hj : v 20 j = -1) : MVI m n v rho j v := by
  refine ⟨fr_rf, ⟨j0, j1⟩, fun i i0 i1 => ?_, fun i _ _ => Iff.rfl, fun c c0 c1 _ => ?_, fun _ _ _ _ => rfl⟩
  · by_cases g : i < k ∨ (m : Int) ≤ i
    · have q := hM.1 i i0 i1 g
      refine Or.inr ⟨q.1, q.2.1, fun e => ?_, q.2.2⟩
      have e2 := q.2.1
      rw [e, hj] at e2
      omega
    · exact Or.inl (hM.2.1 i (by omega) (by omega))
  · rcases hM.2.2.1 c c0 c1 with z | z
    · exact Or.inl ⟨z.1, z.1⟩
    · exact Or.inr z
theorem HI_next {m n : Nat} {k : Int} {v w : VV} (k0 : 0 ≤ k) (k1 : k < m) (hB : TB m n k v) (h21 : v 21 k ≤ 10000000) (hP : MVP m n v k w) : HI m n (k + 1) w := by
  obtain ⟨a1, a2, a3, a4, a5, a6⟩ := hB
  obtain ⟨p0, p1, p2, p3⟩ := hP
  have egv : ∀ i c, gv m n w i c = gv m n v i c := gv_fr p0 (by decide) (by decide) (by decide)
  have e21 := p0 21 (by decide)
  have e22 := p0 22 (by decide)
  refine ⟨a1.fr p0 (by decide), ?_, ⟨fun i i0 i1 hi => ?_, fun i i0 i1 => ?_, fun c c0 c1 => ?_, fun i c i0 i1 c0 c1 hi => ?_⟩, fun i i0 i1 => ?_, fun i i0 i1 => ?_⟩
  · unfold BP; rw [p0 18 (by decide)]; exact a2
  · rw [egv]
    refine p1 i i0 i1 ?_
    by_cases y : i = k
    · exact Or.inl y
    · have := (a3.1 i i0 i1 (by omega)).1
      exact Or.inr (by omega)
  · exact p2 i (by omega) (by omega) (by omega) (a3.2.1 i (by omega) i1)
  · rw [e22]
    rcases p3 c c0 c1 with z | z
    · refine Or.inl ⟨z.1, ?_⟩
      rcases a3.2.2.1 c c0 c1 with y | y
      · exact y.2
      · omega
    · exact Or.inr z
  · rw [egv]
    by_cases y : i = k
    · rw [y]; exact a5 c c0 c1
    · exact a3.2.2.2 i c i0 i1 c0 c1 (by omega)
  · rw [e21]; exact a4 i (by omega) i1
  · rw [e21, e22]
    have := a6 i i0 i1
    omega
set_option maxRecDepth 20000 in
set_option maxHeartbeats 1000000 in
theorem c_X2_addSeat (l : Launch) (d nu : Nat) (v : VV) (m n : Nat) (k : Int) (hk : 0 ≤ k ∧ k < m) (hH : HI m n k v) : Ct l yX2_addSeat cX2_addSeat none 5 (d + 3) 0 0 [ar (some 17), ai k] (SG nu) v (fun r S2 w => r = none ∧ S2 = SG nu ∧ fr [19, 20, 21, 22, 23, 24, 26] v w ∧ HI m n (k + 1) w) := by
  refine Ct_of_G [some (ar (some 17)), some (ai k), none, none, none] (by decide) rfl rfl ?_
  have hD := hH.1
  obtain ⟨d9, d10, d11, hm, hn⟩ := id hD
  have fin : ∀ (b : Int) (rho : Int → Nat) (p : Int) (w : VV), fr [19, 20, 21, 22, 23, 24, 26] v w → w 21 k ≤ 10000000 → TB m n k w → TT m n k rho w → w 20 b = -1 → (0 ≤ b ∧ b < ((m + n : Nat) : Int)) → w 26 b = 1 → rho b < m + n → G l (yX2_addSeat, cX2_addSeat, none, 5, (d + 3), 0, 0, none) (fun r S2 w => r = none ∧ S2 = SG nu ∧ fr [19, 20, 21, 22, 23, 24, 26] v w ∧ HI m n (k + 1) w) 0 0 (SG nu) 11 [some (ar (some 17)), some (ai k), some (ai (-1)), some (ai b), some (ai p)] [] w := by
    intro b rho p w hfv h21 hB hT hb hb1 hs hrb
    have d11w : w 17 11 = ((m + n : Nat) : Int) := hB.1.2.2.1
    refine G_iload dX2_addSeat_11 rfl ?_
    refine G_aload_n dX2_addSeat_13 rfl ?_
    refine G_getIv (((m + n : Nat) : Int)) (jj := 11) dX2_addSeat_14 flX2_56 rfl rfl rfl d11w ?_
    refine G_icmp_ge 73 dX2_addSeat_17 (by decide) (fun h17 => ?_) (fun h17 => ?_)
    · refine G_aload_n dX2_addSeat_73 rfl ?_
      refine G_iload_n dX2_addSeat_74 rfl ?_
      refine G_iload_n dX2_addSeat_75 rfl ?_
      refine G_cVq (ci := 2) dX2_addSeat_76 rfl (by decide) rfl (c_X2_moveAlong l (d + 1) nu w m n hB.1 k ⟨hk.1, by omega⟩ (hB.2.2.1.2.1 k (by omega) hk.2) rho hT b (MVI_start hB.2.2.1 hb1.1 hb1.2 hb) hs hrb) mcX2_86 rfl rfl (by show _ ≤ d + 3; omega) rfl rfl (Nat.le_refl _) (Nat.le_refl _) (fun r S2 w2 hq9 => ?_)
      obtain ⟨rfl, rfl, hP⟩ := hq9
      exact G_vret dX2_addSeat_79 rfl rfl rfl ⟨rfl, rfl, fr_tr2 hfv hP.1 (by decide), HI_next hk.1 hk.2 hB h21 hP⟩
    · refine G_iload_n dX2_addSeat_20 rfl ?_
      refine G_iconst (n := (-1)) dX2_addSeat_21 ⟨by decide, by decide⟩ ?_
      refine G_icmp_eq 73 dX2_addSeat_22 (by decide) (fun h22 => ?_) (fun h22 => absurd rfl h22)
      refine G_aload_n dX2_addSeat_73 rfl ?_
      refine G_iload_n dX2_addSeat_74 rfl ?_
      refine G_iload_n dX2_addSeat_75 rfl ?_
      refine G_cVq (ci := 2) dX2_addSeat_76 rfl (by decide) rfl (c_X2_moveAlong l (d + 1) nu w m n hB.1 k ⟨hk.1, by omega⟩ (hB.2.2.1.2.1 k (by omega) hk.2) rho hT b (MVI_start hB.2.2.1 hb1.1 hb1.2 hb) hs hrb) mcX2_86 rfl rfl (by show _ ≤ d + 3; omega) rfl rfl (Nat.le_refl _) (Nat.le_refl _) (fun r S2 w2 hq9 => ?_)
      obtain ⟨rfl, rfl, hP⟩ := hq9
      exact G_vret dX2_addSeat_79 rfl rfl rfl ⟨rfl, rfl, fr_tr2 hfv hP.1 (by decide), HI_next hk.1 hk.2 hB h21 hP⟩
  have loop : ∀ (N : Nat) (row col p : Int) (step : Nat) (rho : Int → Nat) (w : VV), fr [19, 20, 21, 22, 23, 24, 26] v w → p = step → step + N = m + n → TI m n k row col step rho w → G l (yX2_addSeat, cX2_addSeat, none, 5, (d + 3), 0, 0, none) (fun r S2 w => r = none ∧ S2 = SG nu ∧ fr [19, 20, 21, 22, 23, 24, 26] v w ∧ HI m n (k + 1) w) 0 0 (SG nu) 11 [some (ar (some 17)), some (ai k), some (ai row), some (ai col), some (ai p)] [] w := by
    intro N
    induction N using Nat.strongRecOn with
    | ind N ih =>
    intro row col p step rho w hfv hp h1 hI
    have hr := TI_rho hk.1 hk.2 hI
    have d11w : w 17 11 = ((m + n : Nat) : Int) := hI.1.1.2.2.1
    refine G_iload dX2_addSeat_11 rfl ?_
    refine G_aload_n dX2_addSeat_13 rfl ?_
    refine G_getIv (((m + n : Nat) : Int)) (jj := 11) dX2_addSeat_14 flX2_56 rfl rfl rfl d11w ?_
    refine G_icmp_ge 73 dX2_addSeat_17 (by decide) (fun h17 => by omega) (fun h17 => ?_)
    refine G_iload_n dX2_addSeat_20 rfl ?_
    refine G_iconst (n := (-1)) dX2_addSeat_21 ⟨by decide, by decide⟩ ?_
    refine G_icmp_eq 73 dX2_addSeat_22 (by decide) (fun h22 => by omega) (fun h22 => ?_)
    refine G_aload_n dX2_addSeat_25 rfl ?_
    refine G_iload_n dX2_addSeat_26 rfl ?_
    refine G_iload_n dX2_addSeat_27 rfl ?_
    refine G_cVq (ci := 2) dX2_addSeat_28 rfl (by decide) rfl (c_X2_reach l (d + 1) nu w m n hI.1.1 (TB_bd hk.1 hk.2 hI.1 hr.2.2) row col hr.2.1) mcX2_76 rfl rfl (by show _ ≤ d + 3; omega) rfl rfl (Nat.le_refl _) (Nat.le_refl _) (fun r S2 w1 hq9 => ?_)
    obtain ⟨rfl, rfl, hf1, hp1⟩ := hq9
    have hR := TI_reach hk.1 hk.2 hI hf1 hp1
    refine G_aload_n dX2_addSeat_31 rfl ?_
    refine G_cVq (ci := 2) dX2_addSeat_32 rfl (by decide) rfl (c_X2_nearest l (d + 2) nu w1 m n hR.1.1) mcX2_79 rfl rfl (by show _ ≤ d + 3; omega) rfl rfl (Nat.le_refl _) (Nat.le_refl _) (fun r S2 w2 hq9 => ?_)
    obtain ⟨b, rfl, hb, rfl, rfl⟩ := hq9
    obtain ⟨b1, b2, b3⟩ : (0 ≤ b ∧ b < ((m + n : Nat) : Int)) ∧ w2 26 b = 0 ∧ ∀ c : Int, 0 ≤ c → c < ((m + n : Nat) : Int) → w2 26 c = 0 → w2 23 b ≤ w2 23 c := by
      rcases hb with ⟨-, y⟩ | y
      · exfalso
        obtain ⟨c, c0, c1, c2, c3⟩ := free_col hk.1 hk.2 hR.1.2.2.1
        rcases hR.2.2.1.1 c c0 c1 with z | z
        · exact y c c0 c1 z
        · exact (hR.2.2.1.2.1 c c0 c1 z).1 c2
      · exact y
    obtain ⟨⟨x0, x1⟩, x2, hspm, hbb⟩ := TR_by hk.1 hk.2 hR b1.1 b1.2 b2 b3
    refine G_istore_n dX2_addSeat_35 rfl rfl ?_
    refine G_iload_n dX2_addSeat_36 rfl ?_
    refine G_iconst (n := (-1)) dX2_addSeat_37 ⟨by decide, by decide⟩ ?_
    refine G_icmp_ne 42 dX2_addSeat_38 (by decide) (fun h38 => ?_) (fun h38 => by omega)
    refine G_aload_n dX2_addSeat_42 rfl ?_
    refine G_iload_n dX2_addSeat_43 rfl ?_
    refine G_aload_n dX2_addSeat_44 rfl ?_
    refine G_getR (jj := 5) dX2_addSeat_45 flX2_27 rfl rfl rfl ?_
    refine G_iload_n dX2_addSeat_48 rfl ?_
    refine G_iald dX2_addSeat_49 rfl (by omega) (by omega) ?_
    refine G_cVq (ci := 2) dX2_addSeat_50 rfl (by decide) rfl (c_X2_shiftParts l (d + 2) nu w2 m n hR.1.1 k (w2 23 b) ⟨hk.1, by omega⟩ ⟨x0, by omega⟩ hspm hbb) mcX2_83 rfl rfl (by show _ ≤ d + 3; omega) rfl rfl (Nat.le_refl _) (Nat.le_refl _) (fun r S2 w3 hq9 => ?_)
    obtain ⟨rfl, rfl, hsp⟩ := hq9
    obtain ⟨t1, t2, t3, t4⟩ := TR_shift hk.1 hk.2 hR b1.1 b1.2 b2 b3 hsp
    have hfw : fr [19, 20, 21, 22, 23, 24, 26] v (up w3 26 b 1) := fr_up (fr_tr2 (fr_tr2 hfv hf1 (js := [19, 20, 21, 22, 23, 24, 26]) (by decide)) hsp.1 (by decide)) (by decide) _ _
    have h21k : up w3 26 b 1 21 k ≤ 10000000 := by
      rw [up_c (show 21 ≠ 26 by decide), (hsp.2 k hk.1 (by omega)).2.2, if_pos (Or.inl rfl)]
      omega
    refine G_aload_n dX2_addSeat_53 rfl ?_
    refine G_getR (jj := 8) dX2_addSeat_54 flX2_36 rfl rfl rfl ?_
    refine G_iload_n dX2_addSeat_57 rfl ?_
    refine G_iconst (n := 1) dX2_addSeat_58 ⟨by decide, by decide⟩ ?_
    refine G_zast dX2_addSeat_59 rfl (by omega) (by omega) (Or.inr rfl) ?_
    refine G_aload_n dX2_addSeat_60 rfl ?_
    refine G_getR (jj := 2) dX2_addSeat_61 flX2_18 rfl rfl rfl ?_
    refine G_iload_n dX2_addSeat_64 rfl ?_
    refine G_ialdv (w2 20 b) dX2_addSeat_65 rfl (by omega) (by omega) t3 ?_
    refine G_istore_n dX2_addSeat_66 rfl rfl ?_
    refine G_iinc dX2_addSeat_67 rfl (iRm (by omega) (by omega)) rfl rfl ?_
    refine G_goto 11 dX2_addSeat_70 (by decide) ?_
    by_cases y : w2 20 b = -1
    · rw [y]
      exact fin b _ (p + 1) (up w3 26 b 1) hfw h21k t1 t2 (t3.trans y) b1 (by rw [up_self]) (by show (if b = b then step else rho b) < m + n; rw [if_pos rfl]; exact hr.1)
    · exact ih (N - 1) (by omega) (w2 20 b) b (p + 1) (step + 1) _ _ hfw (by omega) (by omega) (t4 y)
  refine G_aload_n dX2_addSeat_0 rfl ?_
  refine G_cVq (ci := 2) dX2_addSeat_1 rfl (by decide) rfl (c_X2_forgetColumns l (d + 2) nu v m n hD) mcX2_73 rfl rfl (by show _ ≤ d + 3; omega) rfl rfl (Nat.le_refl _) (Nat.le_refl _) (fun r S2 w hq9 => ?_)
  obtain ⟨rfl, rfl, hf1, hp1⟩ := hq9
  refine G_iload_n dX2_addSeat_4 rfl ?_
  refine G_istore_n dX2_addSeat_5 rfl rfl ?_
  refine G_iconst (n := (-1)) dX2_addSeat_6 ⟨by decide, by decide⟩ ?_
  refine G_istore_n dX2_addSeat_7 rfl rfl ?_
  refine G_iconst (n := 0) dX2_addSeat_8 ⟨by decide, by decide⟩ ?_
  refine G_istore dX2_addSeat_9 rfl rfl ?_
  exact loop (m + n) k (-1) 0 0 (fun _ => 0) w (fr_sub hf1 (by decide)) (by omega) (by omega) (HI_start hk.1 hk.2 hH hf1 hp1)
